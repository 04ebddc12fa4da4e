-- ===== the law: its loop =====
theorem and31 (x : Int32) : ∃ j, j < 32 ∧ x &&& nI 31 = nI j := by
  refine ⟨(x.toBitVec &&& 31#32).toNat, ?_, ?_⟩
  · rw [BitVec.toNat_and]
    have := Nat.and_le_right (n := x.toBitVec.toNat) (m := (31#32).toNat)
    have e : (31#32).toNat = 31 := rfl
    omega
  · apply Int32.toBitVec_inj.mp
    rw [Int32.toBitVec_and]
    show x.toBitVec &&& 31#32 = BitVec.ofNat 32 (x.toBitVec &&& 31#32).toNat
    rw [BitVec.ofNat_toNat, BitVec.setWidth_eq]
set_option maxHeartbeats 8000000 in
theorem law_loop {E : Ev} {C : Cx} {ba Ln : Nat} {xs : Nat → Int32} (hs : Scr E ba Ln xs C) (hL : Ln ≤ 2560) (hR : ∀ (pc : Nat) (L : List (Option Value)) (N : PM), decode cL_law pc = .ok (.ireturn, 1) → X E 8 RL cL_law 4 C pc L [.int 1] N) : ∀ k i, Ln + 5 ≤ i + k → i ≤ Ln + 5 → ∀ M, J M → X E 8 RL cL_law 4 C 18 [some (.ref ba), some (.ref (ad E 0)), some (.ref (ad E 40)), some (.int (nI i))] [] M := by
  intro k
  induction k with
  | zero =>
    intro i hk hi M hJ
    refine x_iload_n dL_law_18 rfl rfl ?_
    refine x_aload_n dL_law_19 rfl rfl ?_
    refine x_slen hs dL_law_20 ?_
    refine x_iconst (v := nI 5) dL_law_21 (by decide) ?_
    refine x_isub dL_law_22 ?_
    refine x_icmp_gt (tgt := 936) dL_law_23 (by decide) (fun hc => ?_) (fun hc => ?_)
    · refine x_iconst (v := 1) dL_law_936 (by decide) ?_
      exact hR _ _ _ dL_law_937
    · rw [Int32.lt_iff_toInt_lt, pk_sub_toInt (by omega) (by omega), nI_toInt (by omega)] at hc
      omega
  | succ k ih =>
    intro i hk hi M hJ
    refine x_iload_n dL_law_18 rfl rfl ?_
    refine x_aload_n dL_law_19 rfl rfl ?_
    refine x_slen hs dL_law_20 ?_
    refine x_iconst (v := nI 5) dL_law_21 (by decide) ?_
    refine x_isub dL_law_22 ?_
    refine x_icmp_gt (tgt := 936) dL_law_23 (by decide) (fun hc => ?_) (fun hc => ?_)
    · refine x_iconst (v := 1) dL_law_936 (by decide) ?_
      exact hR _ _ _ dL_law_937
    rw [Int32.lt_iff_toInt_lt, pk_sub_toInt (by omega) (by omega), nI_toInt (by omega)] at hc
    have hi5 : i + 5 ≤ Ln := by omega
    have nx : ∀ N, J N → X E 8 RL cL_law 4 C 930 [some (.ref ba), some (.ref (ad E 0)), some (.ref (ad E 40)), some (.int (nI i))] [] N := by
      intro N hN
      refine xinc4_3_5N dL_law_930 rfl ?_
      refine x_goto (tgt := 18) dL_law_933 (by decide) ?_
      exact ih (i + 5) (by omega) (by omega) N hN
    refine x_aload_n dL_law_26 rfl rfl ?_
    refine x_iload_n dL_law_27 rfl rfl ?_
    refine x_sldN hs dL_law_28 (by omega) (by omega) ?_
    refine x_bipush (v := nI 31) dL_law_29 (by decide) ?_
    refine x_iand dL_law_31 ?_
    obtain ⟨j, hj, ej⟩ := and31 (xs i)
    rw [ej]
    clear ej
    match j, hj with
    | 0, _ =>
      refine x_tableIn (off := 124) (tgt := 156) dL_law_32 (by decide) (by decide) (by decide) (by decide) ?_
      exact lc_write hs hL hi5 hJ nx
    | 1, _ =>
      refine x_tableIn (off := 147) (tgt := 179) dL_law_32 (by decide) (by decide) (by decide) (by decide) ?_
      exact lc_wipe hs hL hi5 hJ nx
    | 2, _ =>
      refine x_tableIn (off := 160) (tgt := 192) dL_law_32 (by decide) (by decide) (by decide) (by decide) ?_
      exact lc_fault hs hL hi5 hJ nx
    | 3, _ =>
      refine x_tableIn (off := 173) (tgt := 205) dL_law_32 (by decide) (by decide) (by decide) (by decide) ?_
      exact lc_family hs hL hi5 hJ nx
    | 4, _ =>
      refine x_tableIn (off := 186) (tgt := 218) dL_law_32 (by decide) (by decide) (by decide) (by decide) ?_
      exact lc_about hs hL hi5 hJ nx
    | 5, _ =>
      refine x_tableIn (off := 209) (tgt := 241) dL_law_32 (by decide) (by decide) (by decide) (by decide) ?_
      exact lc_cell hs hL hi5 hJ nx
    | 6, _ =>
      refine x_tableIn (off := 252) (tgt := 284) dL_law_32 (by decide) (by decide) (by decide) (by decide) ?_
      exact lc_kin hs hL hi5 hJ nx
    | 7, _ =>
      refine x_tableIn (off := 285) (tgt := 317) dL_law_32 (by decide) (by decide) (by decide) (by decide) ?_
      exact lc_has hs hL hi5 hJ nx
    | 8, _ =>
      refine x_tableIn (off := 318) (tgt := 350) dL_law_32 (by decide) (by decide) (by decide) (by decide) ?_
      exact lc_can hs hL hi5 hJ nx
    | 9, _ =>
      refine x_tableIn (off := 341) (tgt := 373) dL_law_32 (by decide) (by decide) (by decide) (by decide) ?_
      exact lc_draw hs hL hi5 hJ nx
    | 10, _ =>
      refine x_tableIn (off := 374) (tgt := 406) dL_law_32 (by decide) (by decide) (by decide) (by decide) ?_
      exact lc_change hs hL hi5 hJ nx
    | 11, _ =>
      refine x_tableIn (off := 397) (tgt := 429) dL_law_32 (by decide) (by decide) (by decide) (by decide) ?_
      exact lc_join hs hL hi5 hJ nx
    | 12, _ =>
      refine x_tableIn (off := 410) (tgt := 442) dL_law_32 (by decide) (by decide) (by decide) (by decide) ?_
      exact lc_undo hs hL hi5 hJ nx
    | 13, _ =>
      refine x_tableIn (off := 423) (tgt := 455) dL_law_32 (by decide) (by decide) (by decide) (by decide) ?_
      exact lc_best hs hL hi5 hJ nx
    | 14, _ =>
      refine x_tableIn (off := 446) (tgt := 478) dL_law_32 (by decide) (by decide) (by decide) (by decide) ?_
      exact lc_fewest hs hL hi5 hJ nx
    | 15, _ =>
      refine x_tableIn (off := 479) (tgt := 511) dL_law_32 (by decide) (by decide) (by decide) (by decide) ?_
      exact lc_fair hs hL hi5 hJ nx
    | 16, _ =>
      refine x_tableIn (off := 522) (tgt := 554) dL_law_32 (by decide) (by decide) (by decide) (by decide) ?_
      exact lc_judge hs hL hi5 hJ nx
    | 17, _ =>
      refine x_tableIn (off := 555) (tgt := 587) dL_law_32 (by decide) (by decide) (by decide) (by decide) ?_
      exact lc_share hs hL hi5 hJ nx
    | 18, _ =>
      refine x_tableIn (off := 614) (tgt := 646) dL_law_32 (by decide) (by decide) (by decide) (by decide) ?_
      exact lc_see hs hL hi5 hJ nx
    | 19, _ =>
      refine x_tableIn (off := 647) (tgt := 679) dL_law_32 (by decide) (by decide) (by decide) (by decide) ?_
      exact lc_unsee hs hL hi5 hJ nx
    | 20, _ =>
      refine x_tableIn (off := 660) (tgt := 692) dL_law_32 (by decide) (by decide) (by decide) (by decide) ?_
      exact lc_traces hs hL hi5 hJ nx
    | 21, _ =>
      refine x_tableIn (off := 683) (tgt := 715) dL_law_32 (by decide) (by decide) (by decide) (by decide) ?_
      exact lc_rests hs hL hi5 hJ nx
    | 22, _ =>
      refine x_tableIn (off := 706) (tgt := 738) dL_law_32 (by decide) (by decide) (by decide) (by decide) ?_
      exact lc_slips hs hL hi5 hJ nx
    | 23, _ =>
      refine x_tableIn (off := 775) (tgt := 807) dL_law_32 (by decide) (by decide) (by decide) (by decide) ?_
      exact lc_seed hs hL hi5 hJ nx
    | 24, _ =>
      refine x_tableIn (off := 829) (tgt := 861) dL_law_32 (by decide) (by decide) (by decide) (by decide) ?_
      exact lc_years hs hL hi5 hJ nx
    | 25, _ =>
      refine x_tableIn (off := 852) (tgt := 884) dL_law_32 (by decide) (by decide) (by decide) (by decide) ?_
      exact lc_keep hs hL hi5 hJ nx
    | 26, _ =>
      refine x_tableIn (off := 875) (tgt := 907) dL_law_32 (by decide) (by decide) (by decide) (by decide) ?_
      exact lc_again hs hL hi5 hJ nx
    | 27, _ =>
      refine x_tableOut (tgt := 930) dL_law_32 (Or.inr (by decide)) (by decide) ?_
      exact nx M hJ
    | 28, _ =>
      refine x_tableOut (tgt := 930) dL_law_32 (Or.inr (by decide)) (by decide) ?_
      exact nx M hJ
    | 29, _ =>
      refine x_tableOut (tgt := 930) dL_law_32 (Or.inr (by decide)) (by decide) ?_
      exact nx M hJ
    | 30, _ =>
      refine x_tableOut (tgt := 930) dL_law_32 (Or.inr (by decide)) (by decide) ?_
      exact nx M hJ
    | 31, _ =>
      refine x_tableOut (tgt := 930) dL_law_32 (Or.inr (by decide)) (by decide) ?_
      exact nx M hJ
    | j + 32, h => exact absurd h (by omega)
