-- ===== the component: how many rests, the first =====
def PR (N : PM) (w : Nat → Nat) (n k : Nat) : Prop := N.1 39 0 = nI (rsC w n k) ∧ (0 < rsC w n k → N.1 39 1 = nI 0) ∧ N.1 39 2 = rsF w n k
theorem rsC_s (w : Nat → Nat) (n k : Nat) : rsC w n (k + 1) = rsC w n k + if rsA w n (k / 2) (k % 2) = true then 1 else 0 := rfl
theorem rsF_s (w : Nat → Nat) (n k : Nat) : rsF w n (k + 1) = if rsA w n (k / 2) (k % 2) = true ∧ rsC w n k = 0 then nI (10 * (k / 2) + k % 2) else rsF w n k := rfl
theorem PR.miss {N : PM} {w : Nat → Nat} {n k : Nat} (h : PR N w n k) (hs : rsA w n (k / 2) (k % 2) = false) : PR N w n (k + 1) := by
  unfold PR
  rw [rsC_s, rsF_s, hs, if_neg (by decide), if_neg (fun z => by cases z.1), Nat.add_zero]
  exact h
theorem PR.hit {M N : PM} {w : Nat → Nat} {n k : Nat} {c0 : Int32} (h : PR M w n k) (h1 : M.1 39 1 = c0) (hs : rsA w n (k / 2) (k % 2) = true) (o0 : N.1 39 0 = nI (rsC w n k + 1)) (o1 : N.1 39 1 = (if rsC w n k = 0 ∨ nI 0 < c0 then nI 0 else c0)) (o2 : N.1 39 2 = (if rsC w n k = 0 ∨ nI 0 < c0 then nI (10 * (k / 2) + k % 2) else rsF w n k)) : PR N w n (k + 1) := by
  unfold PR
  rw [rsC_s, rsF_s, hs, if_pos rfl]
  by_cases z : rsC w n k = 0
  · rw [if_pos (Or.inl z)] at o1 o2
    rw [if_pos ⟨rfl, z⟩]
    exact ⟨o0, fun _ => o1, o2⟩
  · have hc0 : c0 = nI 0 := h1.symm.trans (h.2.1 (by omega))
    have hn : ¬ (rsC w n k = 0 ∨ nI 0 < c0) := by
      rw [hc0]
      rintro (y | y)
      · exact z y
      · exact absurd y (by decide)
    rw [if_neg hn] at o1 o2
    rw [if_neg (fun y => z y.2)]
    exact ⟨o0, fun _ => o1.trans hc0, o2⟩
theorem rsC_le (w : Nat → Nat) (n k : Nat) : rsC w n k ≤ k * 1 := fb_sm_bound (fun j _ => by split <;> omega)
set_option maxHeartbeats 8000000 in
theorem k_rests (E : Ev) (d : Nat) (M : PM) (n x : Nat) (q w : Nat → Nat) (hn : M.1 3 5 = nI n) (hT : Tb M 13 n q w) (hx : x < 2) : Ci E (d + 3) mX8_rests [.ref (ad E 0), .int (nI x)] M (fun v N => v = (if x = 0 then nI (rsC w n 4) else rsF w n 4) ∧ Fr M N [39]) := by
  refine Ct.ofi [some (.ref (ad E 0)), some (.int (nI x)), none, none] (own := RX8) rfl (by decide) (Nat.le_of_ble_eq_true rfl) rfl (fun C hR => ?_)
  have body : ∀ N a b, a < 2 → b < 2 → Fr M N [39] → PR N w n (2 * a + b) → (∀ N', Fr M N' [39] → PR N' w n (2 * a + b + 1) → X E (d + 3) RX8 cX8_rests 4 C 56 [some (.ref (ad E 0)), some (.int (nI x)), some (.int (nI a)), some (.int (nI b))] [] N') → X E (d + 3) RX8 cX8_rests 4 C 33 [some (.ref (ad E 0)), some (.int (nI x)), some (.int (nI a)), some (.int (nI b))] [] N := by
    intro N a b ha hb hN hP hX
    have e1 : (2 * a + b) / 2 = a := by omega
    have e2 : (2 * a + b) % 2 = b := by omega
    have hle := rsC_le w n (2 * a + b)
    refine x_aload_n dX8_rests_33 rfl rfl ?_
    refine x_iload_n dX8_rests_34 rfl rfl ?_
    refine x_iload_n dX8_rests_35 rfl rfl ?_
    refine x_callVi dX8_rests_36 mvX8_isAtRest kX8_276 (k_isAtRest E d N n a b q w (hN.v (by decide) hn) (hT.fr hN (by decide) (by decide)) ha hb) rfl (by decide) (by omega) rfl rfl (Nat.le_of_ble_eq_true rfl) ?_
    rintro _ _ ⟨rfl, rfl⟩
    refine x_if_eqB (tgt := 56) dX8_rests_39 (by decide) (fun hc => ?_) (fun hc => ?_)
    · exact hX N hN (hP.miss (by rw [e1, e2]; exact hc))
    refine x_aload_n dX8_rests_42 rfl rfl ?_
    refine x_getr dX8_rests_43 fX8_77 rfl rfl (by decide) ?_
    refine x_iconst (v := nI 0) dX8_rests_46 (by decide) ?_
    refine x_bipush (v := nI 10) dX8_rests_47 (by decide) ?_
    refine x_iload_n dX8_rests_49 rfl rfl ?_
    refine x_imulN dX8_rests_50 ?_
    refine x_iload_n dX8_rests_51 rfl rfl ?_
    refine x_iaddN dX8_rests_52 ?_
    refine x_callVv dX8_rests_53 mvX2_offer kX8_222 (k_offer E (d + 2) N _ _ _ _ _ hP.1 (by omega) rfl hP.2.2) rfl (by decide) (by omega) rfl rfl (Nat.le_of_ble_eq_true rfl) ?_
    rintro N3 ⟨hN3, o0, o1, o2⟩
    exact hX N3 (hN.tr hN3 (fun _ h => h)) (hP.hit rfl (by rw [e1, e2]; exact hc) o0 o1 (by rw [e1, e2]; exact o2))
  have start : X E (d + 3) RX8 cX8_rests 4 C 12 [some (.ref (ad E 0)), some (.int (nI x)), none, none] [] M := by
    refine x_aload_n dX8_rests_12 rfl rfl ?_
    refine x_getr dX8_rests_13 fX8_77 rfl rfl (by decide) ?_
    refine x_callVv dX8_rests_16 mvX2_begin kX8_200 (k_pbegin E (d + 2) M) rfl (by decide) (by omega) rfl rfl (Nat.le_of_ble_eq_true rfl) ?_
    rintro N1 ⟨hN1, p0, p1, p2⟩
    refine x_iconst (v := nI 0) dX8_rests_19 (by decide) ?_
    refine xis4_2 dX8_rests_20 rfl ?_
    have outer : ∀ N l3, Fr M N [39] → PR N w n 4 → X E (d + 3) RX8 cX8_rests 4 C 21 [some (.ref (ad E 0)), some (.int (nI x)), some (.int (nI 2)), l3] [] N := by
      intro N l3 hN hP
      refine x_iload_n dX8_rests_21 rfl rfl ?_
      refine x_iconst (v := nI 1) dX8_rests_22 (by decide) ?_
      refine x_icmp_gtN (tgt := 68) dX8_rests_23 (by decide) (by omega) (by omega) (fun hc => ?_) (fun hc => ?_)
      rotate_left
      · exact absurd hc (by omega)
      refine x_iload_n dX8_rests_68 rfl rfl ?_
      refine x_if_neN (tgt := 82) dX8_rests_69 (by decide) (by omega) (fun hc => ?_) (fun hc => ?_)
      · refine x_aload_n dX8_rests_82 rfl rfl ?_
        refine x_getr dX8_rests_83 fX8_77 rfl rfl (by decide) ?_
        refine x_getv (hP.2.2) dX8_rests_86 fX8_229 rfl rfl (by decide) ?_
        exact hR _ _ _ _ dX8_rests_89 (⟨by rw [if_neg hc], hN⟩)
      · refine x_aload_n dX8_rests_72 rfl rfl ?_
        refine x_getr dX8_rests_73 fX8_77 rfl rfl (by decide) ?_
        refine x_getv (hP.1) dX8_rests_76 fX8_248 rfl rfl (by decide) ?_
        refine x_goto (tgt := 89) dX8_rests_79 (by decide) ?_
        exact hR _ _ _ _ dX8_rests_89 (⟨by rw [if_pos hc], hN⟩)
    have two : ∀ N a l3, a < 2 → Fr M N [39] → PR N w n (2 * a) → (∀ N' l3, Fr M N' [39] → PR N' w n (2 * a + 2) → X E (d + 3) RX8 cX8_rests 4 C 21 [some (.ref (ad E 0)), some (.int (nI x)), some (.int (nI (a + 1))), l3] [] N') → X E (d + 3) RX8 cX8_rests 4 C 21 [some (.ref (ad E 0)), some (.int (nI x)), some (.int (nI a)), l3] [] N := by
      intro N a l3 ha hN hP hX
      refine x_iload_n dX8_rests_21 rfl rfl ?_
      refine x_iconst (v := nI 1) dX8_rests_22 (by decide) ?_
      refine x_icmp_gtN (tgt := 68) dX8_rests_23 (by decide) (by omega) (by omega) (fun hc => ?_) (fun hc => ?_)
      · exact absurd hc (by omega)
      refine x_iconst (v := nI 0) dX8_rests_26 (by decide) ?_
      refine xis4_3 dX8_rests_27 rfl ?_
      refine x_iload_n dX8_rests_28 rfl rfl ?_
      refine x_iconst (v := nI 1) dX8_rests_29 (by decide) ?_
      refine x_icmp_gtN (tgt := 62) dX8_rests_30 (by decide) (by omega) (by omega) (fun hc => ?_) (fun hc => ?_)
      · exact absurd hc (by omega)
      refine body N a 0 ha (by decide) hN hP (fun N2 hN2 hP2 => ?_)
      refine xinc4_3N dX8_rests_56 rfl ?_
      refine x_goto (tgt := 28) dX8_rests_59 (by decide) ?_
      refine x_iload_n dX8_rests_28 rfl rfl ?_
      refine x_iconst (v := nI 1) dX8_rests_29 (by decide) ?_
      refine x_icmp_gtN (tgt := 62) dX8_rests_30 (by decide) (by omega) (by omega) (fun hc => ?_) (fun hc => ?_)
      · exact absurd hc (by omega)
      refine body N2 a 1 ha (by decide) hN2 hP2 (fun N3 hN3 hP3 => ?_)
      refine xinc4_3N dX8_rests_56 rfl ?_
      refine x_goto (tgt := 28) dX8_rests_59 (by decide) ?_
      refine x_iload_n dX8_rests_28 rfl rfl ?_
      refine x_iconst (v := nI 1) dX8_rests_29 (by decide) ?_
      refine x_icmp_gtN (tgt := 62) dX8_rests_30 (by decide) (by omega) (by omega) (fun hc => ?_) (fun hc => ?_)
      rotate_left
      · exact absurd hc (by omega)
      refine xinc4_2N dX8_rests_62 rfl ?_
      refine x_goto (tgt := 21) dX8_rests_65 (by decide) ?_
      exact hX N3 _ hN3 hP3
    exact two N1 0 _ (by decide) hN1 ⟨p0, fun z => absurd z (Nat.lt_irrefl _), p2⟩ (fun N' l3 hN' hP' => two N' 1 l3 (by decide) hN' hP' (fun N2 l4 hN2 hP2 => outer N2 l4 hN2 hP2))
  refine x_iload_n dX8_rests_0 rfl rfl ?_
  refine x_if_eqN (tgt := 12) dX8_rests_1 (by decide) (by omega) (fun hc => ?_) (fun hc => ?_)
  · exact start
  refine x_iload_n dX8_rests_4 rfl rfl ?_
  refine x_iconst (v := nI 1) dX8_rests_5 (by decide) ?_
  refine x_icmp_eqN (tgt := 12) dX8_rests_6 (by decide) (by omega) (by omega) (fun hc => ?_) (fun hc => ?_)
  · exact start
  · exact absurd (by omega) hc
