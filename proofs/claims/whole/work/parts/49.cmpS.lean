-- ===== the component: what judge refuses; years =====
set_option maxHeartbeats 8000000 in
theorem k_judge_no (E : Ev) (d : Nat) (M : PM) (m row : Int32) (hm : ¬ jdOk m row) : Ci E d mX8_judge [.ref (ad E 0), .int m, .int row] M (fun v N => v = -2 ∧ M = N) := by
  have e1 : (nI 1).toInt = 1 := by decide
  have e4 : (nI 4).toInt = 4 := by decide
  refine Ct.ofi [some (.ref (ad E 0)), some (.int m), some (.int row), none, none, none, none] (own := RX8) rfl (by decide) (Nat.le_of_ble_eq_true rfl) rfl (fun C hR => ?_)
  have bad1 : X E d RX8 cX8_judge 7 C 10 [some (.ref (ad E 0)), some (.int m), some (.int row), none, none, none, none] [] M := by
    refine x_bipush (v := -2) dX8_judge_10 (by decide) ?_
    exact hR _ _ _ _ dX8_judge_12 (⟨rfl, rfl⟩)
  refine x_iload_n dX8_judge_0 rfl rfl ?_
  refine x_iconst (v := nI 1) dX8_judge_1 (by decide) ?_
  refine x_icmp_lt (tgt := 10) dX8_judge_2 (by decide) (fun hc => ?_) (fun hc => ?_)
  · exact bad1
  rw [Int32.lt_iff_toInt_lt, e1] at hc
  have g1 := hc
  refine x_iload_n dX8_judge_5 rfl rfl ?_
  refine x_iconst (v := nI 4) dX8_judge_6 (by decide) ?_
  refine x_icmp_le (tgt := 13) dX8_judge_7 (by decide) (fun hc => ?_) (fun hc => ?_)
  rotate_left
  · exact bad1
  rw [Int32.le_iff_toInt_le, e4] at hc
  have g4 := hc
  rcases ixc m 5 (by decide) with ⟨j, hj, rfl, hjt⟩ | hj
  rotate_left
  · exact absurd ⟨by omega, by omega⟩ hj
  have hp2 : 100 ^ j ≤ 100000000 := p100 (by omega)
  refine x_iconst (v := nI 1) dX8_judge_13 (by decide) ?_
  refine xis7_3 dX8_judge_14 rfl ?_
  refine x_iconst (v := nI 0) dX8_judge_15 (by decide) ?_
  refine xis7_4 dX8_judge_16 rfl ?_
  have key1 : ∀ i, i ≤ j → X E d RX8 cX8_judge 7 C 18 [some (.ref (ad E 0)), some (.int (nI j)), some (.int row), some (.int (nI (100 ^ i))), some (.int (nI i)), none, none] [] M := by
    refine up_loop j ?_ ?_
    · have bad2 : X E d RX8 cX8_judge 7 C 44 [some (.ref (ad E 0)), some (.int (nI j)), some (.int row), some (.int (nI (100 ^ j))), some (.int (nI j)), none, none] [] M := by
        refine x_bipush (v := -2) dX8_judge_44 (by decide) ?_
        exact hR _ _ _ _ dX8_judge_46 (⟨rfl, rfl⟩)
      refine x_iload dX8_judge_18 rfl ?_
      refine x_iload_n dX8_judge_20 rfl rfl ?_
      refine x_icmp_geN (tgt := 35) dX8_judge_21 (by decide) (by omega) (by omega) (fun hc => ?_) (fun hc => ?_)
      rotate_left
      · exact absurd hc (by omega)
      refine x_iload_n dX8_judge_35 rfl rfl ?_
      refine x_if_lt (tgt := 44) dX8_judge_36 (by decide) (fun hc => ?_) (fun hc => ?_)
      · exact bad2
      rw [Int32.lt_iff_toInt_lt, Int32.toInt_zero] at hc
      obtain ⟨r, hr, rfl⟩ : ∃ r : Nat, r < 2147483648 ∧ row = nI r := by
        have hlt := row.toInt_lt
        refine ⟨row.toInt.toNat, by omega, ?_⟩
        apply Int32.toInt_inj.mp
        rw [nI_toInt (by omega)]
        omega
      have hbig : 100 ^ j ≤ r := by
        rcases Nat.lt_or_ge r (100 ^ j) with z | z
        · refine absurd ⟨⟨by omega, by omega⟩, by omega, ?_⟩ hm
          rw [tn_nI (by omega), nI_toInt hr]
          omega
        · exact z
      refine x_iload_n dX8_judge_39 rfl rfl ?_
      refine x_iload_n dX8_judge_40 rfl rfl ?_
      refine x_icmp_ltN (tgt := 47) dX8_judge_41 (by decide) (by omega) (by omega) (fun hc => ?_) (fun hc => ?_)
      · exact absurd hc (by omega)
      · exact bad2
    · intro i hi ih
      have hp3 : 100 ^ (i + 1) ≤ 100000000 := p100 (by omega)
      rw [Nat.pow_succ] at ih hp3
      refine x_iload dX8_judge_18 rfl ?_
      refine x_iload_n dX8_judge_20 rfl rfl ?_
      refine x_icmp_geN (tgt := 35) dX8_judge_21 (by decide) (by omega) (by omega) (fun hc => ?_) (fun hc => ?_)
      · exact absurd hc (by omega)
      refine x_iload_n dX8_judge_24 rfl rfl ?_
      refine x_bipush (v := nI 100) dX8_judge_25 (by decide) ?_
      refine x_imulN dX8_judge_27 ?_
      refine xis7_3 dX8_judge_28 rfl ?_
      refine xinc7_4N dX8_judge_29 rfl ?_
      refine x_goto (tgt := 18) dX8_judge_32 (by decide) ?_
      exact ih
  exact key1 0 (by omega)
theorem swq_lt {q : Nat → Nat} {n B r0 a : Nat} (h : ∀ r c, r < n → c < 5 → q (5 * r + c) < B) (hr0 : r0 < n) (h1 : 1 ≤ a) (h4 : a ≤ 4) : ∀ r c, r < n → c < 5 → swq q (5 * r0 + a) (5 * r + c) < B := by
  intro r c hr hc
  unfold swq
  split
  · rw [show 5 * r0 + a - 1 = 5 * r0 + (a - 1) by omega]; exact h r0 (a - 1) hr0 (by omega)
  · split
    · exact h r0 a hr0 (by omega)
    · exact h r c hr hc
theorem doQ_lt {q w : Nat → Nat} {n B t : Nat} (h : ∀ r c, r < n → c < 5 → q (5 * r + c) < B) : ∀ r c, r < n → c < 5 → doQ n q w t (5 * r + c) < B := by
  unfold doQ
  split
  · rename_i hx
    obtain ⟨h30, hd, h2⟩ := hx
    unfold doR at hd
    rw [if_neg h30] at hd
    by_cases hn : n ≤ t % 10 ∨ 2 < t / 10
    · rw [if_pos hn] at hd; exact absurd hd (by decide)
    · rw [if_neg hn, if_pos h2] at hd
      have hd := of_decide_eq_true hd
      exact swq_lt h (by omega) hd.1 hd.2
  · exact h
theorem Hc.eq {M N : PM} {n K D : Nat} {kd pt nd : Nat → Nat} (h : Hc M n K D kd pt nd) (e3 : N.1 3 = M.1 3) (e4 : N.1 4 = M.1 4) (e6 : N.1 6 = M.1 6) (e7 : N.1 7 = M.1 7) : Hc N n K D kd pt nd := by
  unfold Hc at *
  rw [e3, e4, e6, e7]
  exact h
theorem Tb.sl {M : PM} {T n : Nat} {q w : Nat → Nat} {c : Nat} {v : Int64} (h : Tb M T n q w) : Tb (sl M c v) T n q w := h
theorem Cw_16 {N : PM} {n : Nat} {q w : Nat → Nat} (h : Tb N 16 n q w) : Cw N 17 18 n q w := ⟨rfl, by decide, rfl, by decide, h.1, h.2.1, h.2.2⟩
set_option maxHeartbeats 8000000 in
theorem k_years (E : Ev) (d : Nat) (M : PM) (n K D m : Nat) (q w kd pt nd : Nat → Nat) (s0 : Int64) (hH : Hc M n K D kd pt nd) (hT : Tb M 13 n q w) (hm : 1 ≤ m) (hm30 : m ≤ 30) (hs0 : M.2 0 = s0) (hqK : ∀ r c, r < n → c < 5 → q (5 * r + c) < 4 * K) : Ci E (d + 4) mX8_years [.ref (ad E 0), .int (nI m)] M (fun v N => v = nI (yrA n K s0 q w m) ∧ N.2 = (sl M 0 (yrS m s0)).2 ∧ ∀ c, c ∉ [16, 17, 18, 32, 33] → N.1 c = M.1 c) := by
  obtain ⟨f1, f2, f3, f4, f5, f6, f7, f8, f9⟩ := id hH
  refine Ct.ofi [some (.ref (ad E 0)), some (.int (nI m)), none, none, none] (own := RX8) rfl (by decide) (Nat.le_of_ble_eq_true rfl) rfl (fun C hR => ?_)
  refine x_iload_n dX8_years_0 rfl rfl ?_
  refine x_iconst (v := nI 1) dX8_years_1 (by decide) ?_
  refine x_icmp_ltN (tgt := 11) dX8_years_2 (by decide) (by omega) (by omega) (fun hc => ?_) (fun hc => ?_)
  · exact absurd hc (by omega)
  refine x_iload_n dX8_years_5 rfl rfl ?_
  refine x_bipush (v := nI 30) dX8_years_6 (by decide) ?_
  refine x_icmp_leN (tgt := 14) dX8_years_8 (by decide) (by omega) (by omega) (fun hc => ?_) (fun hc => ?_)
  rotate_left
  · exact absurd hc (by omega)
  refine x_aload_n dX8_years_14 rfl rfl ?_
  refine x_getr dX8_years_15 fX8_35 rfl rfl (by decide) ?_
  refine x_aload_n dX8_years_18 rfl rfl ?_
  refine x_getr dX8_years_19 fX8_31 rfl rfl (by decide) ?_
  refine x_callVv dX8_years_22 mvX4_copyOf kX8_249 (k_copyOf_16_13 E (d + 2) M) rfl (by decide) (by omega) rfl rfl (Nat.le_of_ble_eq_true rfl) ?_
  rintro N0 ⟨hN0, e1, e2, e3⟩
  refine x_iconst (v := nI 0) dX8_years_25 (by decide) ?_
  refine xis5_2 dX8_years_26 rfl ?_
  refine x_iconst (v := nI 0) dX8_years_27 (by decide) ?_
  refine xis5_3 dX8_years_28 rfl ?_
  have key : ∀ i, i ≤ m → ∀ N l4, (∀ c, c ∉ [16, 17, 18, 32, 33] → N.1 c = M.1 c) → N.2 = (sl M 0 (yrS i s0)).2 → Tb N 16 n (yrP n s0 q w i).1 (yrP n s0 q w i).2 → (∀ r c, r < n → c < 5 → (yrP n s0 q w i).1 (5 * r + c) < 4 * K) → X E (d + 4) RX8 cX8_years 5 C 29 [some (.ref (ad E 0)), some (.int (nI m)), some (.int (nI (yrA n K s0 q w i))), some (.int (nI i)), l4] [] N := by
    refine up_loop m ?_ ?_
    · intro N l4 hN hs hP hQ
      refine x_iload_n dX8_years_29 rfl rfl ?_
      refine x_iload_n dX8_years_30 rfl rfl ?_
      refine x_icmp_geN (tgt := 134) dX8_years_31 (by decide) (by omega) (by omega) (fun hc => ?_) (fun hc => ?_)
      · refine x_iload_n dX8_years_134 rfl rfl ?_
        exact hR _ _ _ _ dX8_years_135 (⟨rfl, hs, hN⟩)
      · exact absurd hc (by omega)
    · intro i hi ih N l4 hN hs hP hQ
      rw [yrA_s, yrP_1, yrP_2, yrS_s] at ih
      have e40 : N.2 0 = yrS i s0 := by rw [hs]; exact sl_2
      obtain ⟨s', hs'⟩ : ∃ s', s' = sdn (yrS i s0) := ⟨_, rfl⟩
      rw [← hs'] at ih
      have hx16 := xn_lt s'
      have hx30 : xt s' < 100 := by unfold xt; omega
      have ea : xt s' / 10 = xn s' / 5 := by unfold xt; omega
      have eb : xt s' % 10 = xn s' % 5 := by unfold xt; omega
      have hf : ∀ c k v, c ∉ [16, 17, 18, 32, 33] → M.1 c k = v → (sl N 0 s').1 c k = v := fun c k v hc h => by rw [sl_1, hN c hc]; exact h
      have rest : ∀ N2, Fr (sl N 0 s') N2 [16, 17, 18] → Tb N2 16 n (doQ n (yrP n s0 q w i).1 (yrP n s0 q w i).2 (xt s')) (doW n (yrP n s0 q w i).2 (xt s')) → X E (d + 4) RX8 cX8_years 5 C 97 [some (.ref (ad E 0)), some (.int (nI m)), some (.int (nI (yrA n K s0 q w i))), some (.int (nI i)), some (.int (nI (xn s')))] [] N2 := by
        intro N2 hN2 hP2
        have hQ2 := doQ_lt (w := (yrP n s0 q w i).2) (t := xt s') hQ
        have hc2 : ∀ c, c ∉ [16, 17, 18, 32, 33] → N2.1 c = M.1 c := fun c hc => by
          rw [hN2.2 c (fun e => hc (by simp at e; rcases e with e | e | e <;> simp [e])), sl_1]; exact hN c hc
        have hH2 : Hc N2 n K D kd pt nd := hH.eq (hc2 3 (by decide)) (hc2 4 (by decide)) (hc2 6 (by decide)) (hc2 7 (by decide))
        refine x_aload_n dX8_years_97 rfl rfl ?_
        refine x_getr dX8_years_98 fX8_56 rfl rfl (by decide) ?_
        refine x_aload_n dX8_years_101 rfl rfl ?_
        refine x_getr dX8_years_102 fX8_35 rfl rfl (by decide) ?_
        refine x_getr dX8_years_105 fX8_139 rfl rfl (by decide) ?_
        refine x_aload_n dX8_years_108 rfl rfl ?_
        refine x_getr dX8_years_109 fX8_35 rfl rfl (by decide) ?_
        refine x_getr dX8_years_112 fX8_143 rfl rfl (by decide) ?_
        refine x_callVv dX8_years_115 mvX5_take kX8_209 (k_take E d N2 17 18 n K D _ _ kd pt nd hH2 (Cw_16 hP2) hQ2) rfl (by decide) (by omega) rfl rfl (Nat.le_of_ble_eq_true rfl) ?_
        rintro N3 ⟨hN3, hl3, ht3⟩
        refine x_iload_n dX8_years_118 rfl rfl ?_
        refine x_aload_n dX8_years_119 rfl rfl ?_
        refine x_getr dX8_years_120 fX8_56 rfl rfl (by decide) ?_
        refine x_callVi dX8_years_123 mvX5_partedCount kX8_216 (k_partedCount E d N3 n K _ _ (hN3.v (by decide) (by rw [hc2 3 (by decide)]; exact f2)) f5 f4 hl3) rfl (by decide) (by omega) rfl rfl (Nat.le_of_ble_eq_true rfl) ?_
        rintro _ _ ⟨rfl, rfl⟩
        refine x_iaddN dX8_years_126 ?_
        refine xis5_2 dX8_years_127 rfl ?_
        refine xinc5_3N dX8_years_128 rfl ?_
        refine x_goto (tgt := 29) dX8_years_131 (by decide) ?_
        refine ih N3 _ (fun c hc => ?_) ?_ (hP2.fr hN3 (by decide) (by decide)) hQ2
        · rw [hN3.2 c (fun e => hc (by simp at e; rcases e with e | e <;> simp [e]))]; exact hc2 c hc
        · rw [hN3.1, hN2.1]
          funext c
          show (if c = 0 then s' else N.2 c) = if c = 0 then s' else M.2 c
          by_cases e : c = 0
          · rw [if_pos e, if_pos e]
          · rw [if_neg e, if_neg e, hs]; show (if c = 0 then yrS i s0 else M.2 c) = _; rw [if_neg e]
      refine x_iload_n dX8_years_29 rfl rfl ?_
      refine x_iload_n dX8_years_30 rfl rfl ?_
      refine x_icmp_geN (tgt := 134) dX8_years_31 (by decide) (by omega) (by omega) (fun hc => ?_) (fun hc => ?_)
      · exact absurd hc (by omega)
      refine x_aload_n dX8_years_34 rfl rfl ?_
      refine x_aload_n dX8_years_35 rfl rfl ?_
      refine x_getl dX8_years_36 fX8_81 rfl rfl (by decide) ?_
      refine x_ldc2 dX8_years_39 qX8_284 ?_
      refine x_lmul dX8_years_42 ?_
      refine x_ldc2 dX8_years_43 qX8_286 ?_
      refine x_ladd dX8_years_46 ?_
      rw [e40, show yrS i s0 * 6364136223846793005 + 1442695040888963407 = s' from hs'.symm]
      clear hs'
      refine x_putl dX8_years_47 pX8_81 rfl rfl seedOnly8 (by decide) ?_
      refine x_aload_n dX8_years_50 rfl rfl ?_
      refine x_getl dX8_years_51 fX8_81 rfl rfl (by decide) ?_
      refine x_bipush (v := nI 33) dX8_years_54 (by decide) ?_
      refine x_lushr dX8_years_56 ?_
      refine x_ldc2 dX8_years_57 qX8_288 ?_
      refine x_lrem dX8_years_60 (by decide) ?_
      rw [sl_2]
      refine x_l2i dX8_years_61 ?_
      rw [xn_raw]
      refine xis5_4 dX8_years_62 rfl ?_
      refine x_iload dX8_years_64 rfl ?_
      refine x_bipush (v := nI 15) dX8_years_66 (by decide) ?_
      refine x_icmp_neN (tgt := 81) dX8_years_68 (by decide) (by omega) (by omega) (fun hc => ?_) (fun hc => ?_)
      · refine x_aload_n dX8_years_81 rfl rfl ?_
        refine x_getr dX8_years_82 fX8_35 rfl rfl (by decide) ?_
        refine x_iload dX8_years_85 rfl ?_
        refine x_iconst (v := nI 5) dX8_years_87 (by decide) ?_
        refine x_idivN dX8_years_88 (by omega) (by omega) (by omega) ?_
        refine x_iload dX8_years_89 rfl ?_
        refine x_iconst (v := nI 5) dX8_years_91 (by decide) ?_
        refine x_iremN dX8_years_92 (by omega) (by omega) (by omega) ?_
        rw [← ea, ← eb]
        refine x_callVi dX8_years_93 mvX4_act kX8_252 (k_act E d (sl N 0 s') n (xt s') (yrP n s0 q w i).1 (yrP n s0 q w i).2 (hf 3 5 _ (by decide) f1) hP.sl hx30) rfl (by decide) (by omega) rfl rfl (Nat.le_of_ble_eq_true rfl) ?_
        rintro _ N2 ⟨rfl, hN2, hP2⟩
        refine x_pop dX8_years_96 rfl ?_
        exact rest N2 hN2 hP2
      · have e30 : xt s' = 30 := by unfold xt; omega
        refine x_aload_n dX8_years_71 rfl rfl ?_
        refine x_getr dX8_years_72 fX8_35 rfl rfl (by decide) ?_
        refine x_callVv dX8_years_75 mvX4_joinFaces kX8_193 (k_joinFaces_16 E (d + 2) (sl N 0 s') n (yrP n s0 q w i).1 (yrP n s0 q w i).2 (hf 3 5 _ (by decide) f1) hP.sl) rfl (by decide) (by omega) rfl rfl (Nat.le_of_ble_eq_true rfl) ?_
        rintro N2 ⟨hN2, hg2, hP2⟩
        refine x_goto (tgt := 97) dX8_years_78 (by decide) ?_
        refine rest N2 (hN2.wd (by decide)) ?_
        rw [show doQ n (yrP n s0 q w i).1 (yrP n s0 q w i).2 (xt s') = (yrP n s0 q w i).1 by unfold doQ; rw [if_neg (fun z => z.1 e30)], show doW n (yrP n s0 q w i).2 (xt s') = (fun _ => 2) by unfold doW; rw [if_pos e30]]
        exact hP2
  refine key 0 (by omega) N0 _ (fun c hc => hN0.2 c (fun e => hc (by simp at e; rcases e with e | e | e <;> simp [e]))) ?_ (hT.of e1 e2) hqK
  rw [hN0.1]
  funext c
  show M.2 c = if c = 0 then s0 else M.2 c
  by_cases e : c = 0
  · rw [if_pos e, e, hs0]
  · rw [if_neg e]
