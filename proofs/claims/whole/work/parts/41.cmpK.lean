-- ===== the component: judge; what is refused =====
set_option maxHeartbeats 8000000 in
theorem k_judge (E : Ev) (d : Nat) (M : PM) (n m row : Nat) (q w : Nat → Nat) (hn : M.1 3 5 = nI n) (hT : Tb M 13 n q w) (hm1 : 1 ≤ m) (hm4 : m ≤ 4) (hrow : row < 100 ^ m) : Ci E (d + 4) mX8_judge [.ref (ad E 0), .int (nI m), .int (nI row)] M (fun v N => v = jdF n (jts m row) m 0 q w ∧ Fr M N [16, 17, 18]) := by
  have h100 := p100 hm4
  have hpm : 100 ^ m = 100 ^ (m - 1) * 100 := by rw [← Nat.pow_succ]; congr 1; omega
  have hdm : 100 ^ m / 100 = 100 ^ (m - 1) := by rw [hpm]; exact Nat.mul_div_cancel _ (by decide)
  have hp1 : 0 < 100 ^ (m - 1) := Nat.pow_pos (by decide)
  have hp2 : 100 ^ (m - 1) ≤ 100000000 := p100 (by omega)
  refine Ct.ofi [some (.ref (ad E 0)), some (.int (nI m)), some (.int (nI row)), none, none, none, none] (own := RX8) rfl (by decide) (Nat.le_of_ble_eq_true rfl) rfl (fun C hR => ?_)
  refine x_iload_n dX8_judge_0 rfl rfl ?_
  refine x_iconst (v := nI 1) dX8_judge_1 (by decide) ?_
  refine x_icmp_ltN (tgt := 10) dX8_judge_2 (by decide) (by omega) (by omega) (fun hc => ?_) (fun hc => ?_)
  · exact absurd hc (by omega)
  refine x_iload_n dX8_judge_5 rfl rfl ?_
  refine x_iconst (v := nI 4) dX8_judge_6 (by decide) ?_
  refine x_icmp_leN (tgt := 13) dX8_judge_7 (by decide) (by omega) (by omega) (fun hc => ?_) (fun hc => ?_)
  rotate_left
  · exact absurd hc (by omega)
  refine x_iconst (v := nI 1) dX8_judge_13 (by decide) ?_
  refine xis7_3 dX8_judge_14 rfl ?_
  refine x_iconst (v := nI 0) dX8_judge_15 (by decide) ?_
  refine xis7_4 dX8_judge_16 rfl ?_
  have key1 : ∀ i, i ≤ m → X E (d + 4) RX8 cX8_judge 7 C 18 [some (.ref (ad E 0)), some (.int (nI m)), some (.int (nI row)), some (.int (nI (100 ^ i))), some (.int (nI i)), none, none] [] M := by
    refine up_loop m ?_ ?_
    · refine x_iload dX8_judge_18 rfl ?_
      refine x_iload_n dX8_judge_20 rfl rfl ?_
      refine x_icmp_geN (tgt := 35) dX8_judge_21 (by decide) (by omega) (by omega) (fun hc => ?_) (fun hc => ?_)
      rotate_left
      · exact absurd hc (by omega)
      refine x_iload_n dX8_judge_35 rfl rfl ?_
      refine x_if_ltN (tgt := 44) dX8_judge_36 (by decide) (by omega) ?_
      refine x_iload_n dX8_judge_39 rfl rfl ?_
      refine x_iload_n dX8_judge_40 rfl rfl ?_
      refine x_icmp_ltN (tgt := 47) dX8_judge_41 (by decide) (by omega) (by omega) (fun hc => ?_) (fun hc => ?_)
      rotate_left
      · exact absurd hc (by omega)
      refine x_aload_n dX8_judge_47 rfl rfl ?_
      refine x_getr dX8_judge_48 fX8_35 rfl rfl (by decide) ?_
      refine x_aload_n dX8_judge_51 rfl rfl ?_
      refine x_getr dX8_judge_52 fX8_31 rfl rfl (by decide) ?_
      refine x_callVv dX8_judge_55 mvX4_copyOf kX8_249 (k_copyOf_16_13 E (d + 2) M) rfl (by decide) (by omega) rfl rfl (Nat.le_of_ble_eq_true rfl) ?_
      rintro N0 ⟨hN0, e1, e2, e3⟩
      refine x_iload_n dX8_judge_58 rfl rfl ?_
      refine x_bipush (v := nI 100) dX8_judge_59 (by decide) ?_
      refine x_idivN dX8_judge_61 (by omega) (by omega) (by omega) ?_
      rw [hdm]
      refine xis7_4 dX8_judge_62 rfl ?_
      refine x_iconst (v := nI 0) dX8_judge_64 (by decide) ?_
      refine xis7_5 dX8_judge_65 rfl ?_
      have key : ∀ i, i ≤ m → ∀ N q' w' l6, Fr M N [16, 17, 18] → Tb N 16 n q' w' → jdF n (jts m row) (m - i) i q' w' = jdF n (jts m row) m 0 q w → X E (d + 4) RX8 cX8_judge 7 C 67 [some (.ref (ad E 0)), some (.int (nI m)), some (.int (nI row)), some (.int (nI (100 ^ m))), some (.int (nI (100 ^ (m - 1) / 100 ^ i))), some (.int (nI i)), l6] [] N := by
        refine up_loop m ?_ ?_
        · intro N q' w' l6 hN hP hJ
          rw [Nat.sub_self] at hJ
          refine x_iload dX8_judge_67 rfl ?_
          refine x_iload_n dX8_judge_69 rfl rfl ?_
          refine x_icmp_geN (tgt := 123) dX8_judge_70 (by decide) (by omega) (by omega) (fun hc => ?_) (fun hc => ?_)
          · refine x_bipush (v := -9) dX8_judge_123 (by decide) ?_
            exact hR _ _ _ _ dX8_judge_125 (⟨hJ, hN⟩)
          · exact absurd hc (by omega)
        · intro i hi ih N q' w' l6 hN hP hJ
          have eu : 100 ^ (m - 1) / 100 ^ i = 100 ^ (m - 1 - i) := Nat.pow_div (by omega) (by decide)
          have ev : 100 ^ (m - 1) / 100 ^ (i + 1) = 100 ^ (m - 1 - i) / 100 := by rw [Nat.pow_succ, ← Nat.div_div_eq_div_mul, eu]
          rw [ev] at ih
          rw [eu]
          rw [show m - i = (m - (i + 1)) + 1 by omega] at hJ
          have hpw : 0 < 100 ^ (m - 1 - i) := Nat.pow_pos (by decide)
          have hpw2 : 100 ^ (m - 1 - i) ≤ 100000000 := p100 (by omega)
          have hdv := Nat.div_le_self row (100 ^ (m - 1 - i))
          have hlt : jts m row i < 100 := Nat.mod_lt _ (by decide)
          have ej : row / 100 ^ (m - 1 - i) % 100 = jts m row i := rfl
          refine x_iload dX8_judge_67 rfl ?_
          refine x_iload_n dX8_judge_69 rfl rfl ?_
          refine x_icmp_geN (tgt := 123) dX8_judge_70 (by decide) (by omega) (by omega) (fun hc => ?_) (fun hc => ?_)
          · exact absurd hc (by omega)
          refine x_iload dX8_judge_73 rfl ?_
          refine x_if_leN (tgt := 123) dX8_judge_75 (by decide) (by omega) (fun hc => ?_) (fun hc => ?_)
          · exact absurd hc (by omega)
          refine x_iload_n dX8_judge_78 rfl rfl ?_
          refine x_iload dX8_judge_79 rfl ?_
          refine x_idivN dX8_judge_81 (by omega) (by omega) (by omega) ?_
          refine x_bipush (v := nI 100) dX8_judge_82 (by decide) ?_
          refine x_iremN dX8_judge_84 (by omega) (by omega) (by omega) ?_
          rw [ej]
          refine xis7_6 dX8_judge_85 rfl ?_
          refine x_aload_n dX8_judge_87 rfl rfl ?_
          refine x_getr dX8_judge_88 fX8_35 rfl rfl (by decide) ?_
          refine x_iload dX8_judge_91 rfl ?_
          refine x_bipush (v := nI 10) dX8_judge_93 (by decide) ?_
          refine x_idivN dX8_judge_95 (by omega) (by omega) (by omega) ?_
          refine x_iload dX8_judge_96 rfl ?_
          refine x_bipush (v := nI 10) dX8_judge_98 (by decide) ?_
          refine x_iremN dX8_judge_100 (by omega) (by omega) (by omega) ?_
          refine x_callVi dX8_judge_101 mvX4_act kX8_252 (k_act E d N n (jts m row i) q' w' (hN.v (by decide) hn) hP hlt) rfl (by decide) (by omega) rfl rfl (Nat.le_of_ble_eq_true rfl) ?_
          rintro _ N2 ⟨rfl, hN2, hP2⟩
          refine x_if_neB (tgt := 110) dX8_judge_104 (by decide) (fun hc => ?_) (fun hc => ?_)
          · rw [jdF, if_pos hc] at hJ
            refine x_iload dX8_judge_110 rfl ?_
            refine x_bipush (v := nI 100) dX8_judge_112 (by decide) ?_
            refine x_idivN dX8_judge_114 (by omega) (by omega) (by omega) ?_
            refine xis7_4 dX8_judge_115 rfl ?_
            refine xinc7_5N dX8_judge_117 rfl ?_
            refine x_goto (tgt := 67) dX8_judge_120 (by decide) ?_
            exact ih N2 _ _ _ (hN.tr hN2 (fun _ h => h)) hP2 hJ
          · rw [jdF, if_neg (by rw [hc]; decide)] at hJ
            refine x_iload dX8_judge_107 rfl ?_
            exact hR _ _ _ _ dX8_judge_109 (⟨hJ, hN.tr hN2 (fun _ h => h)⟩)
      have k0 := key 0 (by omega) N0 q w none hN0 (hT.of e1 e2) rfl
      rw [Nat.pow_zero, Nat.div_one] at k0
      exact k0
    · intro i hi ih
      have hp3 : 100 ^ (i + 1) ≤ 100000000 := p100 (by omega)
      rw [Nat.pow_succ] at ih hp3
      refine x_iload dX8_judge_18 rfl ?_
      refine x_iload_n dX8_judge_20 rfl rfl ?_
      refine x_icmp_geN (tgt := 35) dX8_judge_21 (by decide) (by omega) (by omega) (fun hc => ?_) (fun hc => ?_)
      · exact absurd hc (by omega)
      refine x_iload_n dX8_judge_24 rfl rfl ?_
      refine x_bipush (v := nI 100) dX8_judge_25 (by decide) ?_
      refine x_imulN dX8_judge_27 ?_
      refine xis7_3 dX8_judge_28 rfl ?_
      refine xinc7_4N dX8_judge_29 rfl ?_
      refine x_goto (tgt := 18) dX8_judge_32 (by decide) ?_
      exact ih
  exact key1 0 (by omega)
set_option maxHeartbeats 8000000 in
theorem k_best_no (E : Ev) (d : Nat) (M : PM) (x : Int32) (hx : ¬ inR x 2) : Ci E d mX8_best [.ref (ad E 0), .int x] M (fun v N => v = -2 ∧ M = N) := by
  refine Ct.ofi [some (.ref (ad E 0)), some (.int x), none, none, none] (own := RX8) rfl (by decide) (Nat.le_of_ble_eq_true rfl) rfl (fun C hR => ?_)
  refine x_iload_n dX8_best_0 rfl rfl ?_
  refine x_if_eq (tgt := 12) dX8_best_1 (by decide) (fun hc => ?_) (fun hc => ?_)
  · rw [hc] at hx; exact absurd (inR_nI (j := 0) (n := 2) (by decide) (by decide)) hx
  refine x_iload_n dX8_best_4 rfl rfl ?_
  refine x_iconst (v := nI 1) dX8_best_5 (by decide) ?_
  refine x_icmp_eq (tgt := 12) dX8_best_6 (by decide) (fun hc => ?_) (fun hc => ?_)
  · rw [hc] at hx; exact absurd (inR_nI (j := 1) (n := 2) (by decide) (by decide)) hx
  refine x_bipush (v := -2) dX8_best_9 (by decide) ?_
  exact hR _ _ _ _ dX8_best_11 (⟨rfl, rfl⟩)
set_option maxHeartbeats 8000000 in
theorem k_traces_no (E : Ev) (d : Nat) (M : PM) (x : Int32) (hx : ¬ inR x 2) : Ci E d mX8_traces [.ref (ad E 0), .int x] M (fun v N => v = -2 ∧ M = N) := by
  refine Ct.ofi [some (.ref (ad E 0)), some (.int x), none] (own := RX8) rfl (by decide) (Nat.le_of_ble_eq_true rfl) rfl (fun C hR => ?_)
  refine x_iload_n dX8_traces_0 rfl rfl ?_
  refine x_if_eq (tgt := 12) dX8_traces_1 (by decide) (fun hc => ?_) (fun hc => ?_)
  · rw [hc] at hx; exact absurd (inR_nI (j := 0) (n := 2) (by decide) (by decide)) hx
  refine x_iload_n dX8_traces_4 rfl rfl ?_
  refine x_iconst (v := nI 1) dX8_traces_5 (by decide) ?_
  refine x_icmp_eq (tgt := 12) dX8_traces_6 (by decide) (fun hc => ?_) (fun hc => ?_)
  · rw [hc] at hx; exact absurd (inR_nI (j := 1) (n := 2) (by decide) (by decide)) hx
  refine x_bipush (v := -2) dX8_traces_9 (by decide) ?_
  exact hR _ _ _ _ dX8_traces_11 (⟨rfl, rfl⟩)
set_option maxHeartbeats 8000000 in
theorem k_rests_no (E : Ev) (d : Nat) (M : PM) (x : Int32) (hx : ¬ inR x 2) : Ci E d mX8_rests [.ref (ad E 0), .int x] M (fun v N => v = -2 ∧ M = N) := by
  refine Ct.ofi [some (.ref (ad E 0)), some (.int x), none, none] (own := RX8) rfl (by decide) (Nat.le_of_ble_eq_true rfl) rfl (fun C hR => ?_)
  refine x_iload_n dX8_rests_0 rfl rfl ?_
  refine x_if_eq (tgt := 12) dX8_rests_1 (by decide) (fun hc => ?_) (fun hc => ?_)
  · rw [hc] at hx; exact absurd (inR_nI (j := 0) (n := 2) (by decide) (by decide)) hx
  refine x_iload_n dX8_rests_4 rfl rfl ?_
  refine x_iconst (v := nI 1) dX8_rests_5 (by decide) ?_
  refine x_icmp_eq (tgt := 12) dX8_rests_6 (by decide) (fun hc => ?_) (fun hc => ?_)
  · rw [hc] at hx; exact absurd (inR_nI (j := 1) (n := 2) (by decide) (by decide)) hx
  refine x_bipush (v := -2) dX8_rests_9 (by decide) ?_
  exact hR _ _ _ _ dX8_rests_11 (⟨rfl, rfl⟩)
