-- ===== the component: rests, all four =====
set_option maxHeartbeats 8000000 in
theorem k_isAtRest (E : Ev) (d : Nat) (M : PM) (n a b : Nat) (q w : Nat → Nat) (hn : M.1 3 5 = nI n) (hT : Tb M 13 n q w) (ha : a < 2) (hb : b < 2) : Ci E (d + 2) mX8_isAtRest [.ref (ad E 0), .int (nI a), .int (nI b)] M (fun v N => v = bI (rsA w n a b) ∧ M = N) := by
  have hw : ∀ r, r < n → w r ≤ 5 := fun r hr => (hT.2.2 r hr).2
  have t1 := pl_toInt (h := 0) (o := a) (t := b) hT.1 hw ha
  have t2 := pl_toInt (h := 0) (o := 1 - a) (t := b) hT.1 hw (by omega)
  have t3 := pl_toInt (h := 1) (o := b) (t := a) hT.1 hw hb
  have t4 := pl_toInt (h := 1) (o := 1 - b) (t := a) hT.1 hw (by omega)
  refine Ct.ofz [some (.ref (ad E 0)), some (.int (nI a)), some (.int (nI b))] (own := RX8) rfl (by decide) (Nat.le_of_ble_eq_true rfl) rfl (fun C hR => ?_)
  refine x_aload_n dX8_isAtRest_0 rfl rfl ?_
  refine x_iconst (v := nI 0) dX8_isAtRest_1 (by decide) ?_
  refine x_iload_n dX8_isAtRest_2 rfl rfl ?_
  refine x_iload_n dX8_isAtRest_3 rfl rfl ?_
  refine x_callVi dX8_isAtRest_4 mvX8_holding kX8_290 (k_holding E d M n 0 a b q w hn hT (by decide) ha hb) rfl (by decide) (by omega) rfl rfl (Nat.le_of_ble_eq_true rfl) ?_
  rintro _ _ ⟨rfl, rfl⟩
  refine x_aload_n dX8_isAtRest_7 rfl rfl ?_
  refine x_iconst (v := nI 0) dX8_isAtRest_8 (by decide) ?_
  refine x_iconst (v := nI 1) dX8_isAtRest_9 (by decide) ?_
  refine x_iload_n dX8_isAtRest_10 rfl rfl ?_
  refine x_isubN dX8_isAtRest_11 (by omega) ?_
  refine x_iload_n dX8_isAtRest_12 rfl rfl ?_
  refine x_callVi dX8_isAtRest_13 mvX8_holding kX8_290 (k_holding E d M n 0 (1 - a) b q w hn hT (by decide) (by omega) hb) rfl (by decide) (by omega) rfl rfl (Nat.le_of_ble_eq_true rfl) ?_
  rintro _ _ ⟨rfl, rfl⟩
  rw [if_pos rfl, if_pos rfl]
  refine x_icmp_lt (tgt := 42) dX8_isAtRest_16 (by decide) (fun hc => ?_) (fun hc => ?_)
  · rw [Int32.lt_iff_toInt_lt, t1, t2] at hc
    refine x_iconst (v := nI 0) dX8_isAtRest_42 (by decide) ?_
    exact hR _ _ _ _ dX8_isAtRest_43 (by first | exact bI_n _ | decide) (⟨(dec_f (fun z => by omega)).symm, rfl⟩)
  rw [Int32.lt_iff_toInt_lt, t1, t2] at hc
  have g := hc
  refine x_aload_n dX8_isAtRest_19 rfl rfl ?_
  refine x_iconst (v := nI 1) dX8_isAtRest_20 (by decide) ?_
  refine x_iload_n dX8_isAtRest_21 rfl rfl ?_
  refine x_iload_n dX8_isAtRest_22 rfl rfl ?_
  refine x_callVi dX8_isAtRest_23 mvX8_holding kX8_290 (k_holding E d M n 1 a b q w hn hT (by decide) ha hb) rfl (by decide) (by omega) rfl rfl (Nat.le_of_ble_eq_true rfl) ?_
  rintro _ _ ⟨rfl, rfl⟩
  refine x_aload_n dX8_isAtRest_26 rfl rfl ?_
  refine x_iconst (v := nI 1) dX8_isAtRest_27 (by decide) ?_
  refine x_iload_n dX8_isAtRest_28 rfl rfl ?_
  refine x_iconst (v := nI 1) dX8_isAtRest_29 (by decide) ?_
  refine x_iload_n dX8_isAtRest_30 rfl rfl ?_
  refine x_isubN dX8_isAtRest_31 (by omega) ?_
  refine x_callVi dX8_isAtRest_32 mvX8_holding kX8_290 (k_holding E d M n 1 a (1 - b) q w hn hT (by decide) ha (by omega)) rfl (by decide) (by omega) rfl rfl (Nat.le_of_ble_eq_true rfl) ?_
  rintro _ _ ⟨rfl, rfl⟩
  rw [if_neg (by decide), if_neg (by decide)]
  refine x_icmp_lt (tgt := 42) dX8_isAtRest_35 (by decide) (fun hc => ?_) (fun hc => ?_)
  · rw [Int32.lt_iff_toInt_lt, t3, t4] at hc
    refine x_iconst (v := nI 0) dX8_isAtRest_42 (by decide) ?_
    exact hR _ _ _ _ dX8_isAtRest_43 (by first | exact bI_n _ | decide) (⟨(dec_f (fun z => by omega)).symm, rfl⟩)
  · rw [Int32.lt_iff_toInt_lt, t3, t4] at hc
    refine x_iconst (v := nI 1) dX8_isAtRest_38 (by decide) ?_
    refine x_goto (tgt := 43) dX8_isAtRest_39 (by decide) ?_
    exact hR _ _ _ _ dX8_isAtRest_43 (by first | exact bI_n _ | decide) (⟨(dec_t ⟨by omega, by omega⟩).symm, rfl⟩)
