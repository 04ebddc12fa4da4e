-- ===== the component: slips refused, the seed =====
set_option maxHeartbeats 8000000 in
theorem k_slips_no (E : Ev) (d : Nat) (M : PM) (D : Nat) (e h x p : Int32) (hD : M.1 3 6 = nI D) (hD4 : D ≤ 4) (hx : ¬ (inR e D ∧ inR h 2 ∧ inR x 11)) : Ci E (d + 1) mX8_slips [.ref (ad E 0), .int e, .int h, .int x, .int p] M (fun v N => v = (if inR e D then -2 else -1) ∧ M = N) := by
  have e10 : (nI 10).toInt = 10 := by decide
  refine Ct.ofi [some (.ref (ad E 0)), some (.int e), some (.int h), some (.int x), some (.int p), none, none, none, none, none, none] (own := RX8) rfl (by decide) (Nat.le_of_ble_eq_true rfl) rfl (fun C hR => ?_)
  refine x_aload_n dX8_slips_0 rfl rfl ?_
  refine x_iload_n dX8_slips_1 rfl rfl ?_
  refine x_callVi dX8_slips_2 mvX8_isDeed kX8_235 (k_is_6 E d M e D hD (by omega)) rfl (by decide) (by omega) rfl rfl (Nat.le_of_ble_eq_true rfl) ?_
  rintro _ _ ⟨rfl, rfl⟩
  refine x_if_neB (tgt := 10) dX8_slips_5 (by decide) (fun hc => ?_) (fun hc => ?_)
  rotate_left
  · refine x_iconst (v := -1) dX8_slips_8 (by decide) ?_
    exact hR _ _ _ _ dX8_slips_9 (⟨by rw [if_neg (of_decide_eq_false hc)], rfl⟩)
  have he := of_decide_eq_true hc
  have bad : X E (d + 1) RX8 cX8_slips 11 C 27 [some (.ref (ad E 0)), some (.int e), some (.int h), some (.int x), some (.int p), none, none, none, none, none, none] [] M := by
    refine x_bipush (v := -2) dX8_slips_27 (by decide) ?_
    exact hR _ _ _ _ dX8_slips_29 (⟨by rw [if_pos he], rfl⟩)
  refine x_iload_n dX8_slips_10 rfl rfl ?_
  refine x_callSi dX8_slips_11 msX8_isHalf kX8_172 (k_isHalf E d M h) (by omega) rfl rfl (Nat.le_of_ble_eq_true rfl) ?_
  rintro _ _ ⟨rfl, rfl⟩
  refine x_if_eqB (tgt := 27) dX8_slips_14 (by decide) (fun hc => ?_) (fun hc => ?_)
  · exact bad
  have hh := of_decide_eq_true hc
  have hx2 : ¬ inR x 11 := fun z => hx ⟨he, hh, z⟩
  refine x_iload_n dX8_slips_17 rfl rfl ?_
  refine x_if_lt (tgt := 27) dX8_slips_18 (by decide) (fun hc => ?_) (fun hc => ?_)
  · exact bad
  rw [Int32.lt_iff_toInt_lt, Int32.toInt_zero] at hc
  have g := hc
  refine x_iload_n dX8_slips_21 rfl rfl ?_
  refine x_bipush (v := nI 10) dX8_slips_22 (by decide) ?_
  refine x_icmp_le (tgt := 30) dX8_slips_24 (by decide) (fun hc => ?_) (fun hc => ?_)
  · rw [Int32.le_iff_toInt_le, e10] at hc
    exact absurd (by omega) hx2
  · exact bad
