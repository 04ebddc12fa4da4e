-- ===== the component: more that is refused =====
set_option maxHeartbeats 8000000 in
theorem k_fewest_no (E : Ev) (d : Nat) (M : PM) (D : Nat) (e x : Int32) (hD : M.1 3 6 = nI D) (hD4 : D ≤ 4) (hx : ¬ (inR e D ∧ inR x 2)) : Ci E (d + 1) mX8_fewest [.ref (ad E 0), .int e, .int x] M (fun v N => v = (if inR e D then -2 else -1) ∧ M = N) := by
  refine Ct.ofi [some (.ref (ad E 0)), some (.int e), some (.int x), none] (own := RX8) rfl (by decide) (Nat.le_of_ble_eq_true rfl) rfl (fun C hR => ?_)
  refine x_aload_n dX8_fewest_0 rfl rfl ?_
  refine x_iload_n dX8_fewest_1 rfl rfl ?_
  refine x_callVi dX8_fewest_2 mvX8_isDeed kX8_235 (k_is_6 E d M e D hD (by omega)) rfl (by decide) (by omega) rfl rfl (Nat.le_of_ble_eq_true rfl) ?_
  rintro _ _ ⟨rfl, rfl⟩
  refine x_if_neB (tgt := 10) dX8_fewest_5 (by decide) (fun hc => ?_) (fun hc => ?_)
  rotate_left
  · refine x_iconst (v := -1) dX8_fewest_8 (by decide) ?_
    exact hR _ _ _ _ dX8_fewest_9 (⟨by rw [if_neg (of_decide_eq_false hc)], rfl⟩)
  have he := of_decide_eq_true hc
  have hx2 : ¬ inR x 2 := fun z => hx ⟨he, z⟩
  refine x_iload_n dX8_fewest_10 rfl rfl ?_
  refine x_if_eq (tgt := 22) dX8_fewest_11 (by decide) (fun hc => ?_) (fun hc => ?_)
  · rw [hc] at hx2; exact absurd (inR_nI (j := 0) (n := 2) (by decide) (by decide)) hx2
  refine x_iload_n dX8_fewest_14 rfl rfl ?_
  refine x_iconst (v := nI 1) dX8_fewest_15 (by decide) ?_
  refine x_icmp_eq (tgt := 22) dX8_fewest_16 (by decide) (fun hc => ?_) (fun hc => ?_)
  · rw [hc] at hx2; exact absurd (inR_nI (j := 1) (n := 2) (by decide) (by decide)) hx2
  refine x_bipush (v := -2) dX8_fewest_19 (by decide) ?_
  exact hR _ _ _ _ dX8_fewest_21 (⟨by rw [if_pos he], rfl⟩)
set_option maxHeartbeats 8000000 in
theorem k_fair_no (E : Ev) (d : Nat) (M : PM) (a b x : Int32) (hx : ¬ (inR a 10000 ∧ inR b 10000 ∧ inR x 2)) : Ci E (d + 1) mX8_fair [.ref (ad E 0), .int a, .int b, .int x] M (fun v N => v = -2 ∧ M = N) := by
  refine Ct.ofi [some (.ref (ad E 0)), some (.int a), some (.int b), some (.int x), none] (own := RX8) rfl (by decide) (Nat.le_of_ble_eq_true rfl) rfl (fun C hR => ?_)
  have bad : X E (d + 1) RX8 cX8_fair 5 C 23 [some (.ref (ad E 0)), some (.int a), some (.int b), some (.int x), none] [] M := by
    refine x_bipush (v := -2) dX8_fair_23 (by decide) ?_
    exact hR _ _ _ _ dX8_fair_25 (⟨rfl, rfl⟩)
  refine x_iload_n dX8_fair_0 rfl rfl ?_
  refine x_callSi dX8_fair_1 msX8_isWorth kX8_242 (k_isWorth E d M a) (by omega) rfl rfl (Nat.le_of_ble_eq_true rfl) ?_
  rintro _ _ ⟨rfl, rfl⟩
  refine x_if_eqB (tgt := 23) dX8_fair_4 (by decide) (fun hc => ?_) (fun hc => ?_)
  · exact bad
  have h1 := of_decide_eq_true hc
  refine x_iload_n dX8_fair_7 rfl rfl ?_
  refine x_callSi dX8_fair_8 msX8_isWorth kX8_242 (k_isWorth E d M b) (by omega) rfl rfl (Nat.le_of_ble_eq_true rfl) ?_
  rintro _ _ ⟨rfl, rfl⟩
  refine x_if_eqB (tgt := 23) dX8_fair_11 (by decide) (fun hc => ?_) (fun hc => ?_)
  · exact bad
  have h2 := of_decide_eq_true hc
  have hx2 : ¬ inR x 2 := fun z => hx ⟨h1, h2, z⟩
  refine x_iload_n dX8_fair_14 rfl rfl ?_
  refine x_if_eq (tgt := 26) dX8_fair_15 (by decide) (fun hc => ?_) (fun hc => ?_)
  · rw [hc] at hx2; exact absurd (inR_nI (j := 0) (n := 2) (by decide) (by decide)) hx2
  refine x_iload_n dX8_fair_18 rfl rfl ?_
  refine x_iconst (v := nI 1) dX8_fair_19 (by decide) ?_
  refine x_icmp_eq (tgt := 26) dX8_fair_20 (by decide) (fun hc => ?_) (fun hc => ?_)
  · rw [hc] at hx2; exact absurd (inR_nI (j := 1) (n := 2) (by decide) (by decide)) hx2
  · exact bad
set_option maxHeartbeats 8000000 in
theorem k_share_no (E : Ev) (d : Nat) (M : PM) (K : Nat) (k h p : Int32) (hK : M.1 3 4 = nI K) (hK5 : K ≤ 5) (hx : ¬ (inR k K ∧ inR h 2)) : Ci E (d + 1) mX8_share [.ref (ad E 0), .int k, .int h, .int p] M (fun v N => v = (if inR k K then -2 else -1) ∧ M = N) := by
  refine Ct.ofi [some (.ref (ad E 0)), some (.int k), some (.int h), some (.int p), none, none, none] (own := RX8) rfl (by decide) (Nat.le_of_ble_eq_true rfl) rfl (fun C hR => ?_)
  refine x_aload_n dX8_share_0 rfl rfl ?_
  refine x_iload_n dX8_share_1 rfl rfl ?_
  refine x_callVi dX8_share_2 mvX8_isKin kX8_160 (k_is_4 E d M k K hK hK5) rfl (by decide) (by omega) rfl rfl (Nat.le_of_ble_eq_true rfl) ?_
  rintro _ _ ⟨rfl, rfl⟩
  refine x_if_neB (tgt := 10) dX8_share_5 (by decide) (fun hc => ?_) (fun hc => ?_)
  rotate_left
  · refine x_iconst (v := -1) dX8_share_8 (by decide) ?_
    exact hR _ _ _ _ dX8_share_9 (⟨by rw [if_neg (of_decide_eq_false hc)], rfl⟩)
  have he := of_decide_eq_true hc
  refine x_iload_n dX8_share_10 rfl rfl ?_
  refine x_callSi dX8_share_11 msX8_isHalf kX8_172 (k_isHalf E d M h) (by omega) rfl rfl (Nat.le_of_ble_eq_true rfl) ?_
  rintro _ _ ⟨rfl, rfl⟩
  refine x_if_neB (tgt := 20) dX8_share_14 (by decide) (fun hc => ?_) (fun hc => ?_)
  · exact absurd ⟨he, of_decide_eq_true hc⟩ hx
  refine x_bipush (v := -2) dX8_share_17 (by decide) ?_
  exact hR _ _ _ _ dX8_share_19 (⟨by rw [if_pos he], rfl⟩)
set_option maxHeartbeats 8000000 in
theorem k_years_no (E : Ev) (d : Nat) (M : PM) (m : Int32) (hm : ¬ (1 ≤ m.toInt ∧ m.toInt ≤ 30)) : Ci E d mX8_years [.ref (ad E 0), .int m] M (fun v N => v = -2 ∧ M = N) := by
  have e1 : (nI 1).toInt = 1 := by decide
  have e30 : (nI 30).toInt = 30 := by decide
  refine Ct.ofi [some (.ref (ad E 0)), some (.int m), none, none, none] (own := RX8) rfl (by decide) (Nat.le_of_ble_eq_true rfl) rfl (fun C hR => ?_)
  have bad : X E d RX8 cX8_years 5 C 11 [some (.ref (ad E 0)), some (.int m), none, none, none] [] M := by
    refine x_bipush (v := -2) dX8_years_11 (by decide) ?_
    exact hR _ _ _ _ dX8_years_13 (⟨rfl, rfl⟩)
  refine x_iload_n dX8_years_0 rfl rfl ?_
  refine x_iconst (v := nI 1) dX8_years_1 (by decide) ?_
  refine x_icmp_lt (tgt := 11) dX8_years_2 (by decide) (fun hc => ?_) (fun hc => ?_)
  · exact bad
  rw [Int32.lt_iff_toInt_lt, e1] at hc
  have g := hc
  refine x_iload_n dX8_years_5 rfl rfl ?_
  refine x_bipush (v := nI 30) dX8_years_6 (by decide) ?_
  refine x_icmp_le (tgt := 14) dX8_years_8 (by decide) (fun hc => ?_) (fun hc => ?_)
  · rw [Int32.le_iff_toInt_le, e30] at hc
    exact absurd (by omega) hm
  · exact bad
