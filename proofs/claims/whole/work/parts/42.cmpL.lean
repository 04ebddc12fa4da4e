-- ===== the component: fractions =====
theorem gcd_st (g l : Nat) : Nat.gcd l (g % l) = Nat.gcd g l := by
  rw [Nat.gcd_comm g l, Nat.gcd_rec l g, Nat.gcd_comm]
theorem mod_half {l r : Nat} (h0 : 0 < r) (h : r < l) : 2 * (l % r) < l := by
  have h1 := Nat.mod_lt l h0
  have h2 : l = r * (l / r) + l % r := (Nat.div_add_mod l r).symm
  have h3 : 1 ≤ l / r := (Nat.one_le_div_iff h0).mpr (by omega)
  have h4 : r * 1 ≤ r * (l / r) := Nat.mul_le_mul_left r h3
  omega
set_option maxHeartbeats 8000000 in
theorem k_commonDivisor (E : Ev) (d : Nat) (M : PM) (a b : Nat) (ha : a < 4000000) (hb : b < 4000000) : Ci E d mX8_commonDivisor [.int (nI a), .int (nI b)] M (fun v N => v = nI (Nat.gcd a b) ∧ M = N) := by
  refine Ct.ofi [some (.int (nI a)), some (.int (nI b)), none, none, none, none] (own := RX8) rfl (by decide) (Nat.le_of_ble_eq_true rfl) rfl (fun C hR => ?_)
  refine x_iload_n dX8_commonDivisor_0 rfl rfl ?_
  refine xis6_2 dX8_commonDivisor_1 rfl ?_
  refine x_iload_n dX8_commonDivisor_2 rfl rfl ?_
  refine xis6_3 dX8_commonDivisor_3 rfl ?_
  refine x_iconst (v := nI 0) dX8_commonDivisor_4 (by decide) ?_
  refine xis6_4 dX8_commonDivisor_5 rfl ?_
  have stop : ∀ g t l5, g < 4000000 → t ≤ 64 → Nat.gcd g 0 = Nat.gcd a b → X E d RX8 cX8_commonDivisor 6 C 7 [some (.int (nI a)), some (.int (nI b)), some (.int (nI g)), some (.int (nI 0)), some (.int (nI t)), l5] [] M := by
    intro g t l5 hg ht e
    rw [Nat.gcd_zero_right] at e
    have fin : X E d RX8 cX8_commonDivisor 6 C 34 [some (.int (nI a)), some (.int (nI b)), some (.int (nI g)), some (.int (nI 0)), some (.int (nI t)), l5] [] M := by
      refine x_iload_n dX8_commonDivisor_34 rfl rfl ?_
      exact hR _ _ _ _ dX8_commonDivisor_35 (⟨by rw [e], rfl⟩)
    refine x_iload dX8_commonDivisor_7 rfl ?_
    refine x_bipush (v := nI 64) dX8_commonDivisor_9 (by decide) ?_
    refine x_icmp_geN (tgt := 34) dX8_commonDivisor_11 (by decide) (by omega) (by omega) (fun hc => ?_) (fun hc => ?_)
    · exact fin
    refine x_iload_n dX8_commonDivisor_14 rfl rfl ?_
    refine x_if_eqN (tgt := 34) dX8_commonDivisor_15 (by decide) (by omega) (fun hc => ?_) (fun hc => ?_)
    · exact fin
    · exact absurd rfl hc
  have step : ∀ g l t l5, g < 4000000 → 0 < l → l < 4000000 → t < 64 → X E d RX8 cX8_commonDivisor 6 C 7 [some (.int (nI a)), some (.int (nI b)), some (.int (nI l)), some (.int (nI (g % l))), some (.int (nI (t + 1))), some (.int (nI (g % l)))] [] M → X E d RX8 cX8_commonDivisor 6 C 7 [some (.int (nI a)), some (.int (nI b)), some (.int (nI g)), some (.int (nI l)), some (.int (nI t)), l5] [] M := by
    intro g l t l5 hg hl0 hl ht hX
    refine x_iload dX8_commonDivisor_7 rfl ?_
    refine x_bipush (v := nI 64) dX8_commonDivisor_9 (by decide) ?_
    refine x_icmp_geN (tgt := 34) dX8_commonDivisor_11 (by decide) (by omega) (by omega) (fun hc => ?_) (fun hc => ?_)
    · exact absurd hc (by omega)
    refine x_iload_n dX8_commonDivisor_14 rfl rfl ?_
    refine x_if_eqN (tgt := 34) dX8_commonDivisor_15 (by decide) (by omega) (fun hc => ?_) (fun hc => ?_)
    · exact absurd hc (by omega)
    refine x_iload_n dX8_commonDivisor_18 rfl rfl ?_
    refine x_iload_n dX8_commonDivisor_19 rfl rfl ?_
    refine x_iremN dX8_commonDivisor_20 (by omega) (by omega) (by omega) ?_
    refine xis6_5 dX8_commonDivisor_21 rfl ?_
    refine x_iload_n dX8_commonDivisor_23 rfl rfl ?_
    refine xis6_2 dX8_commonDivisor_24 rfl ?_
    refine x_iload dX8_commonDivisor_25 rfl ?_
    refine xis6_3 dX8_commonDivisor_27 rfl ?_
    refine xinc6_4N dX8_commonDivisor_28 rfl ?_
    refine x_goto (tgt := 7) dX8_commonDivisor_31 (by decide) ?_
    exact hX
  have key : ∀ k, ∀ g l t l5, g < 4000000 → l < 4000000 → l < 2 ^ k → t + 2 * k ≤ 64 → Nat.gcd g l = Nat.gcd a b → X E d RX8 cX8_commonDivisor 6 C 7 [some (.int (nI a)), some (.int (nI b)), some (.int (nI g)), some (.int (nI l)), some (.int (nI t)), l5] [] M := by
    intro k
    induction k with
    | zero =>
      intro g l t l5 hg hl hk ht e
      have hl0 : l = 0 := by rw [Nat.pow_zero] at hk; omega
      subst hl0
      exact stop g t l5 hg (by omega) e
    | succ k ih =>
      intro g l t l5 hg hl hk ht e
      rw [Nat.pow_succ] at hk
      rcases Nat.eq_zero_or_pos l with rfl | hl0
      · exact stop g t l5 hg (by omega) e
      have hr := Nat.mod_lt g hl0
      refine step g l t l5 hg hl0 hl (by omega) ?_
      rcases Nat.eq_zero_or_pos (g % l) with h0 | h0
      · have e1 := gcd_st g l
        rw [h0] at e1 ⊢
        exact stop l (t + 1) _ hl (by omega) (e1.trans e)
      · have hh := mod_half h0 hr
        have hm := Nat.mod_lt l h0
        refine step l (g % l) (t + 1) _ hl h0 (by omega) (by omega) ?_
        exact ih (g % l) (l % (g % l)) (t + 1 + 1) _ (by omega) (by omega) (by omega) (by omega) ((gcd_st l (g % l)).trans ((gcd_st g l).trans e))
  exact key 22 a b 0 none ha hb (by omega) (by omega) rfl
set_option maxHeartbeats 8000000 in
theorem k_fraction (E : Ev) (d : Nat) (M : PM) (a b : Nat) (p : Int32) (ha : a < 4000000) (hb : b < 4000000) (hb0 : 0 < b) : Ci E (d + 1) mX8_fraction [.int (nI a), .int (nI b), .int p] M (fun v N => v = frc a b p ∧ M = N) := by
  have hg := Nat.gcd_pos_of_pos_right a hb0
  have hg2 : Nat.gcd a b ≤ b := Nat.le_of_dvd hb0 (Nat.gcd_dvd_right a b)
  refine Ct.ofi [some (.int (nI a)), some (.int (nI b)), some (.int p), none] (own := RX8) rfl (by decide) (Nat.le_of_ble_eq_true rfl) rfl (fun C hR => ?_)
  refine x_iload_n dX8_fraction_0 rfl rfl ?_
  refine x_iload_n dX8_fraction_1 rfl rfl ?_
  refine x_callSi dX8_fraction_2 msX8_commonDivisor kX8_296 (k_commonDivisor E d M a b ha hb) (by omega) rfl rfl (Nat.le_of_ble_eq_true rfl) ?_
  rintro _ _ ⟨rfl, rfl⟩
  refine xis4_3 dX8_fraction_5 rfl ?_
  refine x_iload_n dX8_fraction_6 rfl rfl ?_
  refine x_if_neN (tgt := 12) dX8_fraction_7 (by decide) (by omega) (fun hc => ?_) (fun hc => ?_)
  rotate_left
  · exact absurd hc (by omega)
  refine x_iload_n dX8_fraction_12 rfl rfl ?_
  refine x_if_eq (tgt := 22) dX8_fraction_13 (by decide) (fun hc => ?_) (fun hc => ?_)
  · refine x_iload_n dX8_fraction_22 rfl rfl ?_
    refine x_iload_n dX8_fraction_23 rfl rfl ?_
    refine x_idivN dX8_fraction_24 (by omega) (by omega) (by omega) ?_
    exact hR _ _ _ _ dX8_fraction_25 (⟨by unfold frc; rw [if_pos hc], rfl⟩)
  · refine x_iload_n dX8_fraction_16 rfl rfl ?_
    refine x_iload_n dX8_fraction_17 rfl rfl ?_
    refine x_idivN dX8_fraction_18 (by omega) (by omega) (by omega) ?_
    refine x_goto (tgt := 25) dX8_fraction_19 (by decide) ?_
    exact hR _ _ _ _ dX8_fraction_25 (⟨by unfold frc; rw [if_neg hc], rfl⟩)
