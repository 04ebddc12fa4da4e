-- ===== the component: rests =====
theorem hold1 : ∀ m, m < 6 → ∀ a, a < 2 → ∀ b, b < 2 → (if nI 0 < (if nI (m + a) - nI b < nI 5 then nI (m + a) - nI b else nI 5) then (if nI (m + a) - nI b < nI 5 then nI (m + a) - nI b else nI 5) else nI 0) = nI (plr 0 a b m) := by decide
theorem plr_two : ∀ m, m < 6 → ∀ a, a < 2 → ∀ b, b < 2 → plr 0 a b m + plr 1 b a m = 5 := by decide
theorem plA_two {w : Nat → Nat} {a b : Nat} (ha : a < 2) (hb : b < 2) : ∀ {n : Nat}, (∀ r, r < n → w r ≤ 5) → plA w 0 a b n + plA w 1 b a n = n * 5
  | 0, _ => rfl
  | n + 1, hw => by
    have h1 := plA_two (w := w) ha hb (n := n) (fun r hr => hw r (by omega))
    have h2 := plr_two (w n) (by have := hw n (Nat.lt_succ_self _); omega) a ha b hb
    unfold plA at *
    rw [fb_sm_succ, fb_sm_succ]
    omega
set_option maxHeartbeats 8000000 in
theorem k_holding (E : Ev) (d : Nat) (M : PM) (n h a b : Nat) (q w : Nat → Nat) (hn : M.1 3 5 = nI n) (hT : Tb M 13 n q w) (hh : h < 2) (ha : a < 2) (hb : b < 2) : Ci E (d + 1) mX8_holding [.ref (ad E 0), .int (nI h), .int (nI a), .int (nI b)] M (fun v N => v = (if h = 0 then nI (plA w 0 a b n) - nI (2 * a) else nI (plA w 1 b a n) - nI (2 * b)) ∧ M = N) := by
  have hn5 := hT.1
  have h2 := plA_two (w := w) ha hb (n := n) (fun r hr => (hT.2.2 r hr).2)
  refine Ct.ofi [some (.ref (ad E 0)), some (.int (nI h)), some (.int (nI a)), some (.int (nI b)), none, none] (own := RX8) rfl (by decide) (Nat.le_of_ble_eq_true rfl) rfl (fun C hR => ?_)
  refine x_iconst (v := nI 0) dX8_holding_0 (by decide) ?_
  refine xis6_4 dX8_holding_1 rfl ?_
  refine x_iconst (v := nI 0) dX8_holding_3 (by decide) ?_
  refine xis6_5 dX8_holding_4 rfl ?_
  have key : ∀ r, r ≤ n → X E (d + 1) RX8 cX8_holding 6 C 6 [some (.ref (ad E 0)), some (.int (nI h)), some (.int (nI a)), some (.int (nI b)), some (.int (nI (plA w 0 a b r))), some (.int (nI r))] [] M := by
    refine up_loop n ?_ ?_
    · refine x_iload dX8_holding_6 rfl ?_
      refine x_aload_n dX8_holding_8 rfl rfl ?_
      refine x_getr dX8_holding_9 fX8_19 rfl rfl (by decide) ?_
      refine x_getv (hn) dX8_holding_12 fX8_103 rfl rfl (by decide) ?_
      refine x_icmp_geN (tgt := 51) dX8_holding_15 (by decide) (by omega) (by omega) (fun hc => ?_) (fun hc => ?_)
      rotate_left
      · exact absurd hc (by omega)
      refine x_iload_n dX8_holding_51 rfl rfl ?_
      refine x_if_neN (tgt := 62) dX8_holding_52 (by decide) (by omega) (fun hc => ?_) (fun hc => ?_)
      · refine x_aload_n dX8_holding_62 rfl rfl ?_
        refine x_getr dX8_holding_63 fX8_19 rfl rfl (by decide) ?_
        refine x_getv (hn) dX8_holding_66 fX8_103 rfl rfl (by decide) ?_
        refine x_iconst (v := nI 5) dX8_holding_69 (by decide) ?_
        refine x_imulN dX8_holding_70 ?_
        refine x_iload dX8_holding_71 rfl ?_
        refine x_isubN dX8_holding_73 (by omega) ?_
        refine x_iconst (v := nI 2) dX8_holding_74 (by decide) ?_
        refine x_iload_n dX8_holding_75 rfl rfl ?_
        refine x_imulN dX8_holding_76 ?_
        refine x_isub dX8_holding_77 ?_
        refine hR _ _ _ _ dX8_holding_78 ⟨?_, rfl⟩
        rw [if_neg hc, show n * 5 - plA w 0 a b n = plA w 1 b a n by omega]
      · refine x_iload dX8_holding_55 rfl ?_
        refine x_iconst (v := nI 2) dX8_holding_57 (by decide) ?_
        refine x_iload_n dX8_holding_58 rfl rfl ?_
        refine x_imulN dX8_holding_59 ?_
        refine x_isub dX8_holding_60 ?_
        exact hR _ _ _ _ dX8_holding_61 (⟨by rw [if_pos hc], rfl⟩)
    · intro r hr ih
      have hwr := hT.2.2 r hr
      refine x_iload dX8_holding_6 rfl ?_
      refine x_aload_n dX8_holding_8 rfl rfl ?_
      refine x_getr dX8_holding_9 fX8_19 rfl rfl (by decide) ?_
      refine x_getv (hn) dX8_holding_12 fX8_103 rfl rfl (by decide) ?_
      refine x_icmp_geN (tgt := 51) dX8_holding_15 (by decide) (by omega) (by omega) (fun hc => ?_) (fun hc => ?_)
      · exact absurd hc (by omega)
      refine x_iload dX8_holding_18 rfl ?_
      refine x_iconst (v := nI 0) dX8_holding_20 (by decide) ?_
      refine x_iconst (v := nI 5) dX8_holding_21 (by decide) ?_
      refine x_aload_n dX8_holding_22 rfl rfl ?_
      refine x_getr dX8_holding_23 fX8_31 rfl rfl (by decide) ?_
      refine x_getr dX8_holding_26 fX8_143 rfl rfl (by decide) ?_
      refine x_iload dX8_holding_29 rfl ?_
      refine x_ialdN dX8_holding_31 rfl (by decide) (by omega) (by decide) (hwr.1) ?_
      refine x_iload_n dX8_holding_32 rfl rfl ?_
      refine x_iaddN dX8_holding_33 ?_
      refine x_iload_n dX8_holding_34 rfl rfl ?_
      refine x_isub dX8_holding_35 ?_
      refine x_mmin dX8_holding_36 kX8_279 (by omega) (Nat.le_of_ble_eq_true rfl) ?_
      refine x_mmax dX8_holding_39 kX8_293 (by omega) (Nat.le_of_ble_eq_true rfl) ?_
      rw [hold1 (w r) (by omega) a ha b hb]
      refine x_iaddN dX8_holding_42 ?_
      refine xis6_4 dX8_holding_43 rfl ?_
      refine xinc6_5N dX8_holding_45 rfl ?_
      refine x_goto (tgt := 6) dX8_holding_48 (by decide) ?_
      exact ih
  exact key 0 (by omega)
