-- ===== the component: shares =====
theorem fac_at : ∀ j, j < 6 → facF (nI j).toNatClampNeg = .int (nI (fct j)) := by
  intro j hj
  rw [nI_clamp (by omega)]
  match j, hj with
  | 0, _ | 1, _ | 2, _ | 3, _ | 4, _ | 5, _ => rfl
  | k + 6, h => exact absurd h (by omega)
set_option maxHeartbeats 8000000 in
theorem k_ordersWith (E : Ev) (d : Nat) (M : PM) (K a : Nat) (hK : M.1 3 4 = nI K) (hK5 : K ≤ 5) (ha : a + 1 ≤ K) : Ci E d mX8_ordersWith [.ref (ad E 0), .int (nI a)] M (fun v N => v = nI (fct a * fct (K - 1 - a)) ∧ M = N) := by
  refine Ct.ofi [some (.ref (ad E 0)), some (.int (nI a)), none] (own := RX8) rfl (by decide) (Nat.le_of_ble_eq_true rfl) rfl (fun C hR => ?_)
  refine x_aload_n dX8_ordersWith_0 rfl rfl ?_
  refine x_getr dX8_ordersWith_1 fX8_19 rfl rfl (by decide) ?_
  refine x_getv (hK) dX8_ordersWith_4 fX8_106 rfl rfl (by decide) ?_
  refine x_iconst (v := nI 1) dX8_ordersWith_7 (by decide) ?_
  refine x_isubN dX8_ordersWith_8 (by omega) ?_
  refine x_iload_n dX8_ordersWith_9 rfl rfl ?_
  refine x_isubN dX8_ordersWith_10 (by omega) ?_
  refine xis3_2 dX8_ordersWith_11 rfl ?_
  refine x_iload_n dX8_ordersWith_12 rfl rfl ?_
  refine x_if_ltN (tgt := 20) dX8_ordersWith_13 (by decide) (by omega) ?_
  refine x_iload_n dX8_ordersWith_16 rfl rfl ?_
  refine x_if_geN (tgt := 22) dX8_ordersWith_17 (by decide) (by omega) ?_
  refine x_fac dX8_ordersWith_22 fX8_263 ?_
  refine x_iload_n dX8_ordersWith_25 rfl rfl ?_
  refine x_facld dX8_ordersWith_26 (vp_in_nI (by omega) (by decide)) (fac_at _ (by omega)) ?_
  refine x_fac dX8_ordersWith_27 fX8_263 ?_
  refine x_iload_n dX8_ordersWith_30 rfl rfl ?_
  refine x_facld dX8_ordersWith_31 (vp_in_nI (by omega) (by decide)) (fac_at _ (by omega)) ?_
  refine x_imulN dX8_ordersWith_32 ?_
  exact hR _ _ _ _ dX8_ordersWith_33 (⟨rfl, rfl⟩)
set_option maxHeartbeats 8000000 in
theorem k_share (E : Ev) (d : Nat) (M : PM) (n K D k h : Nat) (p : Int32) (q w kd pt nd : Nat → Nat) (hH : Hc M n K D kd pt nd) (hT : Tb M 13 n q w) (hk : k < K) (hh : h < 2) (hqK : ∀ r c, r < n → c < 5 → q (5 * r + c) < 4 * K) : Ci E (d + 5) mX8_share [.ref (ad E 0), .int (nI k), .int (nI h), .int p] M (fun v N => v = frc (shU kd q w n K D pt nd h k) (fct K) p ∧ Fr M N [32, 33]) := by
  obtain ⟨f1, f2, f3, f4, f5, f6, f7, f8, f9⟩ := id hH
  have h2K := p2 f5
  have h2k : 2 ^ k ≤ 16 := p2' (by omega)
  refine Ct.ofi [some (.ref (ad E 0)), some (.int (nI k)), some (.int (nI h)), some (.int p), none, none, none] (own := RX8) rfl (by decide) (Nat.le_of_ble_eq_true rfl) rfl (fun C hR => ?_)
  refine x_aload_n dX8_share_0 rfl rfl ?_
  refine x_iload_n dX8_share_1 rfl rfl ?_
  refine x_callVi dX8_share_2 mvX8_isKin kX8_160 (k_is_4 E (d + 4) M (nI k) K f2 f5) rfl (by decide) (by omega) rfl rfl (Nat.le_of_ble_eq_true rfl) ?_
  rintro _ _ ⟨rfl, rfl⟩
  refine x_if_neB (tgt := 10) dX8_share_5 (by decide) (fun hc => ?_) (fun hc => ?_)
  rotate_left
  · exact absurd (inR_nI hk (by omega)) (of_decide_eq_false hc)
  refine x_iload_n dX8_share_10 rfl rfl ?_
  refine x_callSi dX8_share_11 msX8_isHalf kX8_172 (k_isHalf E (d + 4) M (nI h)) (by omega) rfl rfl (Nat.le_of_ble_eq_true rfl) ?_
  rintro _ _ ⟨rfl, rfl⟩
  refine x_if_neB (tgt := 20) dX8_share_14 (by decide) (fun hc => ?_) (fun hc => ?_)
  rotate_left
  · exact absurd (inR_nI hh (by decide)) (of_decide_eq_false hc)
  refine x_aload_n dX8_share_20 rfl rfl ?_
  refine x_callVr dX8_share_21 mvX8_talliedNow kX8_122 (k_talliedNow E d M n K D q w kd pt nd hH hT hqK) rfl (by decide) (by omega) rfl rfl (Nat.le_of_ble_eq_true rfl) ?_
  rintro _ N ⟨rfl, hN, hl, ht⟩
  refine x_pop dX8_share_24 rfl ?_
  refine x_iconst (v := nI 0) dX8_share_25 (by decide) ?_
  refine xis7_4 dX8_share_26 rfl ?_
  refine x_iconst (v := nI 0) dX8_share_28 (by decide) ?_
  refine xis7_5 dX8_share_29 rfl ?_
  have hHN : Hc N n K D kd pt nd := hH.fr hN (by decide) (by decide) (by decide) (by decide)
  have key : ∀ i, i ≤ 2 ^ K → ∀ l6, X E (d + 5) RX8 cX8_share 7 C 31 [some (.ref (ad E 0)), some (.int (nI k)), some (.int (nI h)), some (.int p), some (.int (nI (fb_sm (shT kd q w n K D pt nd h k) i))), some (.int (nI i)), l6] [] N := by
    refine up_loop (2 ^ K) ?_ ?_
    · intro l6
      have hU := shU_le (kd := kd) (q := q) (w := w) (n := n) (D := D) (pt := pt) (nd := nd) (h := h) (k := k) f5
      unfold shU at hU
      have hfK := fct_le K (by omega)
      have hfp := fct_pos K
      refine x_iload dX8_share_31 rfl ?_
      refine x_iconst (v := nI 1) dX8_share_33 (by decide) ?_
      refine x_aload_n dX8_share_34 rfl rfl ?_
      refine x_getr dX8_share_35 fX8_19 rfl rfl (by decide) ?_
      refine x_getv (hN.v (by decide) f2) dX8_share_38 fX8_106 rfl rfl (by decide) ?_
      refine x_ishlN dX8_share_41 (by omega) (by omega) ?_
      rw [Nat.one_mul]
      refine x_icmp_geN (tgt := 110) dX8_share_42 (by decide) (by omega) (by omega) (fun hc => ?_) (fun hc => ?_)
      rotate_left
      · exact absurd hc (by omega)
      refine x_iload dX8_share_110 rfl ?_
      refine x_fac dX8_share_112 fX8_263 ?_
      refine x_aload_n dX8_share_115 rfl rfl ?_
      refine x_getr dX8_share_116 fX8_19 rfl rfl (by decide) ?_
      refine x_getv (hN.v (by decide) f2) dX8_share_119 fX8_106 rfl rfl (by decide) ?_
      refine x_facld dX8_share_122 (vp_in_nI (by omega) (by decide)) (fac_at _ (by omega)) ?_
      refine x_iload_n dX8_share_123 rfl rfl ?_
      refine x_callSi dX8_share_124 msX8_fraction kX8_266 (k_fraction E (d + 3) N _ _ p (by omega) (by omega) hfp) (by omega) rfl rfl (Nat.le_of_ble_eq_true rfl) ?_
      rintro _ _ ⟨rfl, rfl⟩
      exact hR _ _ _ _ dX8_share_127 (⟨rfl, hN⟩)
    · intro i hi ih l6
      rw [fb_sm_succ] at ih
      refine x_iload dX8_share_31 rfl ?_
      refine x_iconst (v := nI 1) dX8_share_33 (by decide) ?_
      refine x_aload_n dX8_share_34 rfl rfl ?_
      refine x_getr dX8_share_35 fX8_19 rfl rfl (by decide) ?_
      refine x_getv (hN.v (by decide) f2) dX8_share_38 fX8_106 rfl rfl (by decide) ?_
      refine x_ishlN dX8_share_41 (by omega) (by omega) ?_
      rw [Nat.one_mul]
      refine x_icmp_geN (tgt := 110) dX8_share_42 (by decide) (by omega) (by omega) (fun hc => ?_) (fun hc => ?_)
      · exact absurd hc (by omega)
      refine x_iload dX8_share_45 rfl ?_
      refine x_iload_n dX8_share_47 rfl rfl ?_
      refine x_ishrN dX8_share_48 (by omega) (by omega) ?_
      refine x_iconst (v := nI 1) dX8_share_49 (by decide) ?_
      refine x_and1N dX8_share_50 ?_
      refine x_if_neN (tgt := 104) dX8_share_51 (by decide) (by omega) (fun hc => ?_) (fun hc => ?_)
      · have hb : i / 2 ^ k % 2 = 1 := by omega
        rw [show shT kd q w n K D pt nd h k i = 0 by unfold shT; rw [if_pos hb], Nat.add_zero] at ih
        refine xinc7_5N dX8_share_104 rfl ?_
        refine x_goto (tgt := 31) dX8_share_107 (by decide) ?_
        exact ih _
      · have hb : ¬ (i / 2 ^ k % 2 = 1) := by omega
        have hpop := pop_lt_n K (by omega) i hi k hk hb
        have hor : i ||| 2 ^ k < 2 ^ K := Nat.or_lt_two_pow hi (Nat.pow_lt_pow_right (by decide) hk)
        have hmono : pop (canB kd q w n D pt nd h i) ≤ pop (canB kd q w n D pt nd h (i ||| 2 ^ k)) := vlA_mono (kd := kd) (q := q) (w := w) (n := n) (pt := pt) (nd := nd) (h := h) (S := i) (T := i ||| 2 ^ k) (show D ≤ 5 by omega) (fun x e => (or_bit i (2 ^ k) x).mpr (Or.inl e))
        rw [show shT kd q w n K D pt nd h k i = (pop (canB kd q w n D pt nd h (i ||| 2 ^ k)) - pop (canB kd q w n D pt nd h i)) * (fct (pop i) * fct (K - 1 - pop i)) by unfold shT; rw [if_neg hb, Nat.mul_comm]; rfl] at ih
        have b0 := canB_lt kd q w n D pt nd h i
        have b1 := canB_lt kd q w n D pt nd h (i ||| 2 ^ k)
        have h2D := p2' f6
        refine x_aload_n dX8_share_54 rfl rfl ?_
        refine x_getr dX8_share_55 fX8_56 rfl rfl (by decide) ?_
        refine x_iload_n dX8_share_58 rfl rfl ?_
        refine x_iload dX8_share_59 rfl ?_
        refine x_iconst (v := nI 1) dX8_share_61 (by decide) ?_
        refine x_iload_n dX8_share_62 rfl rfl ?_
        refine x_ishlN dX8_share_63 (by omega) (by omega) ?_
        rw [Nat.one_mul]
        refine x_iorN dX8_share_64 ?_
        refine x_callVi dX8_share_65 mvX5_deedBits kX8_179 (k_deedBits E (d + 2) N n K D h (i ||| 2 ^ k) q w kd pt nd hHN ht hh (by omega) hqK) rfl (by decide) (by omega) rfl rfl (Nat.le_of_ble_eq_true rfl) ?_
        rintro _ _ ⟨rfl, rfl⟩
        refine x_callSi dX8_share_68 msJ6_bitCount_0f7a4 kX8_255 (c_bitCount E (d + 4) N _ (by omega)) (by omega) rfl rfl (Nat.le_of_ble_eq_true rfl) ?_
        rintro _ _ ⟨rfl, rfl⟩
        refine x_aload_n dX8_share_71 rfl rfl ?_
        refine x_getr dX8_share_72 fX8_56 rfl rfl (by decide) ?_
        refine x_iload_n dX8_share_75 rfl rfl ?_
        refine x_iload dX8_share_76 rfl ?_
        refine x_callVi dX8_share_78 mvX5_deedBits kX8_179 (k_deedBits E (d + 2) N n K D h i q w kd pt nd hHN ht hh (by omega) hqK) rfl (by decide) (by omega) rfl rfl (Nat.le_of_ble_eq_true rfl) ?_
        rintro _ _ ⟨rfl, rfl⟩
        refine x_callSi dX8_share_81 msJ6_bitCount_0f7a4 kX8_255 (c_bitCount E (d + 4) N _ (by omega)) (by omega) rfl rfl (Nat.le_of_ble_eq_true rfl) ?_
        rintro _ _ ⟨rfl, rfl⟩
        refine x_isubN dX8_share_84 (by omega) ?_
        refine xis7_6 dX8_share_85 rfl ?_
        refine x_iload dX8_share_87 rfl ?_
        refine x_iload dX8_share_89 rfl ?_
        refine x_aload_n dX8_share_91 rfl rfl ?_
        refine x_iload dX8_share_92 rfl ?_
        refine x_callSi dX8_share_94 msJ6_bitCount_0f7a4 kX8_255 (c_bitCount E (d + 4) N i (by omega)) (by omega) rfl rfl (Nat.le_of_ble_eq_true rfl) ?_
        rintro _ _ ⟨rfl, rfl⟩
        refine x_callVi dX8_share_97 mvX8_ordersWith kX8_260 (k_ordersWith E (d + 4) N K (pop i) (hN.v (by decide) f2) f5 hpop) rfl (by decide) (by omega) rfl rfl (Nat.le_of_ble_eq_true rfl) ?_
        rintro _ _ ⟨rfl, rfl⟩
        refine x_imulN dX8_share_100 ?_
        refine x_iaddN dX8_share_101 ?_
        refine xis7_4 dX8_share_102 rfl ?_
        refine xinc7_5N dX8_share_104 rfl ?_
        refine x_goto (tgt := 31) dX8_share_107 (by decide) ?_
        exact ih _
  exact key 0 (Nat.zero_le _) _
