-- ===== the component: slips =====
def lkP (x s : Nat) : Nat → Nat
  | 0 => 1
  | r + 1 => lkP x s r * (if s / 2 ^ r % 2 = 1 then x else 10 - x)
theorem lk_pop : ∀ n, n < 6 → ∀ s, s < 2 ^ n → ∀ x, x < 11 → lkP x s n = x ^ pop s * (10 - x) ^ (n - pop s) := by decide +kernel
theorem lkP_1 {x s r : Nat} (h : s / 2 ^ r % 2 = 1) : lkP x s (r + 1) = lkP x s r * x := by show lkP x s r * _ = _; rw [if_pos h]
theorem lkP_0 {x s r : Nat} (h : ¬ (s / 2 ^ r % 2 = 1)) : lkP x s (r + 1) = lkP x s r * (10 - x) := by show lkP x s r * _ = _; rw [if_neg h]
theorem mn5b : ∀ a, a < 6 → ∀ b, b < 2 → (if nI (a + b) < nI 5 then nI (a + b) else nI 5) = nI (a + if b = 1 ∧ a < 5 then 1 else 0) := by decide
set_option maxHeartbeats 8000000 in
theorem k_slips (E : Ev) (d : Nat) (M : PM) (n K D e h x : Nat) (p : Int32) (q w kd pt nd : Nat → Nat) (hH : Hc M n K D kd pt nd) (hT : Tb M 13 n q w) (he : e < D) (hh : h < 2) (hx : x < 11) (hqK : ∀ r c, r < n → c < 5 → q (5 * r + c) < 4 * K) : Ci E (d + 4) mX8_slips [.ref (ad E 0), .int (nI e), .int (nI h), .int (nI x), .int p] M (fun v N => v = frc (slU kd q w n pt nd e h x) (10 ^ n) p ∧ Fr M N [16, 17, 18, 32, 33]) := by
  obtain ⟨f1, f2, f3, f4, f5, f6, f7, f8, f9⟩ := id hH
  have h2n := p2 f4
  have h10 := p10 f4
  refine Ct.ofi [some (.ref (ad E 0)), some (.int (nI e)), some (.int (nI h)), some (.int (nI x)), some (.int p), none, none, none, none, none, none] (own := RX8) rfl (by decide) (Nat.le_of_ble_eq_true rfl) rfl (fun C hR => ?_)
  refine x_aload_n dX8_slips_0 rfl rfl ?_
  refine x_iload_n dX8_slips_1 rfl rfl ?_
  refine x_callVi dX8_slips_2 mvX8_isDeed kX8_235 (k_is_6 E (d + 3) M (nI e) D f3 (by omega)) rfl (by decide) (by omega) rfl rfl (Nat.le_of_ble_eq_true rfl) ?_
  rintro _ _ ⟨rfl, rfl⟩
  refine x_if_neB (tgt := 10) dX8_slips_5 (by decide) (fun hc => ?_) (fun hc => ?_)
  rotate_left
  · exact absurd (inR_nI he (by omega)) (of_decide_eq_false hc)
  refine x_iload_n dX8_slips_10 rfl rfl ?_
  refine x_callSi dX8_slips_11 msX8_isHalf kX8_172 (k_isHalf E (d + 3) M (nI h)) (by omega) rfl rfl (Nat.le_of_ble_eq_true rfl) ?_
  rintro _ _ ⟨rfl, rfl⟩
  refine x_if_eqB (tgt := 27) dX8_slips_14 (by decide) (fun hc => ?_) (fun hc => ?_)
  · exact absurd (inR_nI hh (by decide)) (of_decide_eq_false hc)
  refine x_iload_n dX8_slips_17 rfl rfl ?_
  refine x_if_ltN (tgt := 27) dX8_slips_18 (by decide) (by omega) ?_
  refine x_iload_n dX8_slips_21 rfl rfl ?_
  refine x_bipush (v := nI 10) dX8_slips_22 (by decide) ?_
  refine x_icmp_leN (tgt := 30) dX8_slips_24 (by decide) (by omega) (by omega) (fun hc => ?_) (fun hc => ?_)
  rotate_left
  · exact absurd hc (by omega)
  refine x_aload_n dX8_slips_30 rfl rfl ?_
  refine x_getr dX8_slips_31 fX8_35 rfl rfl (by decide) ?_
  refine x_aload_n dX8_slips_34 rfl rfl ?_
  refine x_getr dX8_slips_35 fX8_31 rfl rfl (by decide) ?_
  refine x_callVv dX8_slips_38 mvX4_copyOf kX8_249 (k_copyOf_16_13 E (d + 2) M) rfl (by decide) (by omega) rfl rfl (Nat.le_of_ble_eq_true rfl) ?_
  rintro N0 ⟨hN0, e1, e2, e3⟩
  refine x_iconst (v := nI 0) dX8_slips_41 (by decide) ?_
  refine xis11_5 dX8_slips_42 rfl ?_
  refine x_iconst (v := nI 1) dX8_slips_44 (by decide) ?_
  refine xis11_6 dX8_slips_45 rfl ?_
  refine x_iconst (v := nI 0) dX8_slips_47 (by decide) ?_
  refine xis11_7 dX8_slips_48 rfl ?_
  have key : ∀ i, i ≤ 2 ^ n → ∀ N l8 l9 l10, nl l8 = true → nl l9 = true → nl l10 = true → Fr M N [16, 17, 18, 32, 33] → (∀ j, j < 25 → N.1 17 j = M.1 14 j) → X E (d + 4) RX8 cX8_slips 11 C 78 [some (.ref (ad E 0)), some (.int (nI e)), some (.int (nI h)), some (.int (nI x)), some (.int p), some (.int (nI (fb_sm (slT kd q w n pt nd e h x) i))), some (.int (nI (10 ^ n))), some (.int (nI i)), l8, l9, l10] [] N := by
    refine up_loop (2 ^ n) ?_ ?_
    · intro N l8 l9 l10 n8 n9 n10 hN hc17
      have hU := slU_le (kd := kd) (q := q) (w := w) (pt := pt) (nd := nd) (e := e) (h := h) (x := x) f4 (by omega)
      unfold slU at hU
      have h10p : 0 < 10 ^ n := Nat.pow_pos (by decide)
      refine x_iload dX8_slips_78 rfl ?_
      refine x_iconst (v := nI 1) dX8_slips_80 (by decide) ?_
      refine x_aload_n dX8_slips_81 rfl rfl ?_
      refine x_getr dX8_slips_82 fX8_19 rfl rfl (by decide) ?_
      refine x_getv (hN.v (by decide) f1) dX8_slips_85 fX8_103 rfl rfl (by decide) ?_
      refine x_ishlN dX8_slips_88 (by omega) (by omega) ?_
      rw [Nat.one_mul]
      refine x_icmp_geN (tgt := 219) dX8_slips_89 (by decide) (by omega) (by omega) (fun hc => ?_) (fun hc => ?_)
      rotate_left
      · exact absurd hc (by omega)
      refine x_iload dX8_slips_219 rfl ?_
      refine x_iload dX8_slips_221 rfl ?_
      refine x_iload dX8_slips_223 rfl ?_
      refine x_callSi dX8_slips_225 msX8_fraction kX8_266 (k_fraction E (d + 2) N _ _ p (by omega) (by omega) h10p) (by omega) rfl rfl (Nat.le_of_ble_eq_true rfl) ?_
      rintro _ _ ⟨rfl, rfl⟩
      exact hR _ _ _ _ dX8_slips_228 (⟨rfl, hN⟩)
    · intro i hi ih N l8 l9 l10 n8 n9 n10 hN hc17
      rw [fb_sm_succ] at ih
      refine x_iload dX8_slips_78 rfl ?_
      refine x_iconst (v := nI 1) dX8_slips_80 (by decide) ?_
      refine x_aload_n dX8_slips_81 rfl rfl ?_
      refine x_getr dX8_slips_82 fX8_19 rfl rfl (by decide) ?_
      refine x_getv (hN.v (by decide) f1) dX8_slips_85 fX8_103 rfl rfl (by decide) ?_
      refine x_ishlN dX8_slips_88 (by omega) (by omega) ?_
      rw [Nat.one_mul]
      refine x_icmp_geN (tgt := 219) dX8_slips_89 (by decide) (by omega) (by omega) (fun hc => ?_) (fun hc => ?_)
      · exact absurd hc (by omega)
      refine x_iconst (v := nI 1) dX8_slips_92 (by decide) ?_
      refine xis11_8 dX8_slips_93 rfl ?_
      refine x_iconst (v := nI 0) dX8_slips_95 (by decide) ?_
      refine xis11_9 dX8_slips_96 rfl ?_
      have key2 : ∀ r, r ≤ n → ∀ N l10, nl l10 = true → Fr M N [16, 17, 18, 32, 33] → (∀ j, j < 25 → N.1 17 j = M.1 14 j) → (∀ r', r' < r → N.1 18 r' = nI (mvW w i r')) → X E (d + 4) RX8 cX8_slips 11 C 98 [some (.ref (ad E 0)), some (.int (nI e)), some (.int (nI h)), some (.int (nI x)), some (.int p), some (.int (nI (fb_sm (slT kd q w n pt nd e h x) i))), some (.int (nI (10 ^ n))), some (.int (nI i)), some (.int (nI (lkP x i r))), some (.int (nI r)), l10] [] N := by
        refine up_loop n ?_ ?_
        · intro N l10 n10 hN hc17 hw1
          have hTN : Tb N 16 n q (mvW w i) := by
            refine ⟨f4, fun r c hr hc5 => ?_, fun r hr => ⟨hw1 r hr, ?_⟩⟩
            · rw [show 16 + 1 = 17 from rfl, hc17 _ (by omega)]; exact hT.2.1 r c hr hc5
            · have := (hT.2.2 r hr).2
              unfold mvW; split <;> omega
          have hHN : Hc N n K D kd pt nd := hH.fr hN (by decide) (by decide) (by decide) (by decide)
          refine x_iload dX8_slips_98 rfl ?_
          refine x_aload_n dX8_slips_100 rfl rfl ?_
          refine x_getr dX8_slips_101 fX8_19 rfl rfl (by decide) ?_
          refine x_getv (hN.v (by decide) f1) dX8_slips_104 fX8_103 rfl rfl (by decide) ?_
          refine x_icmp_geN (tgt := 171) dX8_slips_107 (by decide) (by omega) (by omega) (fun hc => ?_) (fun hc => ?_)
          rotate_left
          · exact absurd hc (by omega)
          refine x_aload_n dX8_slips_171 rfl rfl ?_
          refine x_getr dX8_slips_172 fX8_56 rfl rfl (by decide) ?_
          refine x_aload_n dX8_slips_175 rfl rfl ?_
          refine x_getr dX8_slips_176 fX8_35 rfl rfl (by decide) ?_
          refine x_getr dX8_slips_179 fX8_139 rfl rfl (by decide) ?_
          refine x_aload_n dX8_slips_182 rfl rfl ?_
          refine x_getr dX8_slips_183 fX8_35 rfl rfl (by decide) ?_
          refine x_getr dX8_slips_186 fX8_143 rfl rfl (by decide) ?_
          refine x_callVv dX8_slips_189 mvX5_take kX8_209 (k_take E d N 17 18 n K D q (mvW w i) kd pt nd hHN (Cw_16 hTN) hqK) rfl (by decide) (by omega) rfl rfl (Nat.le_of_ble_eq_true rfl) ?_
          rintro N3 ⟨hN3, hl3, ht3⟩
          have hN3' : Fr M N3 [16, 17, 18, 32, 33] := hN.tr hN3 (by decide)
          have hH3 : Hc N3 n K D kd pt nd := hH.fr hN3' (by decide) (by decide) (by decide) (by decide)
          have hc3 : ∀ j, j < 25 → N3.1 17 j = M.1 14 j := fun j hj => hN3.v (by decide) (hc17 j hj)
          refine x_aload_n dX8_slips_192 rfl rfl ?_
          refine x_getr dX8_slips_193 fX8_56 rfl rfl (by decide) ?_
          refine x_iload_n dX8_slips_196 rfl rfl ?_
          refine x_iload_n dX8_slips_197 rfl rfl ?_
          refine x_bipush (v := nI 31) dX8_slips_198 (by decide) ?_
          refine x_callVi dX8_slips_200 mvX5_isDone kX8_238 (k_isDone E (d + 2) N3 n K D e h 31 q (mvW w i) kd pt nd hH3 ht3 he hh (by decide) hqK) rfl (by decide) (by omega) rfl rfl (Nat.le_of_ble_eq_true rfl) ?_
          rintro _ _ ⟨rfl, rfl⟩
          refine x_if_eqB (tgt := 213) dX8_slips_203 (by decide) (fun hc => ?_) (fun hc => ?_)
          · have hb := of_decide_eq_false hc
            rw [show slT kd q w n pt nd e h x i = 0 by unfold slT; rw [if_neg hb], Nat.add_zero] at ih
            refine xinc11_7N dX8_slips_213 rfl ?_
            refine x_goto (tgt := 78) dX8_slips_216 (by decide) ?_
            exact ih N3 _ _ _ rfl rfl n10 hN3' hc3
          · have hb := of_decide_eq_true hc
            rw [show slT kd q w n pt nd e h x i = lkP x i n by unfold slT; rw [if_pos hb, lk_pop n (by omega) i hi x hx]] at ih
            refine x_iload dX8_slips_206 rfl ?_
            refine x_iload dX8_slips_208 rfl ?_
            refine x_iaddN dX8_slips_210 ?_
            refine xis11_5 dX8_slips_211 rfl ?_
            refine xinc11_7N dX8_slips_213 rfl ?_
            refine x_goto (tgt := 78) dX8_slips_216 (by decide) ?_
            exact ih N3 _ _ _ rfl rfl n10 hN3' hc3
        · intro r hr ih2 N l10 n10 hN hc17 hw1
          have hwr := hT.2.2 r hr
          have hb2 : i / 2 ^ r % 2 < 2 := Nat.mod_lt _ (by decide)
          have hput : ∀ r', r' < r + 1 → (sa N 18 (upd (N.1 18) r (nI (mvW w i r)))).1 18 r' = nI (mvW w i r') := fun r' hr' => by
            rw [sa_1]
            by_cases e : r' = r
            · subst e; exact pk_us
            · rw [pk_un e]; exact hw1 r' (by omega)
          refine x_iload dX8_slips_98 rfl ?_
          refine x_aload_n dX8_slips_100 rfl rfl ?_
          refine x_getr dX8_slips_101 fX8_19 rfl rfl (by decide) ?_
          refine x_getv (hN.v (by decide) f1) dX8_slips_104 fX8_103 rfl rfl (by decide) ?_
          refine x_icmp_geN (tgt := 171) dX8_slips_107 (by decide) (by omega) (by omega) (fun hc => ?_) (fun hc => ?_)
          · exact absurd hc (by omega)
          refine x_iload dX8_slips_110 rfl ?_
          refine x_iload dX8_slips_112 rfl ?_
          refine x_ishrN dX8_slips_114 (by omega) (by omega) ?_
          refine x_iconst (v := nI 1) dX8_slips_115 (by decide) ?_
          refine x_and1N dX8_slips_116 ?_
          refine xis11_10 dX8_slips_117 rfl ?_
          refine x_aload_n dX8_slips_119 rfl rfl ?_
          refine x_getr dX8_slips_120 fX8_35 rfl rfl (by decide) ?_
          refine x_getr dX8_slips_123 fX8_143 rfl rfl (by decide) ?_
          refine x_iload dX8_slips_126 rfl ?_
          refine x_iconst (v := nI 5) dX8_slips_128 (by decide) ?_
          refine x_aload_n dX8_slips_129 rfl rfl ?_
          refine x_getr dX8_slips_130 fX8_31 rfl rfl (by decide) ?_
          refine x_getr dX8_slips_133 fX8_143 rfl rfl (by decide) ?_
          refine x_iload dX8_slips_136 rfl ?_
          refine x_ialdN dX8_slips_138 rfl (by decide) (by omega) (by decide) (hN.v (by decide) hwr.1) ?_
          refine x_iload dX8_slips_139 rfl ?_
          refine x_iaddN dX8_slips_141 ?_
          refine x_mmin dX8_slips_142 kX8_279 (by omega) (Nat.le_of_ble_eq_true rfl) ?_
          rw [mn5b (w r) (by omega) _ hb2, show w r + (if i / 2 ^ r % 2 = 1 ∧ w r < 5 then 1 else 0) = mvW w i r from rfl]
          refine x_iastN dX8_slips_145 rfl (by decide) (by omega) (by decide) ?_
          refine x_iload dX8_slips_146 rfl ?_
          refine x_iload dX8_slips_148 rfl ?_
          refine x_iconst (v := nI 1) dX8_slips_150 (by decide) ?_
          refine x_icmp_neN (tgt := 158) dX8_slips_151 (by decide) (by omega) (by omega) (fun hc => ?_) (fun hc => ?_)
          · refine x_bipush (v := nI 10) dX8_slips_158 (by decide) ?_
            refine x_iload_n dX8_slips_160 rfl rfl ?_
            refine x_isubN dX8_slips_161 (by omega) ?_
            refine x_imulN dX8_slips_162 ?_
            refine xis11_8 dX8_slips_163 rfl ?_
            refine xinc11_9N dX8_slips_165 rfl ?_
            refine x_goto (tgt := 98) dX8_slips_168 (by decide) ?_
            rw [lkP_0 hc] at ih2
            exact ih2 _ _ rfl (hN.sa (by decide)) (fun j hj => by rw [sa_ne (by decide)]; exact hc17 j hj) hput
          · refine x_iload_n dX8_slips_154 rfl rfl ?_
            refine x_goto (tgt := 162) dX8_slips_155 (by decide) ?_
            refine x_imulN dX8_slips_162 ?_
            refine xis11_8 dX8_slips_163 rfl ?_
            refine xinc11_9N dX8_slips_165 rfl ?_
            refine x_goto (tgt := 98) dX8_slips_168 (by decide) ?_
            rw [lkP_1 hc] at ih2
            exact ih2 _ _ rfl (hN.sa (by decide)) (fun j hj => by rw [sa_ne (by decide)]; exact hc17 j hj) hput
      exact key2 0 (by omega) N _ n10 hN hc17 (fun r' h => absurd h (by omega))
  have key0 : ∀ i, i ≤ n → X E (d + 4) RX8 cX8_slips 11 C 50 [some (.ref (ad E 0)), some (.int (nI e)), some (.int (nI h)), some (.int (nI x)), some (.int p), some (.int (nI 0)), some (.int (nI (10 ^ i))), some (.int (nI i)), none, none, none] [] N0 := by
    refine up_loop n ?_ ?_
    · refine x_iload dX8_slips_50 rfl ?_
      refine x_aload_n dX8_slips_52 rfl rfl ?_
      refine x_getr dX8_slips_53 fX8_19 rfl rfl (by decide) ?_
      refine x_getv (hN0.v (by decide) f1) dX8_slips_56 fX8_103 rfl rfl (by decide) ?_
      refine x_icmp_geN (tgt := 75) dX8_slips_59 (by decide) (by omega) (by omega) (fun hc => ?_) (fun hc => ?_)
      rotate_left
      · exact absurd hc (by omega)
      refine x_iconst (v := nI 0) dX8_slips_75 (by decide) ?_
      refine xis11_7 dX8_slips_76 rfl ?_
      exact key 0 (Nat.zero_le _) N0 _ _ _ rfl rfl rfl (hN0.wd (by decide)) e1
    · intro i hi ih
      rw [Nat.pow_succ] at ih
      refine x_iload dX8_slips_50 rfl ?_
      refine x_aload_n dX8_slips_52 rfl rfl ?_
      refine x_getr dX8_slips_53 fX8_19 rfl rfl (by decide) ?_
      refine x_getv (hN0.v (by decide) f1) dX8_slips_56 fX8_103 rfl rfl (by decide) ?_
      refine x_icmp_geN (tgt := 75) dX8_slips_59 (by decide) (by omega) (by omega) (fun hc => ?_) (fun hc => ?_)
      · exact absurd hc (by omega)
      refine x_iload dX8_slips_62 rfl ?_
      refine x_bipush (v := nI 10) dX8_slips_64 (by decide) ?_
      refine x_imulN dX8_slips_66 ?_
      refine xis11_6 dX8_slips_67 rfl ?_
      refine xinc11_7N dX8_slips_69 rfl ?_
      refine x_goto (tgt := 50) dX8_slips_72 (by decide) ?_
      exact ih
  exact key0 0 (by omega)
