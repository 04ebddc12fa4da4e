-- ===== the reference: shares, slips by chance =====
theorem or_bit (a b x : Nat) : (a ||| b) / 2 ^ x % 2 = 1 ↔ a / 2 ^ x % 2 = 1 ∨ b / 2 ^ x % 2 = 1 := by
  have t : ∀ m : Nat, m / 2 ^ x % 2 = 1 ↔ m.testBit x = true := by
    intro m
    rw [Nat.testBit_eq_decide_div_mod_eq, decide_eq_true_iff]
  rw [t, t, t, Nat.testBit_or, Bool.or_eq_true]
theorem pop_bits (f : Nat → Bool) {n : Nat} (hn : n ≤ 5) : pop (fb_sm (fun k => if f k = true then 2 ^ k else 0) n) = fb_sm (fun k => if f k = true then 1 else 0) n := by
  unfold pop
  obtain ⟨m, hm⟩ : ∃ m, 5 = n + m := ⟨5 - n, by omega⟩
  rw [hm, fb_sm_split]
  have hlt := bits_lt f n
  have e0 : fb_sm (fun k => fb_sm (fun k => if f k = true then 2 ^ k else 0) n / 2 ^ (n + k) % 2) m = 0 := by
    have : fb_sm (fun k => fb_sm (fun k => if f k = true then 2 ^ k else 0) n / 2 ^ (n + k) % 2) m = fb_sm (fun _ => 0) m := fb_sm_cong (fun k _ => by
      rw [Nat.div_eq_of_lt (Nat.lt_of_lt_of_le hlt (Nat.pow_le_pow_right (by decide) (by omega)))])
    rw [this, fb_sm_const, Nat.mul_zero]
  rw [e0, Nat.add_zero]
  exact fb_sm_cong (fun k hk => bit_sum f n k hk)
def vlA (kd q w : Nat → Nat) (n D : Nat) (pt nd : Nat → Nat) (h S : Nat) : Nat := pop (canB kd q w n D pt nd h S)
theorem vlA_eq {kd q w : Nat → Nat} {n D : Nat} {pt nd : Nat → Nat} {h S : Nat} (hD : D ≤ 5) : vlA kd q w n D pt nd h S = fb_sm (fun d => if nd d ≤ cnt kd q w n h (pt d) S then 1 else 0) D := by
  unfold vlA
  rw [canB_eq, pop_bits _ hD]
  exact fb_sm_cong (fun k _ => by simp)
theorem cnt_mono {kd q w : Nat → Nat} {n h p S T : Nat} (hS : ∀ x, S / 2 ^ x % 2 = 1 → T / 2 ^ x % 2 = 1) : cnt kd q w n h p S ≤ cnt kd q w n h p T := by
  unfold cnt
  refine fb_sm_le (fun r _ => fb_sm_le (fun c _ => ?_))
  unfold cng
  by_cases e : q (5 * r + c) % 4 = p ∧ S / 2 ^ (q (5 * r + c) / 4) % 2 = 1 ∧ cfc kd q w n r c / 2 ^ h % 2 = 1
  · rw [if_pos e, if_pos ⟨e.1, hS _ e.2.1, e.2.2⟩]; exact Nat.le_refl _
  · rw [if_neg e]; exact Nat.zero_le _
theorem vlA_mono {kd q w : Nat → Nat} {n D : Nat} {pt nd : Nat → Nat} {h S T : Nat} (hD : D ≤ 5) (hS : ∀ x, S / 2 ^ x % 2 = 1 → T / 2 ^ x % 2 = 1) : vlA kd q w n D pt nd h S ≤ vlA kd q w n D pt nd h T := by
  rw [vlA_eq hD, vlA_eq hD]
  refine fb_sm_le (fun k _ => ?_)
  have := cnt_mono (kd := kd) (q := q) (w := w) (n := n) (h := h) (p := pt k) hS
  by_cases e : nd k ≤ cnt kd q w n h (pt k) S
  · rw [if_pos e, if_pos (by omega)]; exact Nat.le_refl _
  · rw [if_neg e]; exact Nat.zero_le _
theorem fct_le : ∀ m, m < 6 → fct m ≤ 120 := by decide
theorem fct_pos : ∀ m, 0 < fct m
  | 0 => Nat.zero_lt_one
  | n + 1 => Nat.mul_pos (fct_pos n) (by omega)
theorem pop_le_n : ∀ n, n < 6 → ∀ s, s < 2 ^ n → pop s ≤ n := by decide +kernel
theorem pop_lt_n : ∀ n, n < 6 → ∀ s, s < 2 ^ n → ∀ k, k < n → s / 2 ^ k % 2 ≠ 1 → pop s + 1 ≤ n := by decide +kernel
def shT (kd q w : Nat → Nat) (n K D : Nat) (pt nd : Nat → Nat) (h k S : Nat) : Nat := if S / 2 ^ k % 2 = 1 then 0 else fct (pop S) * fct (K - 1 - pop S) * (vlA kd q w n D pt nd h (S ||| 2 ^ k) - vlA kd q w n D pt nd h S)
def shU (kd q w : Nat → Nat) (n K D : Nat) (pt nd : Nat → Nat) (h k : Nat) : Nat := fb_sm (shT kd q w n K D pt nd h k) (2 ^ K)
theorem shT_le {kd q w : Nat → Nat} {n K D : Nat} {pt nd : Nat → Nat} {h k S : Nat} (hK : K ≤ 5) : shT kd q w n K D pt nd h k S ≤ 72000 := by
  unfold shT
  split
  · omega
  · have h1 := fct_le (pop S) (by have := pop_le S; omega)
    have h2 := fct_le (K - 1 - pop S) (by omega)
    have h3 : vlA kd q w n D pt nd h (S ||| 2 ^ k) ≤ 5 := pop_le _
    calc fct (pop S) * fct (K - 1 - pop S) * (vlA kd q w n D pt nd h (S ||| 2 ^ k) - vlA kd q w n D pt nd h S) ≤ 120 * 120 * 5 := Nat.mul_le_mul (Nat.mul_le_mul h1 h2) (by omega)
      _ = 72000 := rfl
theorem shU_le {kd q w : Nat → Nat} {n K D : Nat} {pt nd : Nat → Nat} {h k : Nat} (hK : K ≤ 5) : shU kd q w n K D pt nd h k ≤ 32 * 72000 := by
  have h1 : shU kd q w n K D pt nd h k ≤ 2 ^ K * 72000 := fb_sm_bound (fun S _ => shT_le hK)
  exact Nat.le_trans h1 (Nat.mul_le_mul_right _ (p2 hK))
def frc (a b : Nat) (p : Int32) : Int32 := if p = 0 then nI (b / Nat.gcd a b) else nI (a / Nat.gcd a b)
set_option maxHeartbeats 8000000 in
theorem cM_share_no (E : Ev) (d : Nat) (M : PM) (K : Nat) (k h p : Int32) (hT : M.1 40 0 = nI 0) (hK : M.1 40 5 = nI K) (hK5 : K ≤ 5) (hx : ¬ (inR k K ∧ inR h 2)) : Ci E (d + 1) mX9_share [.ref (ad E 40), .int k, .int h, .int p] M (fun v N => v = (if inR k K then -2 else -1) ∧ M = N) := by
  refine Ct.ofi [some (.ref (ad E 40)), some (.int k), some (.int h), some (.int p), none, none, none] (own := RX9) rfl (by decide) (Nat.le_of_ble_eq_true rfl) rfl (fun C hR => ?_)
  refine x_aload_n dX9_share_0 rfl rfl ?_
  refine x_iconst (v := nI 0) dX9_share_1 (by decide) ?_
  refine x_put dX9_share_2 pX9_68 rfl rfl (by decide) rfl rfl ?_
  rw [thr hT]
  refine x_iload_n dX9_share_5 rfl rfl ?_
  refine x_i2l dX9_share_6 ?_
  refine x_lconst (v := 0) dX9_share_7 rfl ?_
  refine x_aload_n dX9_share_8 rfl rfl ?_
  refine x_getv (hK) dX9_share_9 fX9_117 rfl rfl (by decide) ?_
  refine x_iconst (v := nI 1) dX9_share_12 (by decide) ?_
  refine x_isub dX9_share_13 ?_
  refine x_i2l dX9_share_14 ?_
  refine x_callSi dX9_share_15 msX9_in kX9_74 (c_in3 E d M k _ _ 0 ((K : Int) - 1) rfl (tl1 (by omega))) (by omega) rfl rfl (Nat.le_of_ble_eq_true rfl) ?_
  rintro _ _ ⟨rfl, rfl⟩
  refine x_if_neB (tgt := 23) dX9_share_18 (by decide) (fun hc => ?_) (fun hc => ?_)
  rotate_left
  · have h1 : ¬ inR k K := fun e => of_decide_eq_false hc (by omega)
    refine x_iconst (v := -1) dX9_share_21 (by decide) ?_
    exact hR _ _ _ _ dX9_share_22 (⟨by rw [if_neg h1], rfl⟩)
  have h1 : inR k K := by have := of_decide_eq_true hc; omega
  refine x_iload_n dX9_share_23 rfl rfl ?_
  refine x_i2l dX9_share_24 ?_
  refine x_lconst (v := 0) dX9_share_25 rfl ?_
  refine x_lconst (v := 1) dX9_share_26 rfl ?_
  refine x_callSi dX9_share_27 msX9_in kX9_74 (c_in3 E d M h _ _ 0 1 rfl rfl) (by omega) rfl rfl (Nat.le_of_ble_eq_true rfl) ?_
  rintro _ _ ⟨rfl, rfl⟩
  refine x_if_neB (tgt := 36) dX9_share_30 (by decide) (fun hc => ?_) (fun hc => ?_)
  · have h2 := of_decide_eq_true hc
    exact absurd ⟨h1, by omega⟩ hx
  · refine x_bipush (v := -2) dX9_share_33 (by decide) ?_
    exact hR _ _ _ _ dX9_share_35 (⟨by rw [if_pos h1], rfl⟩)
set_option maxHeartbeats 8000000 in
theorem cM_share (E : Ev) (d : Nat) (M : PM) (n K D k h : Nat) (p : Int32) (q w kd pt nd : Nat → Nat) (hT : M.1 40 0 = nI 0) (hF : Fm M n K D kd pt nd) (hp : Pg M 49 n q w) (hk : k < K) (hh : h < 2) (hqK : ∀ r c, r < n → c < 5 → q (5 * r + c) < 4 * K) : Ci E (d + 3) mX9_share [.ref (ad E 40), .int (nI k), .int (nI h), .int p] M (fun v N => v = frc (shU kd q w n K D pt nd h k) (fct K) p ∧ Fr M N [56, 57, 59]) := by
  obtain ⟨f1, f2, f3, f4, f5, f6, f7, f8, f9⟩ := id hF
  have h2K := p2 f5
  have h2D := p2 (show D ≤ 5 by omega)
  have hkt : (nI k).toInt = (k : Int) := nI_toInt (by omega)
  have hht : (nI h).toInt = (h : Int) := nI_toInt (by omega)
  have h2k : 2 ^ k ≤ 16 := p2' (by omega)
  refine Ct.ofi [some (.ref (ad E 40)), some (.int (nI k)), some (.int (nI h)), some (.int p), none, none, none] (own := RX9) rfl (by decide) (Nat.le_of_ble_eq_true rfl) rfl (fun C hR => ?_)
  refine x_aload_n dX9_share_0 rfl rfl ?_
  refine x_iconst (v := nI 0) dX9_share_1 (by decide) ?_
  refine x_put dX9_share_2 pX9_68 rfl rfl (by decide) rfl rfl ?_
  rw [thr hT]
  refine x_iload_n dX9_share_5 rfl rfl ?_
  refine x_i2l dX9_share_6 ?_
  refine x_lconst (v := 0) dX9_share_7 rfl ?_
  refine x_aload_n dX9_share_8 rfl rfl ?_
  refine x_getv (f2) dX9_share_9 fX9_117 rfl rfl (by decide) ?_
  refine x_iconst (v := nI 1) dX9_share_12 (by decide) ?_
  refine x_isub dX9_share_13 ?_
  refine x_i2l dX9_share_14 ?_
  refine x_callSi dX9_share_15 msX9_in kX9_74 (c_in3 E d M _ _ _ 0 ((K : Int) - 1) rfl (tl1 (by omega))) (by omega) rfl rfl (Nat.le_of_ble_eq_true rfl) ?_
  rintro _ _ ⟨rfl, rfl⟩
  refine x_if_neB (tgt := 23) dX9_share_18 (by decide) (fun hc => ?_) (fun hc => ?_)
  rotate_left
  · exact absurd (of_decide_eq_false hc) (by omega)
  refine x_iload_n dX9_share_23 rfl rfl ?_
  refine x_i2l dX9_share_24 ?_
  refine x_lconst (v := 0) dX9_share_25 rfl ?_
  refine x_lconst (v := 1) dX9_share_26 rfl ?_
  refine x_callSi dX9_share_27 msX9_in kX9_74 (c_in3 E d M _ _ _ 0 1 rfl rfl) (by omega) rfl rfl (Nat.le_of_ble_eq_true rfl) ?_
  rintro _ _ ⟨rfl, rfl⟩
  refine x_if_neB (tgt := 36) dX9_share_30 (by decide) (fun hc => ?_) (fun hc => ?_)
  rotate_left
  · exact absurd (of_decide_eq_false hc) (by omega)
  refine x_aload_n dX9_share_36 rfl rfl ?_
  refine x_aload_n dX9_share_37 rfl rfl ?_
  refine x_getr dX9_share_38 fX9_34 rfl rfl (by decide) ?_
  refine x_callVv dX9_share_41 mvX9_layHalves kX9_152 (c_layHalves E (d + 2) M 49 n q w f1 hp) rfl (by decide) (by omega) rfl rfl (Nat.le_of_ble_eq_true rfl) ?_
  rintro N0 ⟨hN0, hl0⟩
  refine x_iconst (v := nI 0) dX9_share_44 (by decide) ?_
  refine xis7_4 dX9_share_45 rfl ?_
  have key1 : ∀ i, i ≤ 2 ^ K → ∀ N, Fr M N [56, 57, 59] → Ld N n q w → (∀ S, S < i → N.1 59 S = nI (vlA kd q w n D pt nd h S)) → X E (d + 3) RX9 cX9_share 7 C 47 [some (.ref (ad E 40)), some (.int (nI k)), some (.int (nI h)), some (.int p), some (.int (nI i)), none, none] [] N := by
    refine up_loop (2 ^ K) ?_ ?_
    · intro N hN hl hv
      refine x_iload dX9_share_47 rfl ?_
      refine x_iconst (v := nI 1) dX9_share_49 (by decide) ?_
      refine x_aload_n dX9_share_50 rfl rfl ?_
      refine x_getv (hN.v (by decide) f2) dX9_share_51 fX9_117 rfl rfl (by decide) ?_
      refine x_ishlN dX9_share_54 (by omega) (by omega) ?_
      rw [Nat.one_mul]
      refine x_icmp_geN (tgt := 85) dX9_share_55 (by decide) (by omega) (by omega) (fun hc => ?_) (fun hc => ?_)
      · refine x_iconst (v := nI 0) dX9_share_85 (by decide) ?_
        refine xis7_4 dX9_share_86 rfl ?_
        refine x_iconst (v := nI 0) dX9_share_88 (by decide) ?_
        refine xis7_5 dX9_share_89 rfl ?_
        have key2 : ∀ i, i ≤ 2 ^ K → ∀ l6, X E (d + 3) RX9 cX9_share 7 C 91 [some (.ref (ad E 40)), some (.int (nI k)), some (.int (nI h)), some (.int p), some (.int (nI (fb_sm (shT kd q w n K D pt nd h k) i))), some (.int (nI i)), l6] [] N := by
          refine up_loop (2 ^ K) ?_ ?_
          · intro l6
            have hU := shU_le (kd := kd) (q := q) (w := w) (n := n) (D := D) (pt := pt) (nd := nd) (h := h) (k := k) f5
            unfold shU at hU
            have hfK := fct_le K (by omega)
            have hfp := fct_pos K
            refine x_iload dX9_share_91 rfl ?_
            refine x_iconst (v := nI 1) dX9_share_93 (by decide) ?_
            refine x_aload_n dX9_share_94 rfl rfl ?_
            refine x_getv (hN.v (by decide) f2) dX9_share_95 fX9_117 rfl rfl (by decide) ?_
            refine x_ishlN dX9_share_98 (by omega) (by omega) ?_
            rw [Nat.one_mul]
            refine x_icmp_geN (tgt := 167) dX9_share_99 (by decide) (by omega) (by omega) (fun hc => ?_) (fun hc => ?_)
            · refine x_iload dX9_share_167 rfl ?_
              refine x_aload_n dX9_share_169 rfl rfl ?_
              refine x_getv (hN.v (by decide) f2) dX9_share_170 fX9_117 rfl rfl (by decide) ?_
              refine x_callSi dX9_share_173 msX9_ways kX9_213 (c_ways E (d + 2) N K (by omega)) (by omega) rfl rfl (Nat.le_of_ble_eq_true rfl) ?_
              rintro _ _ ⟨rfl, rfl⟩
              refine x_iload_n dX9_share_176 rfl rfl ?_
              refine x_callSi dX9_share_177 msX9_fraction kX9_216 (c_fractionM E d N _ _ p (by omega) (by omega) hfp) (by omega) rfl rfl (Nat.le_of_ble_eq_true rfl) ?_
              rintro _ _ ⟨rfl, rfl⟩
              exact hR _ _ _ _ dX9_share_180 (⟨rfl, hN⟩)
            · exact absurd hc (by omega)
          · intro i hi ih l6
            rw [fb_sm_succ] at ih
            refine x_iload dX9_share_91 rfl ?_
            refine x_iconst (v := nI 1) dX9_share_93 (by decide) ?_
            refine x_aload_n dX9_share_94 rfl rfl ?_
            refine x_getv (hN.v (by decide) f2) dX9_share_95 fX9_117 rfl rfl (by decide) ?_
            refine x_ishlN dX9_share_98 (by omega) (by omega) ?_
            rw [Nat.one_mul]
            refine x_icmp_geN (tgt := 167) dX9_share_99 (by decide) (by omega) (by omega) (fun hc => ?_) (fun hc => ?_)
            · exact absurd hc (by omega)
            refine x_iload dX9_share_102 rfl ?_
            refine x_iload_n dX9_share_104 rfl rfl ?_
            refine x_callSi dX9_share_105 msX9_isIn kX9_130 (c_isIn E (d + 2) N i k (by omega) (by omega)) (by omega) rfl rfl (Nat.le_of_ble_eq_true rfl) ?_
            rintro _ _ ⟨rfl, rfl⟩
            refine x_if_neB (tgt := 161) dX9_share_108 (by decide) (fun hc => ?_) (fun hc => ?_)
            · have hb := of_decide_eq_true hc
              rw [show shT kd q w n K D pt nd h k i = 0 by unfold shT; rw [if_pos hb], Nat.add_zero] at ih
              refine xinc7_5N dX9_share_161 rfl ?_
              refine x_goto (tgt := 91) dX9_share_164 (by decide) ?_
              exact ih _
            · have hb := of_decide_eq_false hc
              have hpop := pop_lt_n K (by omega) i hi k hk hb
              have hor : i ||| 2 ^ k < 2 ^ K := Nat.or_lt_two_pow hi (Nat.pow_lt_pow_right (by decide) hk)
              have hmono := vlA_mono (kd := kd) (q := q) (w := w) (n := n) (pt := pt) (nd := nd) (h := h) (S := i) (T := i ||| 2 ^ k) (show D ≤ 5 by omega) (fun x e => (or_bit i (2 ^ k) x).mpr (Or.inl e))
              rw [show shT kd q w n K D pt nd h k i = fct (pop i) * fct (K - 1 - pop i) * (vlA kd q w n D pt nd h (i ||| 2 ^ k) - vlA kd q w n D pt nd h i) by unfold shT; rw [if_neg hb]] at ih
              refine x_iload dX9_share_111 rfl ?_
              refine x_callSi dX9_share_113 msX9_many kX9_198 (c_many E (d + 2) N i (by omega)) (by omega) rfl rfl (Nat.le_of_ble_eq_true rfl) ?_
              rintro _ _ ⟨rfl, rfl⟩
              refine xis7_6 dX9_share_116 rfl ?_
              refine x_iload dX9_share_118 rfl ?_
              refine x_iload dX9_share_120 rfl ?_
              refine x_callSi dX9_share_122 msX9_ways kX9_213 (c_ways E (d + 2) N _ (by omega)) (by omega) rfl rfl (Nat.le_of_ble_eq_true rfl) ?_
              rintro _ _ ⟨rfl, rfl⟩
              refine x_aload_n dX9_share_125 rfl rfl ?_
              refine x_getv (hN.v (by decide) f2) dX9_share_126 fX9_117 rfl rfl (by decide) ?_
              refine x_iconst (v := nI 1) dX9_share_129 (by decide) ?_
              refine x_isubN dX9_share_130 (by omega) ?_
              refine x_iload dX9_share_131 rfl ?_
              refine x_isubN dX9_share_133 (by omega) ?_
              refine x_callSi dX9_share_134 msX9_ways kX9_213 (c_ways E (d + 2) N _ (by omega)) (by omega) rfl rfl (Nat.le_of_ble_eq_true rfl) ?_
              rintro _ _ ⟨rfl, rfl⟩
              refine x_imulN dX9_share_137 ?_
              refine x_aload_n dX9_share_138 rfl rfl ?_
              refine x_getr dX9_share_139 fX9_65 rfl rfl (by decide) ?_
              refine x_iload dX9_share_142 rfl ?_
              refine x_iconst (v := nI 1) dX9_share_144 (by decide) ?_
              refine x_iload_n dX9_share_145 rfl rfl ?_
              refine x_ishlN dX9_share_146 (by omega) (by omega) ?_
              rw [Nat.one_mul]
              refine x_iorN dX9_share_147 ?_
              refine x_ialdN dX9_share_148 rfl (by decide) (by omega) (by decide) (hv _ hor) ?_
              refine x_aload_n dX9_share_149 rfl rfl ?_
              refine x_getr dX9_share_150 fX9_65 rfl rfl (by decide) ?_
              refine x_iload dX9_share_153 rfl ?_
              refine x_ialdN dX9_share_155 rfl (by decide) (by omega) (by decide) (hv _ hi) ?_
              refine x_isubN dX9_share_156 (by omega) ?_
              refine x_imulN dX9_share_157 ?_
              refine x_iaddN dX9_share_158 ?_
              refine xis7_4 dX9_share_159 rfl ?_
              refine xinc7_5N dX9_share_161 rfl ?_
              refine x_goto (tgt := 91) dX9_share_164 (by decide) ?_
              exact ih _
        exact key2 0 (Nat.zero_le _) _
      · exact absurd hc (by omega)
    · intro i hi ih N hN hl hv
      have b0 := canB_lt kd q w n D pt nd h i
      refine x_iload dX9_share_47 rfl ?_
      refine x_iconst (v := nI 1) dX9_share_49 (by decide) ?_
      refine x_aload_n dX9_share_50 rfl rfl ?_
      refine x_getv (hN.v (by decide) f2) dX9_share_51 fX9_117 rfl rfl (by decide) ?_
      refine x_ishlN dX9_share_54 (by omega) (by omega) ?_
      rw [Nat.one_mul]
      refine x_icmp_geN (tgt := 85) dX9_share_55 (by decide) (by omega) (by omega) (fun hc => ?_) (fun hc => ?_)
      · exact absurd hc (by omega)
      have hFN : Fm N n K D kd pt nd := hF.fr hN (by decide) (by decide) (by decide) (by decide)
      refine x_aload_n dX9_share_58 rfl rfl ?_
      refine x_getr dX9_share_59 fX9_65 rfl rfl (by decide) ?_
      refine x_iload dX9_share_62 rfl ?_
      refine x_aload_n dX9_share_64 rfl rfl ?_
      refine x_aload_n dX9_share_65 rfl rfl ?_
      refine x_getr dX9_share_66 fX9_34 rfl rfl (by decide) ?_
      refine x_iload_n dX9_share_69 rfl rfl ?_
      refine x_iload dX9_share_70 rfl ?_
      refine x_callVi dX9_share_72 mvX9_canOf kX9_179 (c_canOf E d N 49 n K D h i q w kd pt nd hFN (hp.fr hN (by decide)) hl (by omega) (by omega) hqK) rfl (by decide) (by omega) rfl rfl (Nat.le_of_ble_eq_true rfl) ?_
      rintro _ _ ⟨rfl, rfl⟩
      refine x_callSi dX9_share_75 msX9_many kX9_198 (c_many E (d + 2) N _ (by omega)) (by omega) rfl rfl (Nat.le_of_ble_eq_true rfl) ?_
      rintro _ _ ⟨rfl, rfl⟩
      refine x_iastN dX9_share_78 rfl (by decide) (by omega) (by decide) ?_
      refine xinc7_4N dX9_share_79 rfl ?_
      refine x_goto (tgt := 47) dX9_share_82 (by decide) ?_
      refine ih _ (hN.sa (by decide)) ⟨fun k hk => by rw [sa_ne (by decide)]; exact hl.1 k hk, fun k hk => by rw [sa_ne (by decide)]; exact hl.2 k hk⟩ (fun S hS => ?_)
      rw [sa_1]
      by_cases e : S = i
      · subst e; exact pk_us
      · rw [pk_un e]; exact hv S (by omega)
  exact key1 0 (Nat.zero_le _) N0 (hN0.wd (by decide)) hl0 (fun S hS => absurd hS (by omega))
/-- the wire when the rows of a set have moved -/
def mvW (w : Nat → Nat) (s : Nat) : Nat → Nat := fun r => w r + if s / 2 ^ r % 2 = 1 ∧ w r < 5 then 1 else 0
def slT (kd q w : Nat → Nat) (n : Nat) (pt nd : Nat → Nat) (e h x s : Nat) : Nat := if nd e ≤ cnt kd q (mvW w s) n h (pt e) 31 then x ^ pop s * (10 - x) ^ (n - pop s) else 0
def slU (kd q w : Nat → Nat) (n : Nat) (pt nd : Nat → Nat) (e h x : Nat) : Nat := fb_sm (slT kd q w n pt nd e h x) (2 ^ n)
theorem slT_le {kd q w : Nat → Nat} {n : Nat} {pt nd : Nat → Nat} {e h x s : Nat} (hn : n ≤ 5) (hx : x ≤ 10) (hs : s < 2 ^ n) : slT kd q w n pt nd e h x s ≤ 100000 := by
  unfold slT
  split
  · have hp := pop_le_n n (by omega) s hs
    calc x ^ pop s * (10 - x) ^ (n - pop s) ≤ 10 ^ pop s * 10 ^ (n - pop s) := Nat.mul_le_mul (Nat.pow_le_pow_left hx _) (Nat.pow_le_pow_left (by omega) _)
      _ = 10 ^ n := by rw [← Nat.pow_add]; congr 1; omega
      _ ≤ 100000 := p10 hn
  · omega
theorem slU_le {kd q w : Nat → Nat} {n : Nat} {pt nd : Nat → Nat} {e h x : Nat} (hn : n ≤ 5) (hx : x ≤ 10) : slU kd q w n pt nd e h x ≤ 32 * 100000 := by
  have h1 : slU kd q w n pt nd e h x ≤ 2 ^ n * 100000 := fb_sm_bound (fun s hs => slT_le hn hx hs)
  exact Nat.le_trans h1 (Nat.mul_le_mul_right _ (p2 hn))
set_option maxHeartbeats 8000000 in
theorem cM_slips_no (E : Ev) (d : Nat) (M : PM) (D : Nat) (e h x p : Int32) (hT : M.1 40 0 = nI 0) (hD : M.1 40 7 = nI D) (hD4 : D ≤ 4) (hx : ¬ (inR e D ∧ inR h 2 ∧ inR x 11)) : Ci E (d + 1) mX9_slips [.ref (ad E 40), .int e, .int h, .int x, .int p] M (fun v N => v = (if inR e D then -2 else -1) ∧ M = N) := by
  refine Ct.ofi [some (.ref (ad E 40)), some (.int e), some (.int h), some (.int x), some (.int p), none, none, none] (own := RX9) rfl (by decide) (Nat.le_of_ble_eq_true rfl) rfl (fun C hR => ?_)
  refine x_aload_n dX9_slips_0 rfl rfl ?_
  refine x_iconst (v := nI 0) dX9_slips_1 (by decide) ?_
  refine x_put dX9_slips_2 pX9_68 rfl rfl (by decide) rfl rfl ?_
  rw [thr hT]
  refine x_iload_n dX9_slips_5 rfl rfl ?_
  refine x_i2l dX9_slips_6 ?_
  refine x_lconst (v := 0) dX9_slips_7 rfl ?_
  refine x_aload_n dX9_slips_8 rfl rfl ?_
  refine x_getv (hD) dX9_slips_9 fX9_120 rfl rfl (by decide) ?_
  refine x_iconst (v := nI 1) dX9_slips_12 (by decide) ?_
  refine x_isub dX9_slips_13 ?_
  refine x_i2l dX9_slips_14 ?_
  refine x_callSi dX9_slips_15 msX9_in kX9_74 (c_in3 E d M e _ _ 0 ((D : Int) - 1) rfl (tl1 (by omega))) (by omega) rfl rfl (Nat.le_of_ble_eq_true rfl) ?_
  rintro _ _ ⟨rfl, rfl⟩
  refine x_if_neB (tgt := 23) dX9_slips_18 (by decide) (fun hc => ?_) (fun hc => ?_)
  rotate_left
  · have h1 : ¬ inR e D := fun e => of_decide_eq_false hc (by omega)
    refine x_iconst (v := -1) dX9_slips_21 (by decide) ?_
    exact hR _ _ _ _ dX9_slips_22 (⟨by rw [if_neg h1], rfl⟩)
  have h1 : inR e D := by have := of_decide_eq_true hc; omega
  refine x_iload_n dX9_slips_23 rfl rfl ?_
  refine x_i2l dX9_slips_24 ?_
  refine x_lconst (v := 0) dX9_slips_25 rfl ?_
  refine x_lconst (v := 1) dX9_slips_26 rfl ?_
  refine x_callSi dX9_slips_27 msX9_in kX9_74 (c_in3 E d M h _ _ 0 1 rfl rfl) (by omega) rfl rfl (Nat.le_of_ble_eq_true rfl) ?_
  rintro _ _ ⟨rfl, rfl⟩
  refine x_if_eqB (tgt := 45) dX9_slips_30 (by decide) (fun hc => ?_) (fun hc => ?_)
  · refine x_bipush (v := -2) dX9_slips_45 (by decide) ?_
    exact hR _ _ _ _ dX9_slips_47 (⟨by rw [if_pos h1], rfl⟩)
  have h2 := of_decide_eq_true hc
  refine x_iload_n dX9_slips_33 rfl rfl ?_
  refine x_i2l dX9_slips_34 ?_
  refine x_lconst (v := 0) dX9_slips_35 rfl ?_
  refine x_ldc2 dX9_slips_36 qX9_240 ?_
  refine x_callSi dX9_slips_39 msX9_in kX9_74 (c_in3 E d M x _ _ 0 10 rfl rfl) (by omega) rfl rfl (Nat.le_of_ble_eq_true rfl) ?_
  rintro _ _ ⟨rfl, rfl⟩
  refine x_if_neB (tgt := 48) dX9_slips_42 (by decide) (fun hc => ?_) (fun hc => ?_)
  · have h3 := of_decide_eq_true hc
    exact absurd ⟨h1, by omega, by omega⟩ hx
  · refine x_bipush (v := -2) dX9_slips_45 (by decide) ?_
    exact hR _ _ _ _ dX9_slips_47 (⟨by rw [if_pos h1], rfl⟩)
set_option maxHeartbeats 8000000 in
theorem cM_slips (E : Ev) (d : Nat) (M : PM) (n K D e h x : Nat) (p : Int32) (q w kd pt nd : Nat → Nat) (hT : M.1 40 0 = nI 0) (hF : Fm M n K D kd pt nd) (hp : Pg M 49 n q w) (he : e < D) (hh : h < 2) (hx : x < 11) (hqK : ∀ r c, r < n → c < 5 → q (5 * r + c) < 4 * K) : Ci E (d + 3) mX9_slips [.ref (ad E 40), .int (nI e), .int (nI h), .int (nI x), .int p] M (fun v N => v = frc (slU kd q w n pt nd e h x) (10 ^ n) p ∧ Fr M N [50, 56, 57]) := by
  obtain ⟨f1, f2, f3, f4, f5, f6, f7, f8, f9⟩ := id hF
  have h2n := p2 f4
  have h2D := p2 (show D ≤ 5 by omega)
  have h10 := p10 f4
  have het : (nI e).toInt = (e : Int) := nI_toInt (by omega)
  have hht : (nI h).toInt = (h : Int) := nI_toInt (by omega)
  have hxt : (nI x).toInt = (x : Int) := nI_toInt (by omega)
  refine Ct.ofi [some (.ref (ad E 40)), some (.int (nI e)), some (.int (nI h)), some (.int (nI x)), some (.int p), none, none, none] (own := RX9) rfl (by decide) (Nat.le_of_ble_eq_true rfl) rfl (fun C hR => ?_)
  refine x_aload_n dX9_slips_0 rfl rfl ?_
  refine x_iconst (v := nI 0) dX9_slips_1 (by decide) ?_
  refine x_put dX9_slips_2 pX9_68 rfl rfl (by decide) rfl rfl ?_
  rw [thr hT]
  refine x_iload_n dX9_slips_5 rfl rfl ?_
  refine x_i2l dX9_slips_6 ?_
  refine x_lconst (v := 0) dX9_slips_7 rfl ?_
  refine x_aload_n dX9_slips_8 rfl rfl ?_
  refine x_getv (f3) dX9_slips_9 fX9_120 rfl rfl (by decide) ?_
  refine x_iconst (v := nI 1) dX9_slips_12 (by decide) ?_
  refine x_isub dX9_slips_13 ?_
  refine x_i2l dX9_slips_14 ?_
  refine x_callSi dX9_slips_15 msX9_in kX9_74 (c_in3 E d M _ _ _ 0 ((D : Int) - 1) rfl (tl1 (by omega))) (by omega) rfl rfl (Nat.le_of_ble_eq_true rfl) ?_
  rintro _ _ ⟨rfl, rfl⟩
  refine x_if_neB (tgt := 23) dX9_slips_18 (by decide) (fun hc => ?_) (fun hc => ?_)
  rotate_left
  · exact absurd (of_decide_eq_false hc) (by omega)
  refine x_iload_n dX9_slips_23 rfl rfl ?_
  refine x_i2l dX9_slips_24 ?_
  refine x_lconst (v := 0) dX9_slips_25 rfl ?_
  refine x_lconst (v := 1) dX9_slips_26 rfl ?_
  refine x_callSi dX9_slips_27 msX9_in kX9_74 (c_in3 E d M _ _ _ 0 1 rfl rfl) (by omega) rfl rfl (Nat.le_of_ble_eq_true rfl) ?_
  rintro _ _ ⟨rfl, rfl⟩
  refine x_if_eqB (tgt := 45) dX9_slips_30 (by decide) (fun hc => ?_) (fun hc => ?_)
  · exact absurd (of_decide_eq_false hc) (by omega)
  refine x_iload_n dX9_slips_33 rfl rfl ?_
  refine x_i2l dX9_slips_34 ?_
  refine x_lconst (v := 0) dX9_slips_35 rfl ?_
  refine x_ldc2 dX9_slips_36 qX9_240 ?_
  refine x_callSi dX9_slips_39 msX9_in kX9_74 (c_in3 E d M _ _ _ 0 10 rfl rfl) (by omega) rfl rfl (Nat.le_of_ble_eq_true rfl) ?_
  rintro _ _ ⟨rfl, rfl⟩
  refine x_if_neB (tgt := 48) dX9_slips_42 (by decide) (fun hc => ?_) (fun hc => ?_)
  rotate_left
  · exact absurd (of_decide_eq_false hc) (by omega)
  refine x_iconst (v := nI 0) dX9_slips_48 (by decide) ?_
  refine xis8_5 dX9_slips_49 rfl ?_
  refine x_iconst (v := nI 0) dX9_slips_51 (by decide) ?_
  refine xis8_6 dX9_slips_52 rfl ?_
  have key : ∀ i, i ≤ 2 ^ n → ∀ N l7, Fr M N [50, 56, 57] → X E (d + 3) RX9 cX9_slips 8 C 54 [some (.ref (ad E 40)), some (.int (nI e)), some (.int (nI h)), some (.int (nI x)), some (.int p), some (.int (nI (fb_sm (slT kd q w n pt nd e h x) i))), some (.int (nI i)), l7] [] N := by
    refine up_loop (2 ^ n) ?_ ?_
    · intro N l7 hN
      have hU := slU_le (kd := kd) (q := q) (w := w) (pt := pt) (nd := nd) (e := e) (h := h) (x := x) f4 (by omega)
      unfold slU at hU
      have h10p : 0 < 10 ^ n := Nat.pow_pos (by decide)
      refine x_iload dX9_slips_54 rfl ?_
      refine x_iconst (v := nI 1) dX9_slips_56 (by decide) ?_
      refine x_aload_n dX9_slips_57 rfl rfl ?_
      refine x_getv (hN.v (by decide) f1) dX9_slips_58 fX9_114 rfl rfl (by decide) ?_
      refine x_ishlN dX9_slips_61 (by omega) (by omega) ?_
      rw [Nat.one_mul]
      refine x_icmp_geN (tgt := 201) dX9_slips_62 (by decide) (by omega) (by omega) (fun hc => ?_) (fun hc => ?_)
      · refine x_iload dX9_slips_201 rfl ?_
        refine x_bipush (v := nI 10) dX9_slips_203 (by decide) ?_
        refine x_aload_n dX9_slips_205 rfl rfl ?_
        refine x_getv (hN.v (by decide) f1) dX9_slips_206 fX9_114 rfl rfl (by decide) ?_
        refine x_callSi dX9_slips_209 msX9_power kX9_142 (c_power E (d + 2) N 10 n (by omega)) (by omega) rfl rfl (Nat.le_of_ble_eq_true rfl) ?_
        rintro _ _ ⟨rfl, rfl⟩
        refine x_iload dX9_slips_212 rfl ?_
        refine x_callSi dX9_slips_214 msX9_fraction kX9_216 (c_fractionM E d N _ _ p (by omega) (by omega) h10p) (by omega) rfl rfl (Nat.le_of_ble_eq_true rfl) ?_
        rintro _ _ ⟨rfl, rfl⟩
        exact hR _ _ _ _ dX9_slips_217 (⟨rfl, hN⟩)
      · exact absurd hc (by omega)
    · intro i hi ih N l7 hN
      rw [fb_sm_succ] at ih
      refine x_iload dX9_slips_54 rfl ?_
      refine x_iconst (v := nI 1) dX9_slips_56 (by decide) ?_
      refine x_aload_n dX9_slips_57 rfl rfl ?_
      refine x_getv (hN.v (by decide) f1) dX9_slips_58 fX9_114 rfl rfl (by decide) ?_
      refine x_ishlN dX9_slips_61 (by omega) (by omega) ?_
      rw [Nat.one_mul]
      refine x_icmp_geN (tgt := 201) dX9_slips_62 (by decide) (by omega) (by omega) (fun hc => ?_) (fun hc => ?_)
      · exact absurd hc (by omega)
      refine x_aload_n dX9_slips_65 rfl rfl ?_
      refine x_getr dX9_slips_66 fX9_34 rfl rfl (by decide) ?_
      refine x_aload_n dX9_slips_69 rfl rfl ?_
      refine x_getr dX9_slips_70 fX9_37 rfl rfl (by decide) ?_
      refine x_bipush (v := nI 31) dX9_slips_73 (by decide) ?_
      refine x_callSv dX9_slips_75 msX9_copyRow kX9_123 (c_copyRow E (d + 2) N 49 50 31 31 31 rfl rfl (by decide) (by decide) (by decide) (by decide) (by decide) (by decide) (by decide)) (by omega) rfl rfl (Nat.le_of_ble_eq_true rfl) ?_
      rintro _ rfl
      refine x_iconst (v := nI 0) dX9_slips_78 (by decide) ?_
      refine xis8_7 dX9_slips_79 rfl ?_
      have key2 : ∀ r, r ≤ n → ∀ N, Fr M N [50, 56, 57] → (∀ r', r' < r → N.1 50 r' = nI (mvW w i r')) → (∀ j, r ≤ j → j < 31 → N.1 50 j = M.1 49 j) → X E (d + 3) RX9 cX9_slips 8 C 81 [some (.ref (ad E 40)), some (.int (nI e)), some (.int (nI h)), some (.int (nI x)), some (.int p), some (.int (nI (fb_sm (slT kd q w n pt nd e h x) i))), some (.int (nI i)), some (.int (nI r))] [] N := by
        refine up_loop n ?_ ?_
        · intro N hN hw1 hw2
          have hP : Pg N 50 n q (mvW w i) := by
            refine ⟨rfl, by decide, f4, fun r c hr hc5 => ?_, fun r hr => ⟨hw1 r hr, ?_⟩⟩
            · rw [hw2 _ (by omega) (by omega)]; exact hp.2.2.2.1 r c hr hc5
            · have := (hp.2.2.2.2 r hr).2
              unfold mvW; split <;> omega
          have hpop := pop_le_n n (by omega) i hi
          refine x_iload dX9_slips_81 rfl ?_
          refine x_aload_n dX9_slips_83 rfl rfl ?_
          refine x_getv (hN.v (by decide) f1) dX9_slips_84 fX9_114 rfl rfl (by decide) ?_
          refine x_icmp_geN (tgt := 132) dX9_slips_87 (by decide) (by omega) (by omega) (fun hc => ?_) (fun hc => ?_)
          rotate_left
          · exact absurd hc (by omega)
          refine x_aload_n dX9_slips_132 rfl rfl ?_
          refine x_aload_n dX9_slips_133 rfl rfl ?_
          refine x_getr dX9_slips_134 fX9_37 rfl rfl (by decide) ?_
          refine x_callVv dX9_slips_137 mvX9_layHalves kX9_152 (c_layHalves E (d + 2) N 50 n q (mvW w i) (hN.v (by decide) f1) hP) rfl (by decide) (by omega) rfl rfl (Nat.le_of_ble_eq_true rfl) ?_
          rintro N3 ⟨hN3, hl3⟩
          have hN3' : Fr M N3 [50, 56, 57] := hN.tr hN3 (by decide)
          have hF3 : Fm N3 n K D kd pt nd := hF.fr hN3' (by decide) (by decide) (by decide) (by decide)
          have hP3 := hP.fr hN3 (by decide)
          have b0 := canB_lt kd q (mvW w i) n D pt nd h 31
          refine x_iload dX9_slips_140 rfl ?_
          refine x_callSi dX9_slips_142 msX9_many kX9_198 (c_many E (d + 2) N3 i (by omega)) (by omega) rfl rfl (Nat.le_of_ble_eq_true rfl) ?_
          rintro _ _ ⟨rfl, rfl⟩
          refine xis8_7 dX9_slips_145 rfl ?_
          refine x_iload dX9_slips_147 rfl ?_
          refine x_aload_n dX9_slips_149 rfl rfl ?_
          refine x_aload_n dX9_slips_150 rfl rfl ?_
          refine x_getr dX9_slips_151 fX9_37 rfl rfl (by decide) ?_
          refine x_iload_n dX9_slips_154 rfl rfl ?_
          refine x_bipush (v := nI 31) dX9_slips_155 (by decide) ?_
          refine x_callVi dX9_slips_157 mvX9_canOf kX9_179 (c_canOf E d N3 50 n K D h 31 q (mvW w i) kd pt nd hF3 hP3 hl3 (by omega) (by decide) hqK) rfl (by decide) (by omega) rfl rfl (Nat.le_of_ble_eq_true rfl) ?_
          rintro _ _ ⟨rfl, rfl⟩
          refine x_iload_n dX9_slips_160 rfl rfl ?_
          refine x_callSi dX9_slips_161 msX9_isIn kX9_130 (c_isIn E (d + 2) N3 _ e (by omega) (by omega)) (by omega) rfl rfl (Nat.le_of_ble_eq_true rfl) ?_
          rintro _ _ ⟨rfl, rfl⟩
          rw [canB_bit he]
          refine x_if_eqB (tgt := 191) dX9_slips_164 (by decide) (fun hc => ?_) (fun hc => ?_)
          · have hb : ¬ (nd e ≤ cnt kd q (mvW w i) n h (pt e) 31) := fun z => of_decide_eq_false hc (if1.mpr z)
            rw [show slT kd q w n pt nd e h x i = 0 by unfold slT; rw [if_neg hb]] at ih
            refine x_iconst (v := nI 0) dX9_slips_191 (by decide) ?_
            refine x_iaddN dX9_slips_192 ?_
            refine xis8_5 dX9_slips_193 rfl ?_
            refine xinc8_6N dX9_slips_195 rfl ?_
            refine x_goto (tgt := 54) dX9_slips_198 (by decide) ?_
            exact ih _ _ hN3'
          · have hb := if1.mp (of_decide_eq_true hc)
            rw [show slT kd q w n pt nd e h x i = x ^ pop i * (10 - x) ^ (n - pop i) by unfold slT; rw [if_pos hb]] at ih
            refine x_iload_n dX9_slips_167 rfl rfl ?_
            refine x_iload dX9_slips_168 rfl ?_
            refine x_callSi dX9_slips_170 msX9_power kX9_142 (c_power E (d + 2) N3 x (pop i) (by omega)) (by omega) rfl rfl (Nat.le_of_ble_eq_true rfl) ?_
            rintro _ _ ⟨rfl, rfl⟩
            refine x_bipush (v := nI 10) dX9_slips_173 (by decide) ?_
            refine x_iload_n dX9_slips_175 rfl rfl ?_
            refine x_isubN dX9_slips_176 (by omega) ?_
            refine x_aload_n dX9_slips_177 rfl rfl ?_
            refine x_getv (hN3'.v (by decide) f1) dX9_slips_178 fX9_114 rfl rfl (by decide) ?_
            refine x_iload dX9_slips_181 rfl ?_
            refine x_isubN dX9_slips_183 (by omega) ?_
            refine x_callSi dX9_slips_184 msX9_power kX9_142 (c_power E (d + 2) N3 (10 - x) (n - pop i) (by omega)) (by omega) rfl rfl (Nat.le_of_ble_eq_true rfl) ?_
            rintro _ _ ⟨rfl, rfl⟩
            refine x_imulN dX9_slips_187 ?_
            refine x_goto (tgt := 192) dX9_slips_188 (by decide) ?_
            refine x_iaddN dX9_slips_192 ?_
            refine xis8_5 dX9_slips_193 rfl ?_
            refine xinc8_6N dX9_slips_195 rfl ?_
            refine x_goto (tgt := 54) dX9_slips_198 (by decide) ?_
            exact ih _ _ hN3'
        · intro r hr ih2 N hN hw1 hw2
          have hwr := hp.2.2.2.2 r hr
          have hN50 : N.1 50 r = nI (w r) := by rw [hw2 r (Nat.le_refl _) (by omega)]; exact hwr.1
          have upN : ∀ b, w r + b = mvW w i r → X E (d + 3) RX9 cX9_slips 8 C 125 [some (.ref (ad E 40)), some (.int (nI e)), some (.int (nI h)), some (.int (nI x)), some (.int p), some (.int (nI (fb_sm (slT kd q w n pt nd e h x) i))), some (.int (nI i)), some (.int (nI r))] [.int (nI (w r + b)), .int (nI r), .ref (ad E 50)] N := by
            intro b hb
            refine x_iastN dX9_slips_125 rfl (by decide) (by omega) (by decide) ?_
            refine xinc8_7N dX9_slips_126 rfl ?_
            refine x_goto (tgt := 81) dX9_slips_129 (by decide) ?_
            rw [hb]
            refine ih2 _ (hN.sa (by decide)) (fun r' hr' => ?_) (fun j h1 h2 => ?_)
            · rw [sa_1]
              by_cases e : r' = r
              · subst e; exact pk_us
              · rw [pk_un e]; exact hw1 r' (by omega)
            · rw [sa_1, pk_un (by omega)]; exact hw2 j (by omega) h2
          refine x_iload dX9_slips_81 rfl ?_
          refine x_aload_n dX9_slips_83 rfl rfl ?_
          refine x_getv (hN.v (by decide) f1) dX9_slips_84 fX9_114 rfl rfl (by decide) ?_
          refine x_icmp_geN (tgt := 132) dX9_slips_87 (by decide) (by omega) (by omega) (fun hc => ?_) (fun hc => ?_)
          · exact absurd hc (by omega)
          refine x_aload_n dX9_slips_90 rfl rfl ?_
          refine x_getr dX9_slips_91 fX9_37 rfl rfl (by decide) ?_
          refine x_iload dX9_slips_94 rfl ?_
          refine x_dup2 dX9_slips_96 rfl rfl ?_
          refine x_ialdN dX9_slips_97 rfl (by decide) (by omega) (by decide) (hN50) ?_
          refine x_iload dX9_slips_98 rfl ?_
          refine x_iload dX9_slips_100 rfl ?_
          refine x_callSi dX9_slips_102 msX9_isIn kX9_130 (c_isIn E (d + 2) N i r (by omega) (by omega)) (by omega) rfl rfl (Nat.le_of_ble_eq_true rfl) ?_
          rintro _ _ ⟨rfl, rfl⟩
          refine x_if_eqB (tgt := 123) dX9_slips_105 (by decide) (fun hc => ?_) (fun hc => ?_)
          · refine x_iconst (v := nI 0) dX9_slips_123 (by decide) ?_
            refine x_iaddN dX9_slips_124 ?_
            exact upN 0 (by unfold mvW; rw [if_neg (fun z => of_decide_eq_false hc z.1)])
          have hb := of_decide_eq_true hc
          refine x_aload_n dX9_slips_108 rfl rfl ?_
          refine x_getr dX9_slips_109 fX9_37 rfl rfl (by decide) ?_
          refine x_iload dX9_slips_112 rfl ?_
          refine x_ialdN dX9_slips_114 rfl (by decide) (by omega) (by decide) (hN50) ?_
          refine x_iconst (v := nI 5) dX9_slips_115 (by decide) ?_
          refine x_icmp_geN (tgt := 123) dX9_slips_116 (by decide) (by omega) (by omega) (fun hc => ?_) (fun hc => ?_)
          · refine x_iconst (v := nI 0) dX9_slips_123 (by decide) ?_
            refine x_iaddN dX9_slips_124 ?_
            exact upN 0 (by unfold mvW; rw [if_neg (fun z => by omega)])
          · refine x_iconst (v := nI 1) dX9_slips_119 (by decide) ?_
            refine x_goto (tgt := 124) dX9_slips_120 (by decide) ?_
            refine x_iaddN dX9_slips_124 ?_
            exact upN 1 (by unfold mvW; rw [if_pos ⟨hb, hc⟩])
      refine key2 0 (by omega) _ (hN.sa (by decide)) (fun r' h => absurd h (by omega)) (fun j _ hj => ?_)
      rw [sa_1, fa_fill_in hj]
      exact hN.v (by decide) rfl
  exact key 0 (Nat.zero_le _) M _ Fr.rf
