-- ===== the reference: wires one after the other =====
def lvk (n k : Nat) : Bool := lev (wn n k) n
def byA (kd q w : Nat → Nat) (n D : Nat) (pt nd : Nat → Nat) : Nat := pop (canB kd q w n D pt nd 0 31) + pop (canB kd q w n D pt nd 1 31)
def pdA (q w : Nat → Nat) (n K : Nat) : Nat := pop (parB q w n K)
def bestT (p y f : Nat) (s : Int32 × Int32 × Int32) : Int32 × Int32 × Int32 := if s.2.1 < nI y ∨ (nI y = s.2.1 ∧ nI p < s.2.2) then (nI f, nI y, nI p) else s
def bestS (kd q : Nat → Nat) (n K D : Nat) (pt nd : Nat → Nat) : Nat → Int32 × Int32 × Int32
  | 0 => (-9, -9, nI 0)
  | k + 1 => if lvk n k = true then bestT (pdA q (wn n k) n K) (byA kd q (wn n k) n D pt nd) (fig (wn n k) n) (bestS kd q n K D pt nd k) else bestS kd q n K D pt nd k
theorem pop_le (s : Nat) : pop s ≤ 5 := fb_sm_bound (c := 1) (n := 5) (fun k _ => by have := Nat.mod_lt (s / 2 ^ k) (show 0 < 2 by decide); omega)
set_option maxHeartbeats 8000000 in
theorem cM_best_no (E : Ev) (d : Nat) (M : PM) (x : Int32) (hT : M.1 40 0 = nI 0) (hx : ¬ inR x 2) : Ci E (d + 1) mX9_best [.ref (ad E 40), .int x] M (fun v N => v = -2 ∧ M = N) := by
  refine Ct.ofi [some (.ref (ad E 40)), some (.int x), none, none, none, none, none, none] (own := RX9) rfl (by decide) (Nat.le_of_ble_eq_true rfl) rfl (fun C hR => ?_)
  refine x_aload_n dX9_best_0 rfl rfl ?_
  refine x_iconst (v := nI 0) dX9_best_1 (by decide) ?_
  refine x_put dX9_best_2 pX9_68 rfl rfl (by decide) rfl rfl ?_
  rw [thr hT]
  refine x_iload_n dX9_best_5 rfl rfl ?_
  refine x_i2l dX9_best_6 ?_
  refine x_lconst (v := 0) dX9_best_7 rfl ?_
  refine x_lconst (v := 1) dX9_best_8 rfl ?_
  refine x_callSi dX9_best_9 msX9_in kX9_74 (c_in3 E d M x _ _ 0 1 rfl rfl) (by omega) rfl rfl (Nat.le_of_ble_eq_true rfl) ?_
  rintro _ _ ⟨rfl, rfl⟩
  refine x_if_neB (tgt := 18) dX9_best_12 (by decide) (fun hc => ?_) (fun hc => ?_)
  · exact absurd (of_decide_eq_true hc) (by omega)
  · refine x_bipush (v := -2) dX9_best_15 (by decide) ?_
    exact hR _ _ _ _ dX9_best_17 (⟨rfl, rfl⟩)
set_option maxHeartbeats 8000000 in
theorem cM_best (E : Ev) (d : Nat) (M : PM) (n K D x : Nat) (q w kd pt nd : Nat → Nat) (hT : M.1 40 0 = nI 0) (hF : Fm M n K D kd pt nd) (hp : Pg M 49 n q w) (hx : x < 2) (hqK : ∀ r c, r < n → c < 5 → q (5 * r + c) < 4 * K) : Ci E (d + 3) mX9_best [.ref (ad E 40), .int (nI x)] M (fun v N => v = (if x = 0 then (bestS kd q n K D pt nd (6 ^ n)).1 else (bestS kd q n K D pt nd (6 ^ n)).2.1) ∧ Fr M N [50, 56, 57, 58]) := by
  obtain ⟨f1, f2, f3, f4, f5, f6, f7, f8, f9⟩ := id hF
  have h6 := p6 f4
  have hxt : (nI x).toInt = (x : Int) := nI_toInt (by omega)
  refine Ct.ofi [some (.ref (ad E 40)), some (.int (nI x)), none, none, none, none, none, none] (own := RX9) rfl (by decide) (Nat.le_of_ble_eq_true rfl) rfl (fun C hR => ?_)
  refine x_aload_n dX9_best_0 rfl rfl ?_
  refine x_iconst (v := nI 0) dX9_best_1 (by decide) ?_
  refine x_put dX9_best_2 pX9_68 rfl rfl (by decide) rfl rfl ?_
  rw [thr hT]
  refine x_iload_n dX9_best_5 rfl rfl ?_
  refine x_i2l dX9_best_6 ?_
  refine x_lconst (v := 0) dX9_best_7 rfl ?_
  refine x_lconst (v := 1) dX9_best_8 rfl ?_
  refine x_callSi dX9_best_9 msX9_in kX9_74 (c_in3 E d M _ _ _ 0 1 rfl rfl) (by omega) rfl rfl (Nat.le_of_ble_eq_true rfl) ?_
  rintro _ _ ⟨rfl, rfl⟩
  refine x_if_neB (tgt := 18) dX9_best_12 (by decide) (fun hc => ?_) (fun hc => ?_)
  rotate_left
  · exact absurd (of_decide_eq_false hc) (by omega)
  refine x_bipush (v := -9) dX9_best_18 (by decide) ?_
  refine xis8_2 dX9_best_20 rfl ?_
  refine x_bipush (v := -9) dX9_best_21 (by decide) ?_
  refine xis8_3 dX9_best_23 rfl ?_
  refine x_iconst (v := nI 0) dX9_best_24 (by decide) ?_
  refine xis8_4 dX9_best_25 rfl ?_
  refine x_iconst (v := nI 0) dX9_best_27 (by decide) ?_
  refine xis8_5 dX9_best_28 rfl ?_
  have key : ∀ i, i ≤ 6 ^ n → ∀ N l6 l7, Fr M N [50, 56, 57, 58] → X E (d + 3) RX9 cX9_best 8 C 30 [some (.ref (ad E 40)), some (.int (nI x)), some (.int (bestS kd q n K D pt nd i).1), some (.int (bestS kd q n K D pt nd i).2.1), some (.int (bestS kd q n K D pt nd i).2.2), some (.int (nI i)), l6, l7] [] N := by
    refine up_loop (6 ^ n) ?_ ?_
    · intro N l6 l7 hN
      refine x_iload dX9_best_30 rfl ?_
      refine x_bipush (v := nI 6) dX9_best_32 (by decide) ?_
      refine x_aload_n dX9_best_34 rfl rfl ?_
      refine x_getv (hN.v (by decide) f1) dX9_best_35 fX9_114 rfl rfl (by decide) ?_
      refine x_callSi dX9_best_38 msX9_power kX9_142 (c_power E (d + 2) N 6 n (by omega)) (by omega) rfl rfl (Nat.le_of_ble_eq_true rfl) ?_
      rintro _ _ ⟨rfl, rfl⟩
      refine x_icmp_geN (tgt := 142) dX9_best_41 (by decide) (by omega) (by omega) (fun hc => ?_) (fun hc => ?_)
      · refine x_iload_n dX9_best_142 rfl rfl ?_
        refine x_if_neN (tgt := 150) dX9_best_143 (by decide) (by omega) (fun hc => ?_) (fun hc => ?_)
        · refine x_iload_n dX9_best_150 rfl rfl ?_
          exact hR _ _ _ _ dX9_best_151 (⟨by rw [if_neg hc], hN⟩)
        · refine x_iload_n dX9_best_146 rfl rfl ?_
          refine x_goto (tgt := 151) dX9_best_147 (by decide) ?_
          exact hR _ _ _ _ dX9_best_151 (⟨by rw [if_pos hc], hN⟩)
      · exact absurd hc (by omega)
    · intro i hi ih N l6 l7 hN
      rw [show bestS kd q n K D pt nd (i + 1) = if lvk n i = true then bestT (pdA q (wn n i) n K) (byA kd q (wn n i) n D pt nd) (fig (wn n i) n) (bestS kd q n K D pt nd i) else bestS kd q n K D pt nd i from rfl] at ih
      refine x_iload dX9_best_30 rfl ?_
      refine x_bipush (v := nI 6) dX9_best_32 (by decide) ?_
      refine x_aload_n dX9_best_34 rfl rfl ?_
      refine x_getv (hN.v (by decide) f1) dX9_best_35 fX9_114 rfl rfl (by decide) ?_
      refine x_callSi dX9_best_38 msX9_power kX9_142 (c_power E (d + 2) N 6 n (by omega)) (by omega) rfl rfl (Nat.le_of_ble_eq_true rfl) ?_
      rintro _ _ ⟨rfl, rfl⟩
      refine x_icmp_geN (tgt := 142) dX9_best_41 (by decide) (by omega) (by omega) (fun hc => ?_) (fun hc => ?_)
      · exact absurd hc (by omega)
      refine x_aload_n dX9_best_44 rfl rfl ?_
      refine x_iload dX9_best_45 rfl ?_
      refine x_callVi dX9_best_47 mvX9_layWire kX9_148 (c_layWire E (d + 1) N n i q w (hN.v (by decide) f1) (hp.to (hN.2 49 (by decide))) hi) rfl (by decide) (by omega) rfl rfl (Nat.le_of_ble_eq_true rfl) ?_
      rintro _ N2 ⟨rfl, hN2, hlv⟩
      have hN2' : Fr M N2 [50, 56, 57, 58] := hN.tr hN2 (by decide)
      refine x_if_eqB (tgt := 136) dX9_best_50 (by decide) (fun hc => ?_) (fun hc => ?_)
      · refine xinc8_5N dX9_best_136 rfl ?_
        refine x_goto (tgt := 30) dX9_best_139 (by decide) ?_
        rw [if_neg (by unfold lvk; rw [hc]; decide)] at ih
        exact ih _ _ _ hN2'
      have hP2 := hlv hc
      rw [if_pos (show lvk n i = true from hc)] at ih
      refine x_aload_n dX9_best_53 rfl rfl ?_
      refine x_aload_n dX9_best_54 rfl rfl ?_
      refine x_getr dX9_best_55 fX9_37 rfl rfl (by decide) ?_
      refine x_callVv dX9_best_58 mvX9_layHalves kX9_152 (c_layHalves E (d + 2) N2 50 n q (wn n i) (hN2'.v (by decide) f1) hP2) rfl (by decide) (by omega) rfl rfl (Nat.le_of_ble_eq_true rfl) ?_
      rintro N3 ⟨hN3, hl3⟩
      have hN3' : Fr M N3 [50, 56, 57, 58] := hN2'.tr hN3 (by decide)
      have hF3 : Fm N3 n K D kd pt nd := hF.fr hN3' (by decide) (by decide) (by decide) (by decide)
      have hP3 := hP2.fr hN3 (by decide)
      have b0 := canB_lt kd q (wn n i) n D pt nd 0 31
      have b1 := canB_lt kd q (wn n i) n D pt nd 1 31
      have bp := parB_lt q (wn n i) n K
      have h2D := p2 (show D ≤ 5 by omega)
      have h2K := p2 f5
      refine x_aload_n dX9_best_61 rfl rfl ?_
      refine x_aload_n dX9_best_62 rfl rfl ?_
      refine x_getr dX9_best_63 fX9_37 rfl rfl (by decide) ?_
      refine x_iconst (v := nI 0) dX9_best_66 (by decide) ?_
      refine x_bipush (v := nI 31) dX9_best_67 (by decide) ?_
      refine x_callVi dX9_best_69 mvX9_canOf kX9_179 (c_canOf E d N3 50 n K D 0 31 q (wn n i) kd pt nd hF3 hP3 hl3 (by decide) (by decide) hqK) rfl (by decide) (by omega) rfl rfl (Nat.le_of_ble_eq_true rfl) ?_
      rintro _ _ ⟨rfl, rfl⟩
      refine x_callSi dX9_best_72 msX9_many kX9_198 (c_many E (d + 2) N3 _ (by omega)) (by omega) rfl rfl (Nat.le_of_ble_eq_true rfl) ?_
      rintro _ _ ⟨rfl, rfl⟩
      refine x_aload_n dX9_best_75 rfl rfl ?_
      refine x_aload_n dX9_best_76 rfl rfl ?_
      refine x_getr dX9_best_77 fX9_37 rfl rfl (by decide) ?_
      refine x_iconst (v := nI 1) dX9_best_80 (by decide) ?_
      refine x_bipush (v := nI 31) dX9_best_81 (by decide) ?_
      refine x_callVi dX9_best_83 mvX9_canOf kX9_179 (c_canOf E d N3 50 n K D 1 31 q (wn n i) kd pt nd hF3 hP3 hl3 (by decide) (by decide) hqK) rfl (by decide) (by omega) rfl rfl (Nat.le_of_ble_eq_true rfl) ?_
      rintro _ _ ⟨rfl, rfl⟩
      refine x_callSi dX9_best_86 msX9_many kX9_198 (c_many E (d + 2) N3 _ (by omega)) (by omega) rfl rfl (Nat.le_of_ble_eq_true rfl) ?_
      rintro _ _ ⟨rfl, rfl⟩
      refine x_iaddN dX9_best_89 ?_
      refine xis8_6 dX9_best_90 rfl ?_
      refine x_aload_n dX9_best_92 rfl rfl ?_
      refine x_callVi dX9_best_93 mvX9_partedLaid kX9_163 (c_partedLaid E (d + 2) N3 n K q (wn n i) hF3.2.1 f5 f4 hl3) rfl (by decide) (by omega) rfl rfl (Nat.le_of_ble_eq_true rfl) ?_
      rintro _ _ ⟨rfl, rfl⟩
      refine x_callSi dX9_best_96 msX9_many kX9_198 (c_many E (d + 2) N3 _ (by omega)) (by omega) rfl rfl (Nat.le_of_ble_eq_true rfl) ?_
      rintro _ _ ⟨rfl, rfl⟩
      refine xis8_7 dX9_best_99 rfl ?_
      refine x_iload dX9_best_101 rfl ?_
      refine x_iload_n dX9_best_103 rfl rfl ?_
      have yes : ((bestS kd q n K D pt nd i).2.1 < nI (byA kd q (wn n i) n D pt nd) ∨ (nI (byA kd q (wn n i) n D pt nd) = (bestS kd q n K D pt nd i).2.1 ∧ nI (pdA q (wn n i) n K) < (bestS kd q n K D pt nd i).2.2)) → X E (d + 3) RX9 cX9_best 8 C 120 [some (.ref (ad E 40)), some (.int (nI x)), some (.int (bestS kd q n K D pt nd i).1), some (.int (bestS kd q n K D pt nd i).2.1), some (.int (bestS kd q n K D pt nd i).2.2), some (.int (nI i)), some (.int (nI (byA kd q (wn n i) n D pt nd))), some (.int (nI (pdA q (wn n i) n K)))] [] N3 := by
        intro hy
        unfold bestT at ih
        rw [if_pos hy] at ih
        refine x_iload dX9_best_120 rfl ?_
        refine xis8_3 dX9_best_122 rfl ?_
        refine x_iload dX9_best_123 rfl ?_
        refine xis8_4 dX9_best_125 rfl ?_
        refine x_aload_n dX9_best_127 rfl rfl ?_
        refine x_aload_n dX9_best_128 rfl rfl ?_
        refine x_getr dX9_best_129 fX9_37 rfl rfl (by decide) ?_
        refine x_callVi dX9_best_132 mvX9_figuresOf kX9_156 (c_figuresOf E (d + 2) N3 50 n q (wn n i) hF3.1 hP3) rfl (by decide) (by omega) rfl rfl (Nat.le_of_ble_eq_true rfl) ?_
        rintro _ _ ⟨rfl, rfl⟩
        refine xis8_2 dX9_best_135 rfl ?_
        refine xinc8_5N dX9_best_136 rfl ?_
        refine x_goto (tgt := 30) dX9_best_139 (by decide) ?_
        exact ih _ _ _ hN3'
      have nope : ¬ ((bestS kd q n K D pt nd i).2.1 < nI (byA kd q (wn n i) n D pt nd) ∨ (nI (byA kd q (wn n i) n D pt nd) = (bestS kd q n K D pt nd i).2.1 ∧ nI (pdA q (wn n i) n K) < (bestS kd q n K D pt nd i).2.2)) → X E (d + 3) RX9 cX9_best 8 C 136 [some (.ref (ad E 40)), some (.int (nI x)), some (.int (bestS kd q n K D pt nd i).1), some (.int (bestS kd q n K D pt nd i).2.1), some (.int (bestS kd q n K D pt nd i).2.2), some (.int (nI i)), some (.int (nI (byA kd q (wn n i) n D pt nd))), some (.int (nI (pdA q (wn n i) n K)))] [] N3 := by
        intro hy
        unfold bestT at ih
        rw [if_neg hy] at ih
        refine xinc8_5N dX9_best_136 rfl ?_
        refine x_goto (tgt := 30) dX9_best_139 (by decide) ?_
        exact ih _ _ _ hN3'
      refine x_icmp_gt (tgt := 120) dX9_best_104 (by decide) (fun hc => ?_) (fun hc => ?_)
      · exact yes (Or.inl hc)
      have g1 := hc
      refine x_iload dX9_best_107 rfl ?_
      refine x_iload_n dX9_best_109 rfl rfl ?_
      refine x_icmp_ne (tgt := 136) dX9_best_110 (by decide) (fun hc => ?_) (fun hc => ?_)
      · exact nope (fun e => e.elim g1 (fun e => hc e.1))
      have g2 := hc
      refine x_iload dX9_best_113 rfl ?_
      refine x_iload dX9_best_115 rfl ?_
      refine x_icmp_ge (tgt := 136) dX9_best_117 (by decide) (fun hc => ?_) (fun hc => ?_)
      · exact nope (fun e => e.elim g1 (fun e => Int32.not_lt.mpr hc e.2))
      · exact yes (Or.inr ⟨g2, Int32.not_le.mp hc⟩)
  exact key 0 (Nat.zero_le _) M _ _ Fr.rf
/-- both halves can do deed x -/
def bcA (kd q w : Nat → Nat) (n : Nat) (pt nd : Nat → Nat) (x : Nat) : Bool := decide (nd x ≤ cnt kd q w n 0 (pt x) 31 ∧ nd x ≤ cnt kd q w n 1 (pt x) 31)
theorem if1 {p : Prop} [Decidable p] : (if p then 1 else 0) = 1 ↔ p := by
  by_cases h : p
  · rw [if_pos h]; exact ⟨fun _ => h, fun _ => rfl⟩
  · rw [if_neg h]; exact ⟨fun e => absurd e (by decide), fun e => absurd e h⟩
theorem canB_bit {kd q w : Nat → Nat} {n D : Nat} {pt nd : Nat → Nat} {h S x : Nat} (hx : x < D) : canB kd q w n D pt nd h S / 2 ^ x % 2 = if nd x ≤ cnt kd q w n h (pt x) S then 1 else 0 := by
  rw [canB_eq, bit_sum _ D x hx]
  simp
theorem and_bit (a b x : Nat) : (a &&& b) / 2 ^ x % 2 = 1 ↔ a / 2 ^ x % 2 = 1 ∧ b / 2 ^ x % 2 = 1 := by
  have t : ∀ m : Nat, m / 2 ^ x % 2 = 1 ↔ m.testBit x = true := by
    intro m
    rw [Nat.testBit_eq_decide_div_mod_eq, decide_eq_true_iff]
  rw [t, t, t, Nat.testBit_and, Bool.and_eq_true]
def fewT (b : Bool) (p f : Nat) (s : Int32 × Int32) : Int32 × Int32 := if b = true ∧ (s.2 = -9 ∨ nI p < s.2) then (nI f, nI p) else s
def fewS (kd q : Nat → Nat) (n K x : Nat) (pt nd : Nat → Nat) : Nat → Int32 × Int32
  | 0 => (-9, -9)
  | k + 1 => if lvk n k = true then fewT (bcA kd q (wn n k) n pt nd x) (pdA q (wn n k) n K) (fig (wn n k) n) (fewS kd q n K x pt nd k) else fewS kd q n K x pt nd k
set_option maxHeartbeats 8000000 in
theorem cM_fewest_no (E : Ev) (d : Nat) (M : PM) (D : Nat) (e x : Int32) (hT : M.1 40 0 = nI 0) (hD : M.1 40 7 = nI D) (hD4 : D ≤ 4) (hx : ¬ (inR e D ∧ inR x 2)) : Ci E (d + 1) mX9_fewest [.ref (ad E 40), .int e, .int x] M (fun v N => v = (if inR e D then -2 else -1) ∧ M = N) := by
  refine Ct.ofi [some (.ref (ad E 40)), some (.int e), some (.int x), none, none, none, none] (own := RX9) rfl (by decide) (Nat.le_of_ble_eq_true rfl) rfl (fun C hR => ?_)
  refine x_aload_n dX9_fewest_0 rfl rfl ?_
  refine x_iconst (v := nI 0) dX9_fewest_1 (by decide) ?_
  refine x_put dX9_fewest_2 pX9_68 rfl rfl (by decide) rfl rfl ?_
  rw [thr hT]
  refine x_iload_n dX9_fewest_5 rfl rfl ?_
  refine x_i2l dX9_fewest_6 ?_
  refine x_lconst (v := 0) dX9_fewest_7 rfl ?_
  refine x_aload_n dX9_fewest_8 rfl rfl ?_
  refine x_getv (hD) dX9_fewest_9 fX9_120 rfl rfl (by decide) ?_
  refine x_iconst (v := nI 1) dX9_fewest_12 (by decide) ?_
  refine x_isub dX9_fewest_13 ?_
  refine x_i2l dX9_fewest_14 ?_
  refine x_callSi dX9_fewest_15 msX9_in kX9_74 (c_in3 E d M e _ _ 0 ((D : Int) - 1) rfl (tl1 (by omega))) (by omega) rfl rfl (Nat.le_of_ble_eq_true rfl) ?_
  rintro _ _ ⟨rfl, rfl⟩
  refine x_if_neB (tgt := 23) dX9_fewest_18 (by decide) (fun hc => ?_) (fun hc => ?_)
  rotate_left
  · have h1 : ¬ inR e D := fun e => of_decide_eq_false hc (by omega)
    refine x_iconst (v := -1) dX9_fewest_21 (by decide) ?_
    exact hR _ _ _ _ dX9_fewest_22 (⟨by rw [if_neg h1], rfl⟩)
  have h1 : inR e D := by have := of_decide_eq_true hc; omega
  refine x_iload_n dX9_fewest_23 rfl rfl ?_
  refine x_i2l dX9_fewest_24 ?_
  refine x_lconst (v := 0) dX9_fewest_25 rfl ?_
  refine x_lconst (v := 1) dX9_fewest_26 rfl ?_
  refine x_callSi dX9_fewest_27 msX9_in kX9_74 (c_in3 E d M x _ _ 0 1 rfl rfl) (by omega) rfl rfl (Nat.le_of_ble_eq_true rfl) ?_
  rintro _ _ ⟨rfl, rfl⟩
  refine x_if_neB (tgt := 36) dX9_fewest_30 (by decide) (fun hc => ?_) (fun hc => ?_)
  · have h2 := of_decide_eq_true hc
    exact absurd ⟨h1, by omega⟩ hx
  · refine x_bipush (v := -2) dX9_fewest_33 (by decide) ?_
    exact hR _ _ _ _ dX9_fewest_35 (⟨by rw [if_pos h1], rfl⟩)
set_option maxHeartbeats 8000000 in
theorem cM_fewest (E : Ev) (d : Nat) (M : PM) (n K D e x : Nat) (q w kd pt nd : Nat → Nat) (hT : M.1 40 0 = nI 0) (hF : Fm M n K D kd pt nd) (hp : Pg M 49 n q w) (he : e < D) (hx : x < 2) (hqK : ∀ r c, r < n → c < 5 → q (5 * r + c) < 4 * K) : Ci E (d + 3) mX9_fewest [.ref (ad E 40), .int (nI e), .int (nI x)] M (fun v N => v = (if x = 0 then (fewS kd q n K e pt nd (6 ^ n)).1 else (fewS kd q n K e pt nd (6 ^ n)).2) ∧ Fr M N [50, 56, 57, 58]) := by
  obtain ⟨f1, f2, f3, f4, f5, f6, f7, f8, f9⟩ := id hF
  have h6 := p6 f4
  have het : (nI e).toInt = (e : Int) := nI_toInt (by omega)
  have hxt : (nI x).toInt = (x : Int) := nI_toInt (by omega)
  refine Ct.ofi [some (.ref (ad E 40)), some (.int (nI e)), some (.int (nI x)), none, none, none, none] (own := RX9) rfl (by decide) (Nat.le_of_ble_eq_true rfl) rfl (fun C hR => ?_)
  refine x_aload_n dX9_fewest_0 rfl rfl ?_
  refine x_iconst (v := nI 0) dX9_fewest_1 (by decide) ?_
  refine x_put dX9_fewest_2 pX9_68 rfl rfl (by decide) rfl rfl ?_
  rw [thr hT]
  refine x_iload_n dX9_fewest_5 rfl rfl ?_
  refine x_i2l dX9_fewest_6 ?_
  refine x_lconst (v := 0) dX9_fewest_7 rfl ?_
  refine x_aload_n dX9_fewest_8 rfl rfl ?_
  refine x_getv (f3) dX9_fewest_9 fX9_120 rfl rfl (by decide) ?_
  refine x_iconst (v := nI 1) dX9_fewest_12 (by decide) ?_
  refine x_isub dX9_fewest_13 ?_
  refine x_i2l dX9_fewest_14 ?_
  refine x_callSi dX9_fewest_15 msX9_in kX9_74 (c_in3 E d M _ _ _ 0 ((D : Int) - 1) rfl (tl1 (by omega))) (by omega) rfl rfl (Nat.le_of_ble_eq_true rfl) ?_
  rintro _ _ ⟨rfl, rfl⟩
  refine x_if_neB (tgt := 23) dX9_fewest_18 (by decide) (fun hc => ?_) (fun hc => ?_)
  rotate_left
  · exact absurd (of_decide_eq_false hc) (by omega)
  refine x_iload_n dX9_fewest_23 rfl rfl ?_
  refine x_i2l dX9_fewest_24 ?_
  refine x_lconst (v := 0) dX9_fewest_25 rfl ?_
  refine x_lconst (v := 1) dX9_fewest_26 rfl ?_
  refine x_callSi dX9_fewest_27 msX9_in kX9_74 (c_in3 E d M _ _ _ 0 1 rfl rfl) (by omega) rfl rfl (Nat.le_of_ble_eq_true rfl) ?_
  rintro _ _ ⟨rfl, rfl⟩
  refine x_if_neB (tgt := 36) dX9_fewest_30 (by decide) (fun hc => ?_) (fun hc => ?_)
  rotate_left
  · exact absurd (of_decide_eq_false hc) (by omega)
  refine x_bipush (v := -9) dX9_fewest_36 (by decide) ?_
  refine xis7_3 dX9_fewest_38 rfl ?_
  refine x_bipush (v := -9) dX9_fewest_39 (by decide) ?_
  refine xis7_4 dX9_fewest_41 rfl ?_
  refine x_iconst (v := nI 0) dX9_fewest_43 (by decide) ?_
  refine xis7_5 dX9_fewest_44 rfl ?_
  have key : ∀ i, i ≤ 6 ^ n → ∀ N l6, Fr M N [50, 56, 57, 58] → X E (d + 3) RX9 cX9_fewest 7 C 46 [some (.ref (ad E 40)), some (.int (nI e)), some (.int (nI x)), some (.int (fewS kd q n K e pt nd i).1), some (.int (fewS kd q n K e pt nd i).2), some (.int (nI i)), l6] [] N := by
    refine up_loop (6 ^ n) ?_ ?_
    · intro N l6 hN
      refine x_iload dX9_fewest_46 rfl ?_
      refine x_bipush (v := nI 6) dX9_fewest_48 (by decide) ?_
      refine x_aload_n dX9_fewest_50 rfl rfl ?_
      refine x_getv (hN.v (by decide) f1) dX9_fewest_51 fX9_114 rfl rfl (by decide) ?_
      refine x_callSi dX9_fewest_54 msX9_power kX9_142 (c_power E (d + 2) N 6 n (by omega)) (by omega) rfl rfl (Nat.le_of_ble_eq_true rfl) ?_
      rintro _ _ ⟨rfl, rfl⟩
      refine x_icmp_geN (tgt := 149) dX9_fewest_57 (by decide) (by omega) (by omega) (fun hc => ?_) (fun hc => ?_)
      · refine x_iload_n dX9_fewest_149 rfl rfl ?_
        refine x_if_neN (tgt := 157) dX9_fewest_150 (by decide) (by omega) (fun hc => ?_) (fun hc => ?_)
        · refine x_iload dX9_fewest_157 rfl ?_
          exact hR _ _ _ _ dX9_fewest_159 (⟨by rw [if_neg hc], hN⟩)
        · refine x_iload_n dX9_fewest_153 rfl rfl ?_
          refine x_goto (tgt := 159) dX9_fewest_154 (by decide) ?_
          exact hR _ _ _ _ dX9_fewest_159 (⟨by rw [if_pos hc], hN⟩)
      · exact absurd hc (by omega)
    · intro i hi ih N l6 hN
      rw [show fewS kd q n K e pt nd (i + 1) = if lvk n i = true then fewT (bcA kd q (wn n i) n pt nd e) (pdA q (wn n i) n K) (fig (wn n i) n) (fewS kd q n K e pt nd i) else fewS kd q n K e pt nd i from rfl] at ih
      refine x_iload dX9_fewest_46 rfl ?_
      refine x_bipush (v := nI 6) dX9_fewest_48 (by decide) ?_
      refine x_aload_n dX9_fewest_50 rfl rfl ?_
      refine x_getv (hN.v (by decide) f1) dX9_fewest_51 fX9_114 rfl rfl (by decide) ?_
      refine x_callSi dX9_fewest_54 msX9_power kX9_142 (c_power E (d + 2) N 6 n (by omega)) (by omega) rfl rfl (Nat.le_of_ble_eq_true rfl) ?_
      rintro _ _ ⟨rfl, rfl⟩
      refine x_icmp_geN (tgt := 149) dX9_fewest_57 (by decide) (by omega) (by omega) (fun hc => ?_) (fun hc => ?_)
      · exact absurd hc (by omega)
      refine x_aload_n dX9_fewest_60 rfl rfl ?_
      refine x_iload dX9_fewest_61 rfl ?_
      refine x_callVi dX9_fewest_63 mvX9_layWire kX9_148 (c_layWire E (d + 1) N n i q w (hN.v (by decide) f1) (hp.to (hN.2 49 (by decide))) hi) rfl (by decide) (by omega) rfl rfl (Nat.le_of_ble_eq_true rfl) ?_
      rintro _ N2 ⟨rfl, hN2, hlv⟩
      have hN2' : Fr M N2 [50, 56, 57, 58] := hN.tr hN2 (by decide)
      refine x_if_eqB (tgt := 143) dX9_fewest_66 (by decide) (fun hc => ?_) (fun hc => ?_)
      · refine xinc7_5N dX9_fewest_143 rfl ?_
        refine x_goto (tgt := 46) dX9_fewest_146 (by decide) ?_
        rw [if_neg (by unfold lvk; rw [hc]; decide)] at ih
        exact ih _ _ hN2'
      have hP2 := hlv hc
      rw [if_pos (show lvk n i = true from hc)] at ih
      refine x_aload_n dX9_fewest_69 rfl rfl ?_
      refine x_aload_n dX9_fewest_70 rfl rfl ?_
      refine x_getr dX9_fewest_71 fX9_37 rfl rfl (by decide) ?_
      refine x_callVv dX9_fewest_74 mvX9_layHalves kX9_152 (c_layHalves E (d + 2) N2 50 n q (wn n i) (hN2'.v (by decide) f1) hP2) rfl (by decide) (by omega) rfl rfl (Nat.le_of_ble_eq_true rfl) ?_
      rintro N3 ⟨hN3, hl3⟩
      have hN3' : Fr M N3 [50, 56, 57, 58] := hN2'.tr hN3 (by decide)
      have hF3 : Fm N3 n K D kd pt nd := hF.fr hN3' (by decide) (by decide) (by decide) (by decide)
      have hP3 := hP2.fr hN3 (by decide)
      have b0 := canB_lt kd q (wn n i) n D pt nd 0 31
      have bp := parB_lt q (wn n i) n K
      have h2D := p2 (show D ≤ 5 by omega)
      have h2K := p2 f5
      have hand : canB kd q (wn n i) n D pt nd 0 31 &&& canB kd q (wn n i) n D pt nd 1 31 ≤ canB kd q (wn n i) n D pt nd 0 31 := Nat.and_le_left
      refine x_aload_n dX9_fewest_77 rfl rfl ?_
      refine x_callVi dX9_fewest_78 mvX9_partedLaid kX9_163 (c_partedLaid E (d + 2) N3 n K q (wn n i) hF3.2.1 f5 f4 hl3) rfl (by decide) (by omega) rfl rfl (Nat.le_of_ble_eq_true rfl) ?_
      rintro _ _ ⟨rfl, rfl⟩
      refine x_callSi dX9_fewest_81 msX9_many kX9_198 (c_many E (d + 2) N3 _ (by omega)) (by omega) rfl rfl (Nat.le_of_ble_eq_true rfl) ?_
      rintro _ _ ⟨rfl, rfl⟩
      refine xis7_6 dX9_fewest_84 rfl ?_
      refine x_aload_n dX9_fewest_86 rfl rfl ?_
      refine x_aload_n dX9_fewest_87 rfl rfl ?_
      refine x_getr dX9_fewest_88 fX9_37 rfl rfl (by decide) ?_
      refine x_iconst (v := nI 0) dX9_fewest_91 (by decide) ?_
      refine x_bipush (v := nI 31) dX9_fewest_92 (by decide) ?_
      refine x_callVi dX9_fewest_94 mvX9_canOf kX9_179 (c_canOf E d N3 50 n K D 0 31 q (wn n i) kd pt nd hF3 hP3 hl3 (by decide) (by decide) hqK) rfl (by decide) (by omega) rfl rfl (Nat.le_of_ble_eq_true rfl) ?_
      rintro _ _ ⟨rfl, rfl⟩
      refine x_aload_n dX9_fewest_97 rfl rfl ?_
      refine x_aload_n dX9_fewest_98 rfl rfl ?_
      refine x_getr dX9_fewest_99 fX9_37 rfl rfl (by decide) ?_
      refine x_iconst (v := nI 1) dX9_fewest_102 (by decide) ?_
      refine x_bipush (v := nI 31) dX9_fewest_103 (by decide) ?_
      refine x_callVi dX9_fewest_105 mvX9_canOf kX9_179 (c_canOf E d N3 50 n K D 1 31 q (wn n i) kd pt nd hF3 hP3 hl3 (by decide) (by decide) hqK) rfl (by decide) (by omega) rfl rfl (Nat.le_of_ble_eq_true rfl) ?_
      rintro _ _ ⟨rfl, rfl⟩
      refine x_iandN dX9_fewest_108 ?_
      refine x_iload_n dX9_fewest_109 rfl rfl ?_
      refine x_callSi dX9_fewest_110 msX9_isIn kX9_130 (c_isIn E (d + 2) N3 _ e (by omega) (by omega)) (by omega) rfl rfl (Nat.le_of_ble_eq_true rfl) ?_
      rintro _ _ ⟨rfl, rfl⟩
      have hbc : decide ((canB kd q (wn n i) n D pt nd 0 31 &&& canB kd q (wn n i) n D pt nd 1 31) / 2 ^ e % 2 = 1) = bcA kd q (wn n i) n pt nd e := by
        unfold bcA
        apply decide_eq_decide.mpr
        rw [and_bit, canB_bit he, canB_bit he]
        rw [if1, if1]
      rw [hbc]
      have yes : (bcA kd q (wn n i) n pt nd e = true ∧ ((fewS kd q n K e pt nd i).2 = -9 ∨ nI (pdA q (wn n i) n K) < (fewS kd q n K e pt nd i).2)) → X E (d + 3) RX9 cX9_fewest 7 C 130 [some (.ref (ad E 40)), some (.int (nI e)), some (.int (nI x)), some (.int (fewS kd q n K e pt nd i).1), some (.int (fewS kd q n K e pt nd i).2), some (.int (nI i)), some (.int (nI (pdA q (wn n i) n K)))] [] N3 := by
        intro hy
        unfold fewT at ih
        rw [if_pos hy] at ih
        refine x_iload dX9_fewest_130 rfl ?_
        refine xis7_4 dX9_fewest_132 rfl ?_
        refine x_aload_n dX9_fewest_134 rfl rfl ?_
        refine x_aload_n dX9_fewest_135 rfl rfl ?_
        refine x_getr dX9_fewest_136 fX9_37 rfl rfl (by decide) ?_
        refine x_callVi dX9_fewest_139 mvX9_figuresOf kX9_156 (c_figuresOf E (d + 2) N3 50 n q (wn n i) hF3.1 hP3) rfl (by decide) (by omega) rfl rfl (Nat.le_of_ble_eq_true rfl) ?_
        rintro _ _ ⟨rfl, rfl⟩
        refine xis7_3 dX9_fewest_142 rfl ?_
        refine xinc7_5N dX9_fewest_143 rfl ?_
        refine x_goto (tgt := 46) dX9_fewest_146 (by decide) ?_
        exact ih _ _ hN3'
      have nope : ¬ (bcA kd q (wn n i) n pt nd e = true ∧ ((fewS kd q n K e pt nd i).2 = -9 ∨ nI (pdA q (wn n i) n K) < (fewS kd q n K e pt nd i).2)) → X E (d + 3) RX9 cX9_fewest 7 C 143 [some (.ref (ad E 40)), some (.int (nI e)), some (.int (nI x)), some (.int (fewS kd q n K e pt nd i).1), some (.int (fewS kd q n K e pt nd i).2), some (.int (nI i)), some (.int (nI (pdA q (wn n i) n K)))] [] N3 := by
        intro hy
        unfold fewT at ih
        rw [if_neg hy] at ih
        refine xinc7_5N dX9_fewest_143 rfl ?_
        refine x_goto (tgt := 46) dX9_fewest_146 (by decide) ?_
        exact ih _ _ hN3'
      refine x_if_eqB (tgt := 143) dX9_fewest_113 (by decide) (fun hc => ?_) (fun hc => ?_)
      · exact nope (fun e => by rw [e.1] at hc; cases hc)
      have g1 := hc
      refine x_iload dX9_fewest_116 rfl ?_
      refine x_bipush (v := -9) dX9_fewest_118 (by decide) ?_
      refine x_icmp_eq (tgt := 130) dX9_fewest_120 (by decide) (fun hc => ?_) (fun hc => ?_)
      · exact yes ⟨g1, Or.inl hc⟩
      have g2 := hc
      refine x_iload dX9_fewest_123 rfl ?_
      refine x_iload dX9_fewest_125 rfl ?_
      refine x_icmp_ge (tgt := 143) dX9_fewest_127 (by decide) (fun hc => ?_) (fun hc => ?_)
      · exact nope (fun e => e.2.elim g2 (fun e => Int32.not_lt.mpr hc e))
      · exact yes ⟨g1, Or.inr (Int32.not_le.mp hc)⟩
  exact key 0 (Nat.zero_le _) M _ Fr.rf
/-- the worth of a half by four figures -/
def woA (kd q w : Nat → Nat) (n h f : Nat) : Nat := fb_sm (fun p => f / 10 ^ (3 - p) % 10 * cnt kd q w n h p 31) 4
theorem woA_le {kd q w : Nat → Nat} {n h f : Nat} (hn : n ≤ 5) : woA kd q w n h f ≤ 4 * 250 := fb_sm_bound (fun p _ => by
  have h1 := cnt_le (kd := kd) (q := q) (w := w) (h := h) (p := p) (S := 31) hn
  have h2 := Nat.mod_lt (f / 10 ^ (3 - p)) (show 0 < 10 by decide)
  calc f / 10 ^ (3 - p) % 10 * cnt kd q w n h p 31 ≤ 10 * 25 := Nat.mul_le_mul (by omega) h1
    _ = 250 := rfl)
set_option maxHeartbeats 8000000 in
theorem c_worthOf (E : Ev) (d : Nat) (M : PM) (n K D h f : Nat) (q w kd pt nd : Nat → Nat) (hF : Fm M n K D kd pt nd) (hp : Pg M 50 n q w) (hl : Ld M n q w) (hh : h ≤ 1) (hf : f < 10000) (hqK : ∀ r c, r < n → c < 5 → q (5 * r + c) < 4 * K) : Ci E (d + 2) mX9_worthOf [.ref (ad E 40), .int (nI h), .int (nI f)] M (fun v N => v = nI (woA kd q w n h f) ∧ M = N) := by
  refine Ct.ofi [some (.ref (ad E 40)), some (.int (nI h)), some (.int (nI f)), none, none] (own := RX9) rfl (by decide) (Nat.le_of_ble_eq_true rfl) rfl (fun C hR => ?_)
  refine x_iconst (v := nI 0) dX9_worthOf_0 (by decide) ?_
  refine xis5_3 dX9_worthOf_1 rfl ?_
  refine x_iconst (v := nI 0) dX9_worthOf_2 (by decide) ?_
  refine xis5_4 dX9_worthOf_3 rfl ?_
  have key : ∀ i, i ≤ 4 → X E (d + 2) RX9 cX9_worthOf 5 C 5 [some (.ref (ad E 40)), some (.int (nI h)), some (.int (nI f)), some (.int (nI (fb_sm (fun p => f / 10 ^ (3 - p) % 10 * cnt kd q w n h p 31) i))), some (.int (nI i))] [] M := by
    refine up_loop 4 ?_ ?_
    · refine x_iload dX9_worthOf_5 rfl ?_
      refine x_iconst (v := nI 4) dX9_worthOf_7 (by decide) ?_
      refine x_icmp_geN (tgt := 48) dX9_worthOf_8 (by decide) (by omega) (by omega) (fun hc => ?_) (fun hc => ?_)
      · refine x_iload_n dX9_worthOf_48 rfl rfl ?_
        exact hR _ _ _ _ dX9_worthOf_49 (⟨rfl, rfl⟩)
      · exact absurd hc (by omega)
    · intro i hi ih
      have hpw : 0 < 10 ^ (3 - i) := Nat.pow_pos (by decide)
      have hpw2 : 10 ^ (3 - i) ≤ 100000 := p10 (by omega)
      have hdv := Nat.div_le_self f (10 ^ (3 - i))
      refine x_iload dX9_worthOf_5 rfl ?_
      refine x_iconst (v := nI 4) dX9_worthOf_7 (by decide) ?_
      refine x_icmp_geN (tgt := 48) dX9_worthOf_8 (by decide) (by omega) (by omega) (fun hc => ?_) (fun hc => ?_)
      · exact absurd hc (by omega)
      refine x_iload_n dX9_worthOf_11 rfl rfl ?_
      refine x_iload_n dX9_worthOf_12 rfl rfl ?_
      refine x_bipush (v := nI 10) dX9_worthOf_13 (by decide) ?_
      refine x_iconst (v := nI 3) dX9_worthOf_15 (by decide) ?_
      refine x_iload dX9_worthOf_16 rfl ?_
      refine x_isubN dX9_worthOf_18 (by omega) ?_
      refine x_callSi dX9_worthOf_19 msX9_power kX9_142 (c_power E (d + 1) M 10 (3 - i) (by omega)) (by omega) rfl rfl (Nat.le_of_ble_eq_true rfl) ?_
      rintro _ _ ⟨rfl, rfl⟩
      refine x_idivN dX9_worthOf_22 (by omega) (by omega) (by omega) ?_
      refine x_bipush (v := nI 10) dX9_worthOf_23 (by decide) ?_
      refine x_iremN dX9_worthOf_25 (by omega) (by omega) (by omega) ?_
      refine x_aload_n dX9_worthOf_26 rfl rfl ?_
      refine x_aload_n dX9_worthOf_27 rfl rfl ?_
      refine x_getr dX9_worthOf_28 fX9_37 rfl rfl (by decide) ?_
      refine x_iload_n dX9_worthOf_31 rfl rfl ?_
      refine x_iload dX9_worthOf_32 rfl ?_
      refine x_bipush (v := nI 31) dX9_worthOf_34 (by decide) ?_
      refine x_callVi dX9_worthOf_36 mvX9_countOf kX9_138 (c_countOf E d M 50 n K D h i 31 q w kd pt nd hF hp hl hh (by omega) (by decide) hqK) rfl (by decide) (by omega) rfl rfl (Nat.le_of_ble_eq_true rfl) ?_
      rintro _ _ ⟨rfl, rfl⟩
      refine x_imulN dX9_worthOf_39 ?_
      refine x_iaddN dX9_worthOf_40 ?_
      refine xis5_3 dX9_worthOf_41 rfl ?_
      refine xinc5_4N dX9_worthOf_42 rfl ?_
      refine x_goto (tgt := 5) dX9_worthOf_45 (by decide) ?_
      exact ih
  exact key 0 (by omega)
/-- of wires that are so: how many, the first -/
def hitC (n : Nat) (s : Nat → Bool) (k : Nat) : Nat := fb_sm (fun k => if (lvk n k && s k) = true then 1 else 0) k
def hitF (n : Nat) (s : Nat → Bool) : Nat → Int32
  | 0 => -9
  | k + 1 => if (lvk n k && s k) = true ∧ hitC n s k = 0 then nI (fig (wn n k) n) else hitF n s k
theorem hitC_s (n : Nat) (s : Nat → Bool) (k : Nat) : hitC n s (k + 1) = hitC n s k + if (lvk n k && s k) = true then 1 else 0 := rfl
theorem hitF_s (n : Nat) (s : Nat → Bool) (k : Nat) : hitF n s (k + 1) = if (lvk n k && s k) = true ∧ hitC n s k = 0 then nI (fig (wn n k) n) else hitF n s k := rfl
theorem hitC_le (n : Nat) (s : Nat → Bool) (k : Nat) : hitC n s k ≤ k * 1 := fb_sm_bound (fun j _ => by split <;> omega)
def frA (kd q w : Nat → Nat) (n a b : Nat) : Bool := decide (woA kd q w n 1 a ≤ woA kd q w n 0 a ∧ woA kd q w n 0 b ≤ woA kd q w n 1 b)
set_option maxHeartbeats 8000000 in
theorem cM_fair_no (E : Ev) (d : Nat) (M : PM) (a b x : Int32) (hT : M.1 40 0 = nI 0) (hx : ¬ (inR a 10000 ∧ inR b 10000 ∧ inR x 2)) : Ci E (d + 1) mX9_fair [.ref (ad E 40), .int a, .int b, .int x] M (fun v N => v = -2 ∧ M = N) := by
  refine Ct.ofi [some (.ref (ad E 40)), some (.int a), some (.int b), some (.int x), none, none, none, none] (own := RX9) rfl (by decide) (Nat.le_of_ble_eq_true rfl) rfl (fun C hR => ?_)
  refine x_aload_n dX9_fair_0 rfl rfl ?_
  refine x_iconst (v := nI 0) dX9_fair_1 (by decide) ?_
  refine x_put dX9_fair_2 pX9_68 rfl rfl (by decide) rfl rfl ?_
  rw [thr hT]
  refine x_iload_n dX9_fair_5 rfl rfl ?_
  refine x_i2l dX9_fair_6 ?_
  refine x_lconst (v := 0) dX9_fair_7 rfl ?_
  refine x_ldc2 dX9_fair_8 qX9_202 ?_
  refine x_callSi dX9_fair_11 msX9_in kX9_74 (c_in3 E d M a _ _ 0 9999 rfl rfl) (by omega) rfl rfl (Nat.le_of_ble_eq_true rfl) ?_
  rintro _ _ ⟨rfl, rfl⟩
  refine x_if_eqB (tgt := 39) dX9_fair_14 (by decide) (fun hc => ?_) (fun hc => ?_)
  · refine x_bipush (v := -2) dX9_fair_39 (by decide) ?_
    exact hR _ _ _ _ dX9_fair_41 (⟨rfl, rfl⟩)
  have h1 := of_decide_eq_true hc
  refine x_iload_n dX9_fair_17 rfl rfl ?_
  refine x_i2l dX9_fair_18 ?_
  refine x_lconst (v := 0) dX9_fair_19 rfl ?_
  refine x_ldc2 dX9_fair_20 qX9_202 ?_
  refine x_callSi dX9_fair_23 msX9_in kX9_74 (c_in3 E d M b _ _ 0 9999 rfl rfl) (by omega) rfl rfl (Nat.le_of_ble_eq_true rfl) ?_
  rintro _ _ ⟨rfl, rfl⟩
  refine x_if_eqB (tgt := 39) dX9_fair_26 (by decide) (fun hc => ?_) (fun hc => ?_)
  · refine x_bipush (v := -2) dX9_fair_39 (by decide) ?_
    exact hR _ _ _ _ dX9_fair_41 (⟨rfl, rfl⟩)
  have h2 := of_decide_eq_true hc
  refine x_iload_n dX9_fair_29 rfl rfl ?_
  refine x_i2l dX9_fair_30 ?_
  refine x_lconst (v := 0) dX9_fair_31 rfl ?_
  refine x_lconst (v := 1) dX9_fair_32 rfl ?_
  refine x_callSi dX9_fair_33 msX9_in kX9_74 (c_in3 E d M x _ _ 0 1 rfl rfl) (by omega) rfl rfl (Nat.le_of_ble_eq_true rfl) ?_
  rintro _ _ ⟨rfl, rfl⟩
  refine x_if_neB (tgt := 42) dX9_fair_36 (by decide) (fun hc => ?_) (fun hc => ?_)
  · have h3 := of_decide_eq_true hc
    exact absurd ⟨by omega, by omega, by omega⟩ hx
  · refine x_bipush (v := -2) dX9_fair_39 (by decide) ?_
    exact hR _ _ _ _ dX9_fair_41 (⟨rfl, rfl⟩)
set_option maxHeartbeats 8000000 in
theorem cM_fair (E : Ev) (d : Nat) (M : PM) (n K D a b x : Nat) (q w kd pt nd : Nat → Nat) (hT : M.1 40 0 = nI 0) (hF : Fm M n K D kd pt nd) (hp : Pg M 49 n q w) (ha : a < 10000) (hb : b < 10000) (hx : x < 2) (hqK : ∀ r c, r < n → c < 5 → q (5 * r + c) < 4 * K) : Ci E (d + 3) mX9_fair [.ref (ad E 40), .int (nI a), .int (nI b), .int (nI x)] M (fun v N => v = (if x = 0 then nI (hitC n (fun k => frA kd q (wn n k) n a b) (6 ^ n)) else hitF n (fun k => frA kd q (wn n k) n a b) (6 ^ n)) ∧ Fr M N [50, 56, 57, 58]) := by
  obtain ⟨f1, f2, f3, f4, f5, f6, f7, f8, f9⟩ := id hF
  have h6 := p6 f4
  have hat : (nI a).toInt = (a : Int) := nI_toInt (by omega)
  have hbt : (nI b).toInt = (b : Int) := nI_toInt (by omega)
  have hxt : (nI x).toInt = (x : Int) := nI_toInt (by omega)
  refine Ct.ofi [some (.ref (ad E 40)), some (.int (nI a)), some (.int (nI b)), some (.int (nI x)), none, none, none, none] (own := RX9) rfl (by decide) (Nat.le_of_ble_eq_true rfl) rfl (fun C hR => ?_)
  refine x_aload_n dX9_fair_0 rfl rfl ?_
  refine x_iconst (v := nI 0) dX9_fair_1 (by decide) ?_
  refine x_put dX9_fair_2 pX9_68 rfl rfl (by decide) rfl rfl ?_
  rw [thr hT]
  refine x_iload_n dX9_fair_5 rfl rfl ?_
  refine x_i2l dX9_fair_6 ?_
  refine x_lconst (v := 0) dX9_fair_7 rfl ?_
  refine x_ldc2 dX9_fair_8 qX9_202 ?_
  refine x_callSi dX9_fair_11 msX9_in kX9_74 (c_in3 E d M _ _ _ 0 9999 rfl rfl) (by omega) rfl rfl (Nat.le_of_ble_eq_true rfl) ?_
  rintro _ _ ⟨rfl, rfl⟩
  refine x_if_eqB (tgt := 39) dX9_fair_14 (by decide) (fun hc => ?_) (fun hc => ?_)
  · exact absurd (of_decide_eq_false hc) (by omega)
  refine x_iload_n dX9_fair_17 rfl rfl ?_
  refine x_i2l dX9_fair_18 ?_
  refine x_lconst (v := 0) dX9_fair_19 rfl ?_
  refine x_ldc2 dX9_fair_20 qX9_202 ?_
  refine x_callSi dX9_fair_23 msX9_in kX9_74 (c_in3 E d M _ _ _ 0 9999 rfl rfl) (by omega) rfl rfl (Nat.le_of_ble_eq_true rfl) ?_
  rintro _ _ ⟨rfl, rfl⟩
  refine x_if_eqB (tgt := 39) dX9_fair_26 (by decide) (fun hc => ?_) (fun hc => ?_)
  · exact absurd (of_decide_eq_false hc) (by omega)
  refine x_iload_n dX9_fair_29 rfl rfl ?_
  refine x_i2l dX9_fair_30 ?_
  refine x_lconst (v := 0) dX9_fair_31 rfl ?_
  refine x_lconst (v := 1) dX9_fair_32 rfl ?_
  refine x_callSi dX9_fair_33 msX9_in kX9_74 (c_in3 E d M _ _ _ 0 1 rfl rfl) (by omega) rfl rfl (Nat.le_of_ble_eq_true rfl) ?_
  rintro _ _ ⟨rfl, rfl⟩
  refine x_if_neB (tgt := 42) dX9_fair_36 (by decide) (fun hc => ?_) (fun hc => ?_)
  rotate_left
  · exact absurd (of_decide_eq_false hc) (by omega)
  refine x_iconst (v := nI 0) dX9_fair_42 (by decide) ?_
  refine xis8_4 dX9_fair_43 rfl ?_
  refine x_bipush (v := -9) dX9_fair_45 (by decide) ?_
  refine xis8_5 dX9_fair_47 rfl ?_
  refine x_iconst (v := nI 0) dX9_fair_49 (by decide) ?_
  refine xis8_6 dX9_fair_50 rfl ?_
  have key : ∀ i, i ≤ 6 ^ n → ∀ N l7, Fr M N [50, 56, 57, 58] → X E (d + 3) RX9 cX9_fair 8 C 52 [some (.ref (ad E 40)), some (.int (nI a)), some (.int (nI b)), some (.int (nI x)), some (.int (nI (hitC n (fun k => frA kd q (wn n k) n a b) i))), some (.int (hitF n (fun k => frA kd q (wn n k) n a b) i)), some (.int (nI i)), l7] [] N := by
    refine up_loop (6 ^ n) ?_ ?_
    · intro N l7 hN
      refine x_iload dX9_fair_52 rfl ?_
      refine x_bipush (v := nI 6) dX9_fair_54 (by decide) ?_
      refine x_aload_n dX9_fair_56 rfl rfl ?_
      refine x_getv (hN.v (by decide) f1) dX9_fair_57 fX9_114 rfl rfl (by decide) ?_
      refine x_callSi dX9_fair_60 msX9_power kX9_142 (c_power E (d + 2) N 6 n (by omega)) (by omega) rfl rfl (Nat.le_of_ble_eq_true rfl) ?_
      rintro _ _ ⟨rfl, rfl⟩
      refine x_icmp_geN (tgt := 166) dX9_fair_63 (by decide) (by omega) (by omega) (fun hc => ?_) (fun hc => ?_)
      · refine x_iload_n dX9_fair_166 rfl rfl ?_
        refine x_if_neN (tgt := 175) dX9_fair_167 (by decide) (by omega) (fun hc => ?_) (fun hc => ?_)
        · refine x_iload dX9_fair_175 rfl ?_
          exact hR _ _ _ _ dX9_fair_177 (⟨by rw [if_neg hc], hN⟩)
        · refine x_iload dX9_fair_170 rfl ?_
          refine x_goto (tgt := 177) dX9_fair_172 (by decide) ?_
          exact hR _ _ _ _ dX9_fair_177 (⟨by rw [if_pos hc], hN⟩)
      · exact absurd hc (by omega)
    · intro i hi ih N l7 hN
      rw [hitC_s, hitF_s] at ih
      refine x_iload dX9_fair_52 rfl ?_
      refine x_bipush (v := nI 6) dX9_fair_54 (by decide) ?_
      refine x_aload_n dX9_fair_56 rfl rfl ?_
      refine x_getv (hN.v (by decide) f1) dX9_fair_57 fX9_114 rfl rfl (by decide) ?_
      refine x_callSi dX9_fair_60 msX9_power kX9_142 (c_power E (d + 2) N 6 n (by omega)) (by omega) rfl rfl (Nat.le_of_ble_eq_true rfl) ?_
      rintro _ _ ⟨rfl, rfl⟩
      refine x_icmp_geN (tgt := 166) dX9_fair_63 (by decide) (by omega) (by omega) (fun hc => ?_) (fun hc => ?_)
      · exact absurd hc (by omega)
      refine x_aload_n dX9_fair_66 rfl rfl ?_
      refine x_iload dX9_fair_67 rfl ?_
      refine x_callVi dX9_fair_69 mvX9_layWire kX9_148 (c_layWire E (d + 1) N n i q w (hN.v (by decide) f1) (hp.to (hN.2 49 (by decide))) hi) rfl (by decide) (by omega) rfl rfl (Nat.le_of_ble_eq_true rfl) ?_
      rintro _ N2 ⟨rfl, hN2, hlv⟩
      have hN2' : Fr M N2 [50, 56, 57, 58] := hN.tr hN2 (by decide)
      have hcl := hitC_le n (fun k => frA kd q (wn n k) n a b) i
      refine x_if_eqB (tgt := 160) dX9_fair_72 (by decide) (fun hc => ?_) (fun hc => ?_)
      · refine xinc8_6N dX9_fair_160 rfl ?_
        refine x_goto (tgt := 52) dX9_fair_163 (by decide) ?_
        have e0 : ¬ ((lvk n i && frA kd q (wn n i) n a b) = true) := by unfold lvk; rw [hc]; simp
        rw [if_neg e0, if_neg (fun e => e0 e.1), Nat.add_zero] at ih
        exact ih _ _ hN2'
      have hP2 := hlv hc
      have hlt : lvk n i = true := hc
      rw [hlt, Bool.true_and] at ih
      refine x_aload_n dX9_fair_75 rfl rfl ?_
      refine x_aload_n dX9_fair_76 rfl rfl ?_
      refine x_getr dX9_fair_77 fX9_37 rfl rfl (by decide) ?_
      refine x_callVv dX9_fair_80 mvX9_layHalves kX9_152 (c_layHalves E (d + 2) N2 50 n q (wn n i) (hN2'.v (by decide) f1) hP2) rfl (by decide) (by omega) rfl rfl (Nat.le_of_ble_eq_true rfl) ?_
      rintro N3 ⟨hN3, hl3⟩
      have hN3' : Fr M N3 [50, 56, 57, 58] := hN2'.tr hN3 (by decide)
      have hF3 : Fm N3 n K D kd pt nd := hF.fr hN3' (by decide) (by decide) (by decide) (by decide)
      have hP3 := hP2.fr hN3 (by decide)
      have w1 := woA_le (kd := kd) (q := q) (w := wn n i) (h := 0) (f := a) f4
      have w2 := woA_le (kd := kd) (q := q) (w := wn n i) (h := 1) (f := a) f4
      have w3 := woA_le (kd := kd) (q := q) (w := wn n i) (h := 0) (f := b) f4
      have w4 := woA_le (kd := kd) (q := q) (w := wn n i) (h := 1) (f := b) f4
      have no : frA kd q (wn n i) n a b = false → X E (d + 3) RX9 cX9_fair 8 C 117 [some (.ref (ad E 40)), some (.int (nI a)), some (.int (nI b)), some (.int (nI x)), some (.int (nI (hitC n (fun k => frA kd q (wn n k) n a b) i))), some (.int (hitF n (fun k => frA kd q (wn n k) n a b) i)), some (.int (nI i)), l7] [] N3 := by
        intro hno
        rw [hno, if_neg (by decide), if_neg (fun e => absurd e.1 (by decide))] at ih
        refine x_iconst (v := nI 0) dX9_fair_117 (by decide) ?_
        refine xis8_7 dX9_fair_118 rfl ?_
        refine x_iload dX9_fair_120 rfl ?_
        refine x_if_eqN (tgt := 141) dX9_fair_122 (by decide) (by omega) (fun hc => ?_) (fun hc => ?_)
        · refine x_iload dX9_fair_141 rfl ?_
          refine xis8_5 dX9_fair_143 rfl ?_
          refine x_iload dX9_fair_145 rfl ?_
          refine x_iload dX9_fair_147 rfl ?_
          refine x_if_eqN (tgt := 156) dX9_fair_149 (by decide) (by omega) (fun hc => ?_) (fun hc => ?_)
          · refine x_iconst (v := nI 0) dX9_fair_156 (by decide) ?_
            refine x_iaddN dX9_fair_157 ?_
            refine xis8_4 dX9_fair_158 rfl ?_
            refine xinc8_6N dX9_fair_160 rfl ?_
            refine x_goto (tgt := 52) dX9_fair_163 (by decide) ?_
            exact ih _ _ hN3'
          · exact absurd rfl hc
        · exact absurd rfl hc
      refine x_aload_n dX9_fair_83 rfl rfl ?_
      refine x_iconst (v := nI 0) dX9_fair_84 (by decide) ?_
      refine x_iload_n dX9_fair_85 rfl rfl ?_
      refine x_callVi dX9_fair_86 mvX9_worthOf kX9_204 (c_worthOf E d N3 n K D 0 a q (wn n i) kd pt nd hF3 hP3 hl3 (by decide) ha hqK) rfl (by decide) (by omega) rfl rfl (Nat.le_of_ble_eq_true rfl) ?_
      rintro _ _ ⟨rfl, rfl⟩
      refine x_aload_n dX9_fair_89 rfl rfl ?_
      refine x_iconst (v := nI 1) dX9_fair_90 (by decide) ?_
      refine x_iload_n dX9_fair_91 rfl rfl ?_
      refine x_callVi dX9_fair_92 mvX9_worthOf kX9_204 (c_worthOf E d N3 n K D 1 a q (wn n i) kd pt nd hF3 hP3 hl3 (by decide) ha hqK) rfl (by decide) (by omega) rfl rfl (Nat.le_of_ble_eq_true rfl) ?_
      rintro _ _ ⟨rfl, rfl⟩
      refine x_icmp_ltN (tgt := 117) dX9_fair_95 (by decide) (by omega) (by omega) (fun hc => ?_) (fun hc => ?_)
      · exact no (by unfold frA; exact decide_eq_false (by omega))
      have g1 := hc
      refine x_aload_n dX9_fair_98 rfl rfl ?_
      refine x_iconst (v := nI 1) dX9_fair_99 (by decide) ?_
      refine x_iload_n dX9_fair_100 rfl rfl ?_
      refine x_callVi dX9_fair_101 mvX9_worthOf kX9_204 (c_worthOf E d N3 n K D 1 b q (wn n i) kd pt nd hF3 hP3 hl3 (by decide) hb hqK) rfl (by decide) (by omega) rfl rfl (Nat.le_of_ble_eq_true rfl) ?_
      rintro _ _ ⟨rfl, rfl⟩
      refine x_aload_n dX9_fair_104 rfl rfl ?_
      refine x_iconst (v := nI 0) dX9_fair_105 (by decide) ?_
      refine x_iload_n dX9_fair_106 rfl rfl ?_
      refine x_callVi dX9_fair_107 mvX9_worthOf kX9_204 (c_worthOf E d N3 n K D 0 b q (wn n i) kd pt nd hF3 hP3 hl3 (by decide) hb hqK) rfl (by decide) (by omega) rfl rfl (Nat.le_of_ble_eq_true rfl) ?_
      rintro _ _ ⟨rfl, rfl⟩
      refine x_icmp_ltN (tgt := 117) dX9_fair_110 (by decide) (by omega) (by omega) (fun hc => ?_) (fun hc => ?_)
      · exact no (by unfold frA; exact decide_eq_false (by omega))
      have hyes : frA kd q (wn n i) n a b = true := by unfold frA; exact decide_eq_true ⟨g1, hc⟩
      rw [hyes, if_pos rfl] at ih
      refine x_iconst (v := nI 1) dX9_fair_113 (by decide) ?_
      refine x_goto (tgt := 118) dX9_fair_114 (by decide) ?_
      refine xis8_7 dX9_fair_118 rfl ?_
      refine x_iload dX9_fair_120 rfl ?_
      refine x_if_eqN (tgt := 141) dX9_fair_122 (by decide) (by omega) (fun hc => ?_) (fun hc => ?_)
      · exact absurd hc (by decide)
      refine x_iload dX9_fair_125 rfl ?_
      refine x_if_neN (tgt := 141) dX9_fair_127 (by decide) (by omega) (fun hc => ?_) (fun hc => ?_)
      · rw [if_neg (fun e => hc e.2)] at ih
        refine x_iload dX9_fair_141 rfl ?_
        refine xis8_5 dX9_fair_143 rfl ?_
        refine x_iload dX9_fair_145 rfl ?_
        refine x_iload dX9_fair_147 rfl ?_
        refine x_if_eqN (tgt := 156) dX9_fair_149 (by decide) (by omega) (fun hc => ?_) (fun hc => ?_)
        · exact absurd hc (by decide)
        · refine x_iconst (v := nI 1) dX9_fair_152 (by decide) ?_
          refine x_goto (tgt := 157) dX9_fair_153 (by decide) ?_
          refine x_iaddN dX9_fair_157 ?_
          refine xis8_4 dX9_fair_158 rfl ?_
          refine xinc8_6N dX9_fair_160 rfl ?_
          refine x_goto (tgt := 52) dX9_fair_163 (by decide) ?_
          exact ih _ _ hN3'
      · rw [if_pos ⟨rfl, hc⟩] at ih
        refine x_aload_n dX9_fair_130 rfl rfl ?_
        refine x_aload_n dX9_fair_131 rfl rfl ?_
        refine x_getr dX9_fair_132 fX9_37 rfl rfl (by decide) ?_
        refine x_callVi dX9_fair_135 mvX9_figuresOf kX9_156 (c_figuresOf E (d + 2) N3 50 n q (wn n i) hF3.1 hP3) rfl (by decide) (by omega) rfl rfl (Nat.le_of_ble_eq_true rfl) ?_
        rintro _ _ ⟨rfl, rfl⟩
        refine x_goto (tgt := 143) dX9_fair_138 (by decide) ?_
        refine xis8_5 dX9_fair_143 rfl ?_
        refine x_iload dX9_fair_145 rfl ?_
        refine x_iload dX9_fair_147 rfl ?_
        refine x_if_eqN (tgt := 156) dX9_fair_149 (by decide) (by omega) (fun hc => ?_) (fun hc => ?_)
        · exact absurd hc (by decide)
        · refine x_iconst (v := nI 1) dX9_fair_152 (by decide) ?_
          refine x_goto (tgt := 157) dX9_fair_153 (by decide) ?_
          refine x_iaddN dX9_fair_157 ?_
          refine xis8_4 dX9_fair_158 rfl ?_
          refine xinc8_6N dX9_fair_160 rfl ?_
          refine x_goto (tgt := 52) dX9_fair_163 (by decide) ?_
          exact ih _ _ hN3'
  exact key 0 (Nat.zero_le _) M _ Fr.rf
