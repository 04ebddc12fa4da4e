-- ===== the static helpers of the reference and of the library =====
theorem sa_sa {M : PM} {c : Nat} {f g : Nat → Int32} : sa (sa M c f) c g = sa M c g := by
  unfold sa
  congr 1
  funext c'
  by_cases h : c' = c <;> simp [h]
theorem sa_self {M : PM} {c : Nat} : sa M c (M.1 c) = M := by
  obtain ⟨a, b⟩ := M
  unfold sa
  congr 1
  funext c'
  by_cases h : c' = c <;> simp [h]
theorem dec_t {p : Prop} [Decidable p] (h : p) : bI (decide p) = nI 1 := by rw [decide_eq_true h]; rfl
theorem dec_f {p : Prop} [Decidable p] (h : ¬ p) : bI (decide p) = nI 0 := by rw [decide_eq_false h]; rfl
set_option maxHeartbeats 4000000 in
/-- in(v, a, b) -/
theorem c_in (E : Ev) (d : Nat) (M : PM) (v a b : Int64) : Ci E d mX9_in [.long v, .long a, .long b] M (fun r N => r = bI (decide (a.toInt ≤ v.toInt ∧ v.toInt ≤ b.toInt)) ∧ M = N) := by
  refine Ct.ofz [some (.long v), none, some (.long a), none, some (.long b), none] (own := RX9) rfl (by decide) (Nat.le_of_ble_eq_true rfl) rfl (fun C hR => ?_)
  refine x_lload_n dX9_in_0 rfl rfl ?_
  refine x_lload_n dX9_in_1 rfl rfl ?_
  refine x_lcmp dX9_in_2 ?_
  refine x_if_lt (tgt := 17) dX9_in_3 (by decide) (fun hc => ?_) (fun hc => ?_)
  · rw [lg_cmp_lt, Int64.lt_iff_toInt_lt] at hc
    refine x_iconst (v := nI 0) dX9_in_17 (by decide) ?_
    exact hR _ _ _ _ dX9_in_18 (by first | exact bI_n _ | decide) (⟨(dec_f (by omega)).symm, rfl⟩)
  · rw [lg_cmp_lt, Int64.lt_iff_toInt_lt] at hc
    refine x_lload_n dX9_in_6 rfl rfl ?_
    refine x_lload dX9_in_7 rfl ?_
    refine x_lcmp dX9_in_9 ?_
    refine x_if_gt (tgt := 17) dX9_in_10 (by decide) (fun hc => ?_) (fun hc => ?_)
    · rw [lg_cmp_gt, Int64.lt_iff_toInt_lt] at hc
      refine x_iconst (v := nI 0) dX9_in_17 (by decide) ?_
      exact hR _ _ _ _ dX9_in_18 (by first | exact bI_n _ | decide) (⟨(dec_f (by omega)).symm, rfl⟩)
    · rw [lg_cmp_gt, Int64.lt_iff_toInt_lt] at hc
      refine x_iconst (v := nI 1) dX9_in_13 (by decide) ?_
      refine x_goto (tgt := 18) dX9_in_14 (by decide) ?_
      exact hR _ _ _ _ dX9_in_18 (by first | exact bI_n _ | decide) (⟨(dec_t (by omega)).symm, rfl⟩)
set_option maxHeartbeats 4000000 in
/-- isIn(set, k) -/
theorem c_isIn (E : Ev) (d : Nat) (M : PM) (s k : Nat) (hs : s < 2147483648) (hk : k < 31) : Ci E d mX9_isIn [.int (nI s), .int (nI k)] M (fun r N => r = bI (decide (s / 2 ^ k % 2 = 1)) ∧ M = N) := by
  refine Ct.ofz [some (.int (nI s)), some (.int (nI k))] (own := RX9) rfl (by decide) (Nat.le_of_ble_eq_true rfl) rfl (fun C hR => ?_)
  refine x_iload_n dX9_isIn_0 rfl rfl ?_
  refine x_iload_n dX9_isIn_1 rfl rfl ?_
  refine x_ishrN dX9_isIn_2 (by omega) (by omega) ?_
  refine x_iconst (v := nI 1) dX9_isIn_3 (by decide) ?_
  refine x_and1N dX9_isIn_4 ?_
  refine x_iconst (v := nI 1) dX9_isIn_5 (by decide) ?_
  refine x_icmp_neN (tgt := 13) dX9_isIn_6 (by decide) (by omega) (by omega) (fun hc => ?_) (fun hc => ?_)
  · refine x_iconst (v := nI 0) dX9_isIn_13 (by decide) ?_
    exact hR _ _ _ _ dX9_isIn_14 (by first | exact bI_n _ | decide) (⟨(dec_f (by omega)).symm, rfl⟩)
  · refine x_iconst (v := nI 1) dX9_isIn_9 (by decide) ?_
    refine x_goto (tgt := 14) dX9_isIn_10 (by decide) ?_
    exact hR _ _ _ _ dX9_isIn_14 (by first | exact bI_n _ | decide) (⟨(dec_t (by omega)).symm, rfl⟩)
/-- how many bits, of the lowest five -/
def pop (s : Nat) : Nat := fb_sm (fun k => s / 2 ^ k % 2) 5
set_option maxHeartbeats 4000000 in
theorem c_many (E : Ev) (d : Nat) (M : PM) (s : Nat) (hs : s < 2147483648) : Ci E d mX9_many [.int (nI s)] M (fun r N => r = nI (pop s) ∧ M = N) := by
  refine Ct.ofi [some (.int (nI s)), none, none] (own := RX9) rfl (by decide) (Nat.le_of_ble_eq_true rfl) rfl (fun C hR => ?_)
  refine x_iconst (v := nI 0) dX9_many_0 (by decide) ?_
  refine xis3_1 dX9_many_1 rfl ?_
  refine x_iconst (v := nI 0) dX9_many_2 (by decide) ?_
  refine xis3_2 dX9_many_3 rfl ?_
  have key : ∀ i, i ≤ 5 → X E d RX9 cX9_many 3 C 4 [some (.int (nI s)), some (.int (nI (fb_sm (fun k => s / 2 ^ k % 2) i))), some (.int (nI i))] [] M := by
    refine up_loop 5 ?_ ?_
    · refine x_iload_n dX9_many_4 rfl rfl ?_
      refine x_iconst (v := nI 5) dX9_many_5 (by decide) ?_
      refine x_icmp_geN (tgt := 23) dX9_many_6 (by decide) (by omega) (by omega) (fun hc => ?_) (fun hc => ?_)
      · refine x_iload_n dX9_many_23 rfl rfl ?_
        exact hR _ _ _ _ dX9_many_24 (⟨rfl, rfl⟩)
      · exact absurd hc (by omega)
    · intro i hi ih
      refine x_iload_n dX9_many_4 rfl rfl ?_
      refine x_iconst (v := nI 5) dX9_many_5 (by decide) ?_
      refine x_icmp_geN (tgt := 23) dX9_many_6 (by decide) (by omega) (by omega) (fun hc => ?_) (fun hc => ?_)
      · exact absurd hc (by omega)
      · refine x_iload_n dX9_many_9 rfl rfl ?_
        refine x_iload_n dX9_many_10 rfl rfl ?_
        refine x_iload_n dX9_many_11 rfl rfl ?_
        refine x_ishrN dX9_many_12 (by omega) (by omega) ?_
        refine x_iconst (v := nI 1) dX9_many_13 (by decide) ?_
        refine x_and1N dX9_many_14 ?_
        refine x_iaddN dX9_many_15 ?_
        refine xis3_1 dX9_many_16 rfl ?_
        refine xinc3_2N dX9_many_17 rfl ?_
        refine x_goto (tgt := 4) dX9_many_20 (by decide) ?_
        exact ih
  exact key 0 (by omega)
set_option maxHeartbeats 4000000 in
theorem c_power (E : Ev) (d : Nat) (M : PM) (a n : Nat) (hn : n < 1000) : Ci E d mX9_power [.int (nI a), .int (nI n)] M (fun r N => r = nI (a ^ n) ∧ M = N) := by
  refine Ct.ofi [some (.int (nI a)), some (.int (nI n)), none, none] (own := RX9) rfl (by decide) (Nat.le_of_ble_eq_true rfl) rfl (fun C hR => ?_)
  refine x_iconst (v := nI 1) dX9_power_0 (by decide) ?_
  refine xis4_2 dX9_power_1 rfl ?_
  refine x_iconst (v := nI 0) dX9_power_2 (by decide) ?_
  refine xis4_3 dX9_power_3 rfl ?_
  have key : ∀ i, i ≤ n → X E d RX9 cX9_power 4 C 4 [some (.int (nI a)), some (.int (nI n)), some (.int (nI (a ^ i))), some (.int (nI i))] [] M := by
    refine up_loop n ?_ ?_
    · refine x_iload_n dX9_power_4 rfl rfl ?_
      refine x_iload_n dX9_power_5 rfl rfl ?_
      refine x_icmp_geN (tgt := 19) dX9_power_6 (by decide) (by omega) (by omega) (fun hc => ?_) (fun hc => ?_)
      · refine x_iload_n dX9_power_19 rfl rfl ?_
        exact hR _ _ _ _ dX9_power_20 (⟨rfl, rfl⟩)
      · exact absurd hc (by omega)
    · intro i hi ih
      refine x_iload_n dX9_power_4 rfl rfl ?_
      refine x_iload_n dX9_power_5 rfl rfl ?_
      refine x_icmp_geN (tgt := 19) dX9_power_6 (by decide) (by omega) (by omega) (fun hc => ?_) (fun hc => ?_)
      · exact absurd hc (by omega)
      · refine x_iload_n dX9_power_9 rfl rfl ?_
        refine x_iload_n dX9_power_10 rfl rfl ?_
        refine x_imulN dX9_power_11 ?_
        refine xis4_2 dX9_power_12 rfl ?_
        refine xinc4_3N dX9_power_13 rfl ?_
        refine x_goto (tgt := 4) dX9_power_16 (by decide) ?_
        exact ih
  exact key 0 (by omega)
set_option maxHeartbeats 4000000 in
theorem c_copyRow (E : Ev) (d : Nat) (M : PM) (c0 c1 n n0 n1 : Nat) (h0 : lay c0 = .inl (0, n0)) (h1 : lay c1 = .inl (0, n1)) (hc0 : c0 < cK) (hc1 : c1 < cK) (hne : c0 ≠ c1) (hn0 : n ≤ n0) (hn1 : n ≤ n1) (hb0 : n0 < 1000) (hb1 : n1 < 1000) : Cv E d mX9_copyRow [.ref (ad E c0), .ref (ad E c1), .int (nI n)] M (fun N => N = sa M c1 (fa_fill (M.1 c0) (M.1 c1) n)) := by
  refine Ct.ofv [some (.ref (ad E c0)), some (.ref (ad E c1)), some (.int (nI n)), none] (own := RX9) rfl (by decide) (Nat.le_of_ble_eq_true rfl) rfl (fun C hR => ?_)
  refine x_iconst (v := nI 0) dX9_copyRow_0 (by decide) ?_
  refine xis4_3 dX9_copyRow_1 rfl ?_
  have key : ∀ i, i ≤ n → X E d RX9 cX9_copyRow 4 C 2 [some (.ref (ad E c0)), some (.ref (ad E c1)), some (.int (nI n)), some (.int (nI i))] [] (sa M c1 (fa_fill (M.1 c0) (M.1 c1) i)) := by
    refine up_loop n ?_ ?_
    · refine x_iload_n dX9_copyRow_2 rfl rfl ?_
      refine x_iload_n dX9_copyRow_3 rfl rfl ?_
      refine x_icmp_geN (tgt := 19) dX9_copyRow_4 (by decide) (by omega) (by omega) (fun hc => ?_) (fun hc => ?_)
      · exact hR _ _ _ dX9_copyRow_19 (rfl)
      · exact absurd hc (by omega)
    · intro i hi ih
      refine x_iload_n dX9_copyRow_2 rfl rfl ?_
      refine x_iload_n dX9_copyRow_3 rfl rfl ?_
      refine x_icmp_geN (tgt := 19) dX9_copyRow_4 (by decide) (by omega) (by omega) (fun hc => ?_) (fun hc => ?_)
      · exact absurd hc (by omega)
      · refine x_aload_n dX9_copyRow_7 rfl rfl ?_
        refine x_iload_n dX9_copyRow_8 rfl rfl ?_
        refine x_aload_n dX9_copyRow_9 rfl rfl ?_
        refine x_iload_n dX9_copyRow_10 rfl rfl ?_
        refine x_ialdN dX9_copyRow_11 h0 hc0 (by omega) (by omega) (by rw [sa_ne hne]) ?_
        refine x_iastN dX9_copyRow_12 h1 hc1 (by omega) (by omega) ?_
        refine xinc4_3N dX9_copyRow_13 rfl ?_
        refine x_goto (tgt := 2) dX9_copyRow_16 (by decide) ?_
        rw [sa_1, sa_sa, fa_fill_succ]
        exact ih
  have := key 0 (by omega)
  rw [fa_fill_0, sa_self] at this
  exact this
def fct : Nat → Nat
  | 0 => 1
  | n + 1 => fct n * (n + 1)
set_option maxHeartbeats 4000000 in
theorem c_ways (E : Ev) (d : Nat) (M : PM) (n : Nat) (hn : n < 1000) : Ci E d mX9_ways [.int (nI n)] M (fun r N => r = nI (fct n) ∧ M = N) := by
  refine Ct.ofi [some (.int (nI n)), none, none] (own := RX9) rfl (by decide) (Nat.le_of_ble_eq_true rfl) rfl (fun C hR => ?_)
  refine x_iconst (v := nI 1) dX9_ways_0 (by decide) ?_
  refine xis3_1 dX9_ways_1 rfl ?_
  refine x_iconst (v := nI 2) dX9_ways_2 (by decide) ?_
  refine xis3_2 dX9_ways_3 rfl ?_
  by_cases h0 : n = 0
  · subst h0
    refine x_iload_n dX9_ways_4 rfl rfl ?_
    refine x_iload_n dX9_ways_5 rfl rfl ?_
    refine x_icmp_gtN (tgt := 19) dX9_ways_6 (by decide) (by omega) (by omega) (fun hc => ?_) (fun hc => ?_)
    · refine x_iload_n dX9_ways_19 rfl rfl ?_
      exact hR _ _ _ _ dX9_ways_20 (⟨rfl, rfl⟩)
    · exact absurd hc (by omega)
  have key : ∀ i, i ≤ n - 1 → X E d RX9 cX9_ways 3 C 4 [some (.int (nI n)), some (.int (nI (fct (i + 1)))), some (.int (nI (i + 2)))] [] M := by
    refine up_loop (n - 1) ?_ ?_
    · refine x_iload_n dX9_ways_4 rfl rfl ?_
      refine x_iload_n dX9_ways_5 rfl rfl ?_
      refine x_icmp_gtN (tgt := 19) dX9_ways_6 (by decide) (by omega) (by omega) (fun hc => ?_) (fun hc => ?_)
      · refine x_iload_n dX9_ways_19 rfl rfl ?_
        exact hR _ _ _ _ dX9_ways_20 (⟨by rw [show n - 1 + 1 = n by omega], rfl⟩)
      · exact absurd hc (by omega)
    · intro i hi ih
      refine x_iload_n dX9_ways_4 rfl rfl ?_
      refine x_iload_n dX9_ways_5 rfl rfl ?_
      refine x_icmp_gtN (tgt := 19) dX9_ways_6 (by decide) (by omega) (by omega) (fun hc => ?_) (fun hc => ?_)
      · exact absurd hc (by omega)
      · refine x_iload_n dX9_ways_9 rfl rfl ?_
        refine x_iload_n dX9_ways_10 rfl rfl ?_
        refine x_imulN dX9_ways_11 ?_
        refine xis3_1 dX9_ways_12 rfl ?_
        refine xinc3_2N dX9_ways_13 rfl ?_
        refine x_goto (tgt := 4) dX9_ways_16 (by decide) ?_
        exact ih
  exact key 0 (by omega)
set_option maxHeartbeats 4000000 in
theorem c_divisor (E : Ev) (d : Nat) (M : PM) (a q : Nat) (ha : a < 2147483648) (hq : q < 2147483648) : Ci E d mX9_divisor [.int (nI a), .int (nI q)] M (fun r N => r = nI (Nat.gcd a q) ∧ M = N) := by
  refine Ct.ofi [some (.int (nI a)), some (.int (nI q)), none, none, none] (own := RX9) rfl (by decide) (Nat.le_of_ble_eq_true rfl) rfl (fun C hR => ?_)
  refine x_iload_n dX9_divisor_0 rfl rfl ?_
  refine x_if_geN (tgt := 9) dX9_divisor_1 (by decide) (by omega) ?_
  refine x_iload_n dX9_divisor_9 rfl rfl ?_
  refine xis5_2 dX9_divisor_10 rfl ?_
  refine x_iload_n dX9_divisor_11 rfl rfl ?_
  refine xis5_3 dX9_divisor_12 rfl ?_
  have key : ∀ n y, y ≤ n → y < 2147483648 → ∀ x, x < 2147483648 → Nat.gcd x y = Nat.gcd a q → ∀ l4, X E d RX9 cX9_divisor 5 C 13 [some (.int (nI a)), some (.int (nI q)), some (.int (nI x)), some (.int (nI y)), l4] [] M := by
    intro n
    induction n with
    | zero =>
      intro y hy _ x hx hg l4
      have : y = 0 := Nat.le_zero.mp hy
      subst this
      refine x_iload_n dX9_divisor_13 rfl rfl ?_
      refine x_if_eqN (tgt := 30) dX9_divisor_14 (by decide) (by omega) (fun hc => ?_) (fun hc => ?_)
      · refine x_iload_n dX9_divisor_30 rfl rfl ?_
        exact hR _ _ _ _ dX9_divisor_31 (⟨by rw [← hg, Nat.gcd_zero_right], rfl⟩)
      · exact absurd rfl hc
    | succ n ih =>
      intro y hy hyb x hx hg l4
      refine x_iload_n dX9_divisor_13 rfl rfl ?_
      refine x_if_eqN (tgt := 30) dX9_divisor_14 (by decide) (by omega) (fun hc => ?_) (fun hc => ?_)
      · subst hc
        refine x_iload_n dX9_divisor_30 rfl rfl ?_
        exact hR _ _ _ _ dX9_divisor_31 (⟨by rw [← hg, Nat.gcd_zero_right], rfl⟩)
      · refine x_iload_n dX9_divisor_17 rfl rfl ?_
        refine x_iload_n dX9_divisor_18 rfl rfl ?_
        refine x_iremN dX9_divisor_19 (by omega) (by omega) (by omega) ?_
        refine xis5_4 dX9_divisor_20 rfl ?_
        refine x_iload_n dX9_divisor_22 rfl rfl ?_
        refine xis5_2 dX9_divisor_23 rfl ?_
        refine x_iload dX9_divisor_24 rfl ?_
        refine xis5_3 dX9_divisor_26 rfl ?_
        refine x_goto (tgt := 13) dX9_divisor_27 (by decide) ?_
        have h1 : x % y < y := Nat.mod_lt _ (by omega)
        exact ih (x % y) (by omega) (by omega) y hyb (by rw [← hg, Nat.gcd_comm y, ← Nat.gcd_rec, Nat.gcd_comm]) _
  exact key q q (Nat.le_refl _) hq a ha rfl none
set_option maxHeartbeats 4000000 in
theorem c_fractionM (E : Ev) (d : Nat) (M : PM) (a q : Nat) (p : Int32) (ha : a < 2147483648) (hq : q < 2147483648) (hq0 : 0 < q) : Ci E (d + 1) mX9_fraction [.int (nI a), .int (nI q), .int p] M (fun r N => r = (if p = 0 then nI (q / Nat.gcd a q) else nI (a / Nat.gcd a q)) ∧ M = N) := by
  have hg : 0 < Nat.gcd a q := Nat.gcd_pos_of_pos_right _ hq0
  have hg2 : Nat.gcd a q ≤ q := Nat.le_of_dvd hq0 (Nat.gcd_dvd_right a q)
  refine Ct.ofi [some (.int (nI a)), some (.int (nI q)), some (.int p), none] (own := RX9) rfl (by decide) (Nat.le_of_ble_eq_true rfl) rfl (fun C hR => ?_)
  refine x_iload_n dX9_fraction_0 rfl rfl ?_
  refine x_iload_n dX9_fraction_1 rfl rfl ?_
  refine x_callSi dX9_fraction_2 msX9_divisor kX9_210 (c_divisor E d M a q ha hq) (by omega) rfl rfl (Nat.le_of_ble_eq_true rfl) ?_
  rintro _ _ ⟨rfl, rfl⟩
  refine xis4_3 dX9_fraction_5 rfl ?_
  refine x_iload_n dX9_fraction_6 rfl rfl ?_
  refine x_if_eq (tgt := 16) dX9_fraction_7 (by decide) (fun hc => ?_) (fun hc => ?_)
  · refine x_iload_n dX9_fraction_16 rfl rfl ?_
    refine x_iload_n dX9_fraction_17 rfl rfl ?_
    refine x_idivN dX9_fraction_18 (by omega) (by omega) (by omega) ?_
    exact hR _ _ _ _ dX9_fraction_19 (⟨by rw [if_pos hc], rfl⟩)
  · refine x_iload_n dX9_fraction_10 rfl rfl ?_
    refine x_iload_n dX9_fraction_11 rfl rfl ?_
    refine x_idivN dX9_fraction_12 (by omega) (by omega) (by omega) ?_
    refine x_goto (tgt := 19) dX9_fraction_13 (by decide) ?_
    exact hR _ _ _ _ dX9_fraction_19 (⟨by rw [if_neg hc], rfl⟩)
-- ===== the library's =====
set_option maxHeartbeats 4000000 in
theorem c_fill (E : Ev) (d : Nat) (M : PM) (c n : Nat) (v : Int32) (h0 : lay c = .inl (0, n)) (hc0 : c < cK) (hb : n < 1000) : Cv E d mJ7_fill_53178 [.ref (ad E c), .int v] M (fun N => N = sa M c (fa_fill (fun _ => v) (M.1 c) n)) := by
  refine Ct.ofv [some (.ref (ad E c)), some (.int v), none, none] (own := RJ7) rfl (by decide) (Nat.le_of_ble_eq_true rfl) rfl (fun C hR => ?_)
  refine x_iconst (v := nI 0) dJ7_fill_53178_0 (by decide) ?_
  refine xis4_2 dJ7_fill_53178_1 rfl ?_
  refine x_aload_n dJ7_fill_53178_2 rfl rfl ?_
  refine x_alen dJ7_fill_53178_3 (v := nI n) h0 hc0 rfl ?_
  refine xis4_3 dJ7_fill_53178_4 rfl ?_
  have key : ∀ i, i ≤ n → X E d RJ7 cJ7_fill_53178 4 C 5 [some (.ref (ad E c)), some (.int v), some (.int (nI i)), some (.int (nI n))] [] (sa M c (fa_fill (fun _ => v) (M.1 c) i)) := by
    refine up_loop n ?_ ?_
    · refine x_iload_n dJ7_fill_53178_5 rfl rfl ?_
      refine x_iload_n dJ7_fill_53178_6 rfl rfl ?_
      refine x_icmp_geN (tgt := 20) dJ7_fill_53178_7 (by decide) (by omega) (by omega) (fun hc => ?_) (fun hc => ?_)
      · exact hR _ _ _ dJ7_fill_53178_20 (rfl)
      · exact absurd hc (by omega)
    · intro i hi ih
      refine x_iload_n dJ7_fill_53178_5 rfl rfl ?_
      refine x_iload_n dJ7_fill_53178_6 rfl rfl ?_
      refine x_icmp_geN (tgt := 20) dJ7_fill_53178_7 (by decide) (by omega) (by omega) (fun hc => ?_) (fun hc => ?_)
      · exact absurd hc (by omega)
      · refine x_aload_n dJ7_fill_53178_10 rfl rfl ?_
        refine x_iload_n dJ7_fill_53178_11 rfl rfl ?_
        refine x_iload_n dJ7_fill_53178_12 rfl rfl ?_
        refine x_iastN dJ7_fill_53178_13 h0 hc0 (by omega) (by omega) ?_
        refine xinc4_2N dJ7_fill_53178_14 rfl ?_
        refine x_goto (tgt := 5) dJ7_fill_53178_17 (by decide) ?_
        rw [sa_1, sa_sa]
        have e := fa_fill_succ (fun _ => v) (M.1 c) i
        rw [e]
        exact ih
  have := key 0 (by omega)
  rw [fa_fill_0, sa_self] at this
  exact this
def nestN : List MethodName := nestW.filterMap (fun w => match w with
  | .methodLinkNest _ _ y _ => some y
  | _ => none)
theorem nn_of {y : MethodName} (h : y ∉ nestN) (own : String) (index : Nat) (host : String) : Cond.methodLinkNest own index y host ∉ nestW := by
  intro hm
  exact h (List.mem_filterMap.mpr ⟨_, hm, rfl⟩)
theorem nn_max : ∀ own index host, Cond.methodLinkNest own index yJ9_max_7cf53 host ∉ nestW := nn_of (by decide +kernel)
theorem nn_min : ∀ own index host, Cond.methodLinkNest own index yJ9_min_7cf53 host ∉ nestW := nn_of (by decide +kernel)
theorem nn_abs : ∀ own index host, Cond.methodLinkNest own index yJ9_abs_0f7a4 host ∉ nestW := nn_of (by decide +kernel)
section XMath
variable {E : Ev} {d : Nat} {own : String} {b : ByteArray} {nL : Nat} {C : Cx} {pc : Nat} {L : List (Option Value)} {st : List Value} {M : PM}
theorem x_mmax {index : Nat} {x y : Int32} (hd : decode b pc = .ok (.invokestatic index, 3)) (hlk : Cond.methodLink own index yJ9_max_7cf53 ∈ tblG ∨ ∃ host, Cond.methodLinkNest own index yJ9_max_7cf53 host ∈ nestW) (hd1 : 1 ≤ d) (hw : (st.map fun v => v.category).sum ≤ 8) (kk : X E d own b nL C (pc + 3) L (.int (if x < y then y else x) :: st) M) : X E d own b nL C pc L (.int y :: .int x :: st) M := by
  obtain ⟨p, e, R, s, m, args, below, meth, c, cs, Q⟩ := C
  intro ok H locs ls hP hS hl
  obtain ⟨o1, o2, o3, o4, o5, o6, o7, o8, o9, o10, o11⟩ := id ok
  have hlk' : Cond.methodLink own index yJ9_max_7cf53 ∈ tblG := by
    rcases hlk with h | ⟨host, h⟩
    · exact h
    · exact absurd h (nn_max own index host)
  exact va_mmax o1 o2 (o3.trans hl.1.symm) o4 (o5 _ hlk') (o5 _ (by decide +kernel)) (o5 _ (by decide +kernel)) (o5 _ (by decide +kernel)) (by omega) (by omega) o10 o11 hd (kk ok H locs ls hP hS hl)
theorem x_mmin {index : Nat} {x y : Int32} (hd : decode b pc = .ok (.invokestatic index, 3)) (hlk : Cond.methodLink own index yJ9_min_7cf53 ∈ tblG ∨ ∃ host, Cond.methodLinkNest own index yJ9_min_7cf53 host ∈ nestW) (hd1 : 1 ≤ d) (hw : (st.map fun v => v.category).sum ≤ 8) (kk : X E d own b nL C (pc + 3) L (.int (if y < x then y else x) :: st) M) : X E d own b nL C pc L (.int y :: .int x :: st) M := by
  obtain ⟨p, e, R, s, m, args, below, meth, c, cs, Q⟩ := C
  intro ok H locs ls hP hS hl
  obtain ⟨o1, o2, o3, o4, o5, o6, o7, o8, o9, o10, o11⟩ := id ok
  have hlk' : Cond.methodLink own index yJ9_min_7cf53 ∈ tblG := by
    rcases hlk with h | ⟨host, h⟩
    · exact h
    · exact absurd h (nn_min own index host)
  exact va_mmin o1 o2 (o3.trans hl.1.symm) o4 (o5 _ hlk') (o5 _ (by decide +kernel)) (o5 _ (by decide +kernel)) (o5 _ (by decide +kernel)) (by omega) (by omega) o10 o11 hd (kk ok H locs ls hP hS hl)
theorem x_mabs {index : Nat} {x : Int32} (hd : decode b pc = .ok (.invokestatic index, 3)) (hlk : Cond.methodLink own index yJ9_abs_0f7a4 ∈ tblG ∨ ∃ host, Cond.methodLinkNest own index yJ9_abs_0f7a4 host ∈ nestW) (hd1 : 1 ≤ d) (hw : (st.map fun v => v.category).sum ≤ 8) (kk : X E d own b nL C (pc + 3) L (.int (if 0 ≤ x then x else 0 - x) :: st) M) : X E d own b nL C pc L (.int x :: st) M := by
  obtain ⟨p, e, R, s, m, args, below, meth, c, cs, Q⟩ := C
  intro ok H locs ls hP hS hl
  obtain ⟨o1, o2, o3, o4, o5, o6, o7, o8, o9, o10, o11⟩ := id ok
  have hlk' : Cond.methodLink own index yJ9_abs_0f7a4 ∈ tblG := by
    rcases hlk with h | ⟨host, h⟩
    · exact h
    · exact absurd h (nn_abs own index host)
  exact va_mabs o1 o2 (o3.trans hl.1.symm) o4 (o5 _ hlk') (o5 _ (by decide +kernel)) (o5 _ (by decide +kernel)) (o5 _ (by decide +kernel)) (by omega) (by omega) o10 o11 hd (kk ok H locs ls hP hS hl)
end XMath
def bcI (x : Int32) : Int32 :=
  let a := x - ((x.toUInt32 >>> ((nI 1).toUInt32 &&& Int32.toUInt32 31)).toInt32 &&& 1431655765)
  let b := (a &&& 858993459) + ((a.toUInt32 >>> ((nI 2).toUInt32 &&& Int32.toUInt32 31)).toInt32 &&& 858993459)
  let c := (b + (b.toUInt32 >>> ((nI 4).toUInt32 &&& Int32.toUInt32 31)).toInt32) &&& 252645135
  let e := c + (c.toUInt32 >>> ((nI 8).toUInt32 &&& Int32.toUInt32 31)).toInt32
  let f := e + (e.toUInt32 >>> ((nI 16).toUInt32 &&& Int32.toUInt32 31)).toInt32
  f &&& nI 63
theorem bcI_pop : ∀ s, s < 32 → bcI (nI s) = nI (pop s) := by decide +kernel
set_option maxHeartbeats 4000000 in
theorem c_bitCount (E : Ev) (d : Nat) (M : PM) (s : Nat) (hs : s < 32) : Ci E d mJ6_bitCount_0f7a4 [.int (nI s)] M (fun r N => r = nI (pop s) ∧ M = N) := by
  refine Ct.ofi [some (.int (nI s))] (own := RJ6) rfl (by decide) (Nat.le_of_ble_eq_true rfl) rfl (fun C hR => ?_)
  refine x_iload_n dJ6_bitCount_0f7a4_0 rfl rfl ?_
  refine x_iload_n dJ6_bitCount_0f7a4_1 rfl rfl ?_
  refine x_iconst (v := nI 1) dJ6_bitCount_0f7a4_2 (by decide) ?_
  refine x_iushr dJ6_bitCount_0f7a4_3 ?_
  refine x_ldcw dJ6_bitCount_0f7a4_4 qJ6_265 ?_
  refine x_iand dJ6_bitCount_0f7a4_7 ?_
  refine x_isub dJ6_bitCount_0f7a4_8 ?_
  refine xis1_0 dJ6_bitCount_0f7a4_9 ?_
  refine x_iload_n dJ6_bitCount_0f7a4_10 rfl rfl ?_
  refine x_ldcw dJ6_bitCount_0f7a4_11 qJ6_266 ?_
  refine x_iand dJ6_bitCount_0f7a4_14 ?_
  refine x_iload_n dJ6_bitCount_0f7a4_15 rfl rfl ?_
  refine x_iconst (v := nI 2) dJ6_bitCount_0f7a4_16 (by decide) ?_
  refine x_iushr dJ6_bitCount_0f7a4_17 ?_
  refine x_ldcw dJ6_bitCount_0f7a4_18 qJ6_266 ?_
  refine x_iand dJ6_bitCount_0f7a4_21 ?_
  refine x_iadd dJ6_bitCount_0f7a4_22 ?_
  refine xis1_0 dJ6_bitCount_0f7a4_23 ?_
  refine x_iload_n dJ6_bitCount_0f7a4_24 rfl rfl ?_
  refine x_iload_n dJ6_bitCount_0f7a4_25 rfl rfl ?_
  refine x_iconst (v := nI 4) dJ6_bitCount_0f7a4_26 (by decide) ?_
  refine x_iushr dJ6_bitCount_0f7a4_27 ?_
  refine x_iadd dJ6_bitCount_0f7a4_28 ?_
  refine x_ldcw dJ6_bitCount_0f7a4_29 qJ6_267 ?_
  refine x_iand dJ6_bitCount_0f7a4_32 ?_
  refine xis1_0 dJ6_bitCount_0f7a4_33 ?_
  refine x_iload_n dJ6_bitCount_0f7a4_34 rfl rfl ?_
  refine x_iload_n dJ6_bitCount_0f7a4_35 rfl rfl ?_
  refine x_bipush (v := nI 8) dJ6_bitCount_0f7a4_36 (by decide) ?_
  refine x_iushr dJ6_bitCount_0f7a4_38 ?_
  refine x_iadd dJ6_bitCount_0f7a4_39 ?_
  refine xis1_0 dJ6_bitCount_0f7a4_40 ?_
  refine x_iload_n dJ6_bitCount_0f7a4_41 rfl rfl ?_
  refine x_iload_n dJ6_bitCount_0f7a4_42 rfl rfl ?_
  refine x_bipush (v := nI 16) dJ6_bitCount_0f7a4_43 (by decide) ?_
  refine x_iushr dJ6_bitCount_0f7a4_45 ?_
  refine x_iadd dJ6_bitCount_0f7a4_46 ?_
  refine xis1_0 dJ6_bitCount_0f7a4_47 ?_
  refine x_iload_n dJ6_bitCount_0f7a4_48 rfl rfl ?_
  refine x_bipush (v := nI 63) dJ6_bitCount_0f7a4_49 (by decide) ?_
  refine x_iand dJ6_bitCount_0f7a4_51 ?_
  exact hR _ _ _ _ dJ6_bitCount_0f7a4_52 (⟨bcI_pop s hs, rfl⟩)
