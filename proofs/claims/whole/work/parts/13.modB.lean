-- ===== the reference: wires, and what is asked of a page =====
def tn (x : Int32) : Nat := x.toInt.toNat
theorem tn_nI {j : Nat} (h : j < 2147483648) : tn (nI j) = j := by unfold tn; rw [nI_toInt h]; rfl
/-- an index of n, or none -/
theorem ixc (x : Int32) (n : Nat) (hn : n < 2147483648) : (∃ j : Nat, j < n ∧ x = nI j ∧ x.toInt = (j : Int)) ∨ ¬ (0 ≤ x.toInt ∧ x.toInt < (n : Int)) := by
  by_cases h : 0 ≤ x.toInt ∧ x.toInt < (n : Int)
  · refine Or.inl ⟨x.toInt.toNat, by omega, ?_, by omega⟩
    apply Int32.toInt_inj.mp
    rw [nI_toInt (by omega)]
    omega
  · exact Or.inr h
theorem tl1 {n : Nat} (h : n < 1000) : ((nI n - nI 1).toInt64).toInt = (n : Int) - 1 := by
  rw [Int32.toInt_toInt64, pk_sub_toInt (by omega) (by omega)]
  rfl
theorem c_in3 (E : Ev) (d : Nat) (M : PM) (x : Int32) (a b : Int64) (A B : Int) (ha : a.toInt = A) (hb : b.toInt = B) : Ci E d mX9_in [.long x.toInt64, .long a, .long b] M (fun r N => r = bI (decide (A ≤ x.toInt ∧ x.toInt ≤ B)) ∧ M = N) := by
  have h := c_in E d M x.toInt64 a b
  rw [Int32.toInt_toInt64, ha, hb] at h
  exact h
theorem thr {M : PM} (h : M.1 40 0 = nI 0) : sa M 40 (upd (M.1 40) 0 (nI 0)) = M := by
  rw [fa_upd_same h, sa_self]
/-- what the calls that only look may change -/
def scr : List Nat := [40, 45, 46, 47, 48, 50, 56, 57, 58, 59, 8, 9, 10, 11, 12, 16, 17, 18, 32, 33, 37, 38, 39]
def scf : List Nat := [3, 10, 12, 14, 30, 31, 32, 33]
def Sc (M N : PM) : Prop := N.2 = M.2 ∧ (∀ c, c ∉ scr → N.1 c = M.1 c) ∧ ∀ k, k ∉ scf → N.1 40 k = M.1 40 k
theorem Sc.rf {M : PM} : Sc M M := ⟨rfl, fun _ _ => rfl, fun _ _ => rfl⟩
theorem Fr.Sc {M N : PM} {cs : List Nat} (h : Fr M N cs) (h1 : ∀ c ∈ cs, c ∈ scr) (h2 : 40 ∉ cs) : Sc M N :=
  ⟨h.1, fun c hc => h.2 c (fun e => hc (h1 c e)), fun k _ => by rw [h.2 40 h2]⟩
/-- the wire of a number, row by row; whether it is level -/
def wn (n k r : Nat) : Nat := k / 6 ^ (n - 1 - r) % 6
def lev (w : Nat → Nat) : Nat → Bool
  | 0 => true
  | r + 1 => lev w r && (decide (r = 0) || decide (w r ≤ w (r - 1) + 1 ∧ w (r - 1) ≤ w r + 1))
set_option maxHeartbeats 8000000 in
theorem c_figuresOf (E : Ev) (d : Nat) (M : PM) (p n : Nat) (q w : Nat → Nat) (hn : M.1 40 4 = nI n) (hp : Pg M p n q w) : Ci E d mX9_figuresOf [.ref (ad E 40), .ref (ad E p)] M (fun v N => v = nI (fig w n) ∧ M = N) := by
  have hn5 := hp.2.2.1
  refine Ct.ofi [some (.ref (ad E 40)), some (.ref (ad E p)), none, none] (own := RX9) rfl (by decide) (Nat.le_of_ble_eq_true rfl) rfl (fun C hR => ?_)
  refine x_iconst (v := nI 1) dX9_figuresOf_0 (by decide) ?_
  refine xis4_2 dX9_figuresOf_1 rfl ?_
  refine x_iconst (v := nI 0) dX9_figuresOf_2 (by decide) ?_
  refine xis4_3 dX9_figuresOf_3 rfl ?_
  have key : ∀ r, r ≤ n → X E d RX9 cX9_figuresOf 4 C 4 [some (.ref (ad E 40)), some (.ref (ad E p)), some (.int (nI (fig w r))), some (.int (nI r))] [] M := by
    refine up_loop n ?_ ?_
    · refine x_iload_n dX9_figuresOf_4 rfl rfl ?_
      refine x_aload_n dX9_figuresOf_5 rfl rfl ?_
      refine x_getv (hn) dX9_figuresOf_6 fX9_114 rfl rfl (by decide) ?_
      refine x_icmp_geN (tgt := 27) dX9_figuresOf_9 (by decide) (by omega) (by omega) (fun hc => ?_) (fun hc => ?_)
      · refine x_iload_n dX9_figuresOf_27 rfl rfl ?_
        exact hR _ _ _ _ dX9_figuresOf_28 (⟨rfl, rfl⟩)
      · exact absurd hc (by omega)
    · intro r hr ih
      refine x_iload_n dX9_figuresOf_4 rfl rfl ?_
      refine x_aload_n dX9_figuresOf_5 rfl rfl ?_
      refine x_getv (hn) dX9_figuresOf_6 fX9_114 rfl rfl (by decide) ?_
      refine x_icmp_geN (tgt := 27) dX9_figuresOf_9 (by decide) (by omega) (by omega) (fun hc => ?_) (fun hc => ?_)
      · exact absurd hc (by omega)
      refine x_bipush (v := nI 10) dX9_figuresOf_12 (by decide) ?_
      refine x_iload_n dX9_figuresOf_14 rfl rfl ?_
      refine x_imulN dX9_figuresOf_15 ?_
      refine x_aload_n dX9_figuresOf_16 rfl rfl ?_
      refine x_iload_n dX9_figuresOf_17 rfl rfl ?_
      refine x_ialdN dX9_figuresOf_18 hp.1 hp.2.1 (by omega) (by decide) ((hp.2.2.2.2 r hr).1) ?_
      refine x_iaddN dX9_figuresOf_19 ?_
      refine xis4_2 dX9_figuresOf_20 rfl ?_
      refine xinc4_3N dX9_figuresOf_21 rfl ?_
      refine x_goto (tgt := 4) dX9_figuresOf_24 (by decide) ?_
      exact ih
  exact key 0 (by omega)
set_option maxHeartbeats 8000000 in
theorem c_slipsOf (E : Ev) (d : Nat) (M : PM) (p n : Nat) (q w : Nat → Nat) (hn : M.1 40 4 = nI n) (hp : Pg M p n q w) : Ci E d mX9_slipsOf [.ref (ad E 40), .ref (ad E p)] M (fun v N => v = nI (slp w n) ∧ M = N) := by
  have hn5 := hp.2.2.1
  refine Ct.ofi [some (.ref (ad E 40)), some (.ref (ad E p)), none, none] (own := RX9) rfl (by decide) (Nat.le_of_ble_eq_true rfl) rfl (fun C hR => ?_)
  refine x_iconst (v := nI 0) dX9_slipsOf_0 (by decide) ?_
  refine xis4_2 dX9_slipsOf_1 rfl ?_
  refine x_iconst (v := nI 1) dX9_slipsOf_2 (by decide) ?_
  refine xis4_3 dX9_slipsOf_3 rfl ?_
  by_cases h0 : n = 0
  · refine x_iload_n dX9_slipsOf_4 rfl rfl ?_
    refine x_aload_n dX9_slipsOf_5 rfl rfl ?_
    refine x_getv (hn) dX9_slipsOf_6 fX9_114 rfl rfl (by decide) ?_
    refine x_icmp_geN (tgt := 37) dX9_slipsOf_9 (by decide) (by omega) (by omega) (fun hc => ?_) (fun hc => ?_)
    · refine x_iload_n dX9_slipsOf_37 rfl rfl ?_
      exact hR _ _ _ _ dX9_slipsOf_38 (⟨by rw [h0]; rfl, rfl⟩)
    · exact absurd hc (by omega)
  have key : ∀ r, r ≤ n - 1 → X E d RX9 cX9_slipsOf 4 C 4 [some (.ref (ad E 40)), some (.ref (ad E p)), some (.int (nI (fb_sm (fun r => if w (r + 1) ≠ w r then 1 else 0) r))), some (.int (nI (r + 1)))] [] M := by
    refine up_loop (n - 1) ?_ ?_
    · refine x_iload_n dX9_slipsOf_4 rfl rfl ?_
      refine x_aload_n dX9_slipsOf_5 rfl rfl ?_
      refine x_getv (hn) dX9_slipsOf_6 fX9_114 rfl rfl (by decide) ?_
      refine x_icmp_geN (tgt := 37) dX9_slipsOf_9 (by decide) (by omega) (by omega) (fun hc => ?_) (fun hc => ?_)
      · refine x_iload_n dX9_slipsOf_37 rfl rfl ?_
        exact hR _ _ _ _ dX9_slipsOf_38 (⟨rfl, rfl⟩)
      · exact absurd hc (by omega)
    · intro r hr ih
      have h1 := hp.2.2.2.2 r (by omega)
      have h2 := hp.2.2.2.2 (r + 1) (by omega)
      refine x_iload_n dX9_slipsOf_4 rfl rfl ?_
      refine x_aload_n dX9_slipsOf_5 rfl rfl ?_
      refine x_getv (hn) dX9_slipsOf_6 fX9_114 rfl rfl (by decide) ?_
      refine x_icmp_geN (tgt := 37) dX9_slipsOf_9 (by decide) (by omega) (by omega) (fun hc => ?_) (fun hc => ?_)
      · exact absurd hc (by omega)
      refine x_iload_n dX9_slipsOf_12 rfl rfl ?_
      refine x_aload_n dX9_slipsOf_13 rfl rfl ?_
      refine x_iload_n dX9_slipsOf_14 rfl rfl ?_
      refine x_ialdN dX9_slipsOf_15 hp.1 hp.2.1 (by omega) (by decide) (h2.1) ?_
      refine x_aload_n dX9_slipsOf_16 rfl rfl ?_
      refine x_iload_n dX9_slipsOf_17 rfl rfl ?_
      refine x_iconst (v := nI 1) dX9_slipsOf_18 (by decide) ?_
      refine x_isubN dX9_slipsOf_19 (by omega) ?_
      refine x_ialdN dX9_slipsOf_20 hp.1 hp.2.1 (by omega) (by decide) (h1.1) ?_
      rw [fb_sm_succ] at ih
      refine x_icmp_eqN (tgt := 28) dX9_slipsOf_21 (by decide) (by omega) (by omega) (fun hc => ?_) (fun hc => ?_)
      · refine x_iconst (v := nI 0) dX9_slipsOf_28 (by decide) ?_
        refine x_iaddN dX9_slipsOf_29 ?_
        refine xis4_2 dX9_slipsOf_30 rfl ?_
        refine xinc4_3N dX9_slipsOf_31 rfl ?_
        refine x_goto (tgt := 4) dX9_slipsOf_34 (by decide) ?_
        rw [if_neg (fun e => e hc)] at ih
        exact ih
      · refine x_iconst (v := nI 1) dX9_slipsOf_24 (by decide) ?_
        refine x_goto (tgt := 29) dX9_slipsOf_25 (by decide) ?_
        refine x_iaddN dX9_slipsOf_29 ?_
        refine xis4_2 dX9_slipsOf_30 rfl ?_
        refine xinc4_3N dX9_slipsOf_31 rfl ?_
        refine x_goto (tgt := 4) dX9_slipsOf_34 (by decide) ?_
        rw [if_pos hc] at ih
        exact ih
  exact key 0 (by omega)
theorem lev_step {w : Nat → Nat} {r : Nat} {p : Bool} (h : (decide (r = 0) || decide (w r ≤ w (r - 1) + 1 ∧ w (r - 1) ≤ w r + 1)) = p) : lev w (r + 1) = (lev w r && p) := by rw [← h]; rfl
set_option maxHeartbeats 8000000 in
theorem c_layWire (E : Ev) (d : Nat) (M : PM) (n k : Nat) (q w : Nat → Nat) (hn : M.1 40 4 = nI n) (hp : Pg M 49 n q w) (hk : k < 6 ^ n) : Ci E (d + 1) mX9_layWire [.ref (ad E 40), .int (nI k)] M (fun v N => v = bI (lev (wn n k) n) ∧ Fr M N [50, 58] ∧ (lev (wn n k) n = true → Pg N 50 n q (wn n k))) := by
  have hn5 := hp.2.2.1
  have h6 := p6 hn5
  refine Ct.ofz [some (.ref (ad E 40)), some (.int (nI k)), none, none] (own := RX9) rfl (by decide) (Nat.le_of_ble_eq_true rfl) rfl (fun C hR => ?_)
  refine x_iconst (v := nI 1) dX9_layWire_0 (by decide) ?_
  refine xis4_2 dX9_layWire_1 rfl ?_
  refine x_iconst (v := nI 0) dX9_layWire_2 (by decide) ?_
  refine xis4_3 dX9_layWire_3 rfl ?_
  have key : ∀ r, r ≤ n → ∀ N, Fr M N [50, 58] → (∀ r', r' < r → N.1 58 r' = nI (wn n k r')) → X E (d + 1) RX9 cX9_layWire 4 C 4 [some (.ref (ad E 40)), some (.int (nI k)), some (.int (bI (lev (wn n k) r))), some (.int (nI r))] [] N := by
    refine up_loop n ?_ ?_
    · intro N hN hw
      refine x_iload_n dX9_layWire_4 rfl rfl ?_
      refine x_aload_n dX9_layWire_5 rfl rfl ?_
      refine x_getv (hN.v (by decide) hn) dX9_layWire_6 fX9_114 rfl rfl (by decide) ?_
      refine x_icmp_geN (tgt := 82) dX9_layWire_9 (by decide) (by omega) (by omega) (fun hc => ?_) (fun hc => ?_)
      · refine x_iload_n dX9_layWire_82 rfl rfl ?_
        refine x_if_eqB (tgt := 114) dX9_layWire_83 (by decide) (fun hc => ?_) (fun hc => ?_)
        · refine x_iload_n dX9_layWire_114 rfl rfl ?_
          exact hR _ _ _ _ dX9_layWire_115 (by first | exact bI_n _ | decide) (⟨rfl, hN, fun h => by rw [h] at hc; cases hc⟩)
        · refine x_aload_n dX9_layWire_86 rfl rfl ?_
          refine x_getr dX9_layWire_87 fX9_34 rfl rfl (by decide) ?_
          refine x_aload_n dX9_layWire_90 rfl rfl ?_
          refine x_getr dX9_layWire_91 fX9_37 rfl rfl (by decide) ?_
          refine x_bipush (v := nI 31) dX9_layWire_94 (by decide) ?_
          refine x_callSv dX9_layWire_96 msX9_copyRow kX9_123 (c_copyRow E d N 49 50 31 31 31 rfl rfl (by decide) (by decide) (by decide) (by decide) (by decide) (by decide) (by decide)) (by omega) rfl rfl (Nat.le_of_ble_eq_true rfl) ?_
          rintro _ rfl
          refine x_aload_n dX9_layWire_99 rfl rfl ?_
          refine x_getr dX9_layWire_100 fX9_62 rfl rfl (by decide) ?_
          refine x_aload_n dX9_layWire_103 rfl rfl ?_
          refine x_getr dX9_layWire_104 fX9_37 rfl rfl (by decide) ?_
          refine x_aload_n dX9_layWire_107 rfl rfl ?_
          refine x_getv (sa_v (by decide) (hN.v (by decide) hn)) dX9_layWire_108 fX9_114 rfl rfl (by decide) ?_
          refine x_callSv dX9_layWire_111 msX9_copyRow kX9_123 (c_copyRow E d _ 58 50 n 5 31 rfl rfl (by decide) (by decide) (by decide) (by omega) (by omega) (by decide) (by decide)) (by omega) rfl rfl (Nat.le_of_ble_eq_true rfl) ?_
          rintro _ rfl
          refine x_iload_n dX9_layWire_114 rfl rfl ?_
          refine hR _ _ _ _ dX9_layWire_115 (bI_n _) ⟨rfl, (hN.sa (by decide)).sa (by decide), fun _ => ⟨rfl, by decide, hn5, fun r c hr hc5 => ⟨?_, (hp.2.2.2.1 r c hr hc5).2⟩, fun r hr => ⟨?_, ?_⟩⟩⟩
          · rw [sa_1, fa_fill_out (by omega), sa_1, fa_fill_in (by omega)]
            exact hN.v (by decide) (hp.2.2.2.1 r c hr hc5).1
          · rw [sa_1, fa_fill_in hr, sa_ne (by decide)]
            exact hw r hr
          · have : wn n k r < 6 := Nat.mod_lt _ (by decide)
            omega
      · exact absurd hc (by omega)
    · intro r hr ih N hN hw
      have hpw : 0 < 6 ^ (n - 1 - r) := Nat.pow_pos (by decide)
      have hpw2 : 6 ^ (n - 1 - r) ≤ 7776 := p6 (by omega)
      have hdv := Nat.div_le_self k (6 ^ (n - 1 - r))
      have hwr : wn n k r < 6 := Nat.mod_lt _ (by decide)
      have hwr1 : wn n k (r - 1) < 6 := Nat.mod_lt _ (by decide)
      refine x_iload_n dX9_layWire_4 rfl rfl ?_
      refine x_aload_n dX9_layWire_5 rfl rfl ?_
      refine x_getv (hN.v (by decide) hn) dX9_layWire_6 fX9_114 rfl rfl (by decide) ?_
      refine x_icmp_geN (tgt := 82) dX9_layWire_9 (by decide) (by omega) (by omega) (fun hc => ?_) (fun hc => ?_)
      · exact absurd hc (by omega)
      refine x_aload_n dX9_layWire_12 rfl rfl ?_
      refine x_getr dX9_layWire_13 fX9_62 rfl rfl (by decide) ?_
      refine x_iload_n dX9_layWire_16 rfl rfl ?_
      refine x_iload_n dX9_layWire_17 rfl rfl ?_
      refine x_bipush (v := nI 6) dX9_layWire_18 (by decide) ?_
      refine x_aload_n dX9_layWire_20 rfl rfl ?_
      refine x_getv (hN.v (by decide) hn) dX9_layWire_21 fX9_114 rfl rfl (by decide) ?_
      refine x_iconst (v := nI 1) dX9_layWire_24 (by decide) ?_
      refine x_isubN dX9_layWire_25 (by omega) ?_
      refine x_iload_n dX9_layWire_26 rfl rfl ?_
      refine x_isubN dX9_layWire_27 (by omega) ?_
      refine x_callSi dX9_layWire_28 msX9_power kX9_142 (c_power E d N 6 (n - 1 - r) (by omega)) (by omega) rfl rfl (Nat.le_of_ble_eq_true rfl) ?_
      rintro _ _ ⟨rfl, rfl⟩
      refine x_idivN dX9_layWire_31 (by omega) (by omega) (by omega) ?_
      refine x_bipush (v := nI 6) dX9_layWire_32 (by decide) ?_
      refine x_iremN dX9_layWire_34 (by omega) (by omega) (by omega) ?_
      refine x_iastN dX9_layWire_35 rfl (by decide) (by omega) (by decide) ?_
      refine x_iload_n dX9_layWire_36 rfl rfl ?_
      have hN' : Fr M (sa N 58 (upd (N.1 58) r (nI (wn n k r)))) [50, 58] := hN.sa (by decide)
      have hw' : ∀ r', r' < r + 1 → (sa N 58 (upd (N.1 58) r (nI (wn n k r)))).1 58 r' = nI (wn n k r') := by
        intro r' hr'
        rw [sa_1]
        by_cases e : r' = r
        · subst e; exact pk_us
        · rw [pk_un e]; exact hw r' (by omega)
      have ih2 := ih _ hN' hw'
      refine x_if_eqB (tgt := 74) dX9_layWire_37 (by decide) (fun hc => ?_) (fun hc => ?_)
      · refine x_iconst (v := nI 0) dX9_layWire_74 (by decide) ?_
        refine xis4_2 dX9_layWire_75 rfl ?_
        refine xinc4_3N dX9_layWire_76 rfl ?_
        refine x_goto (tgt := 4) dX9_layWire_79 (by decide) ?_
        rw [show lev (wn n k) (r + 1) = false by rw [lev, hc]; rfl] at ih2
        exact ih2
      have hlr := hc
      refine x_iload_n dX9_layWire_40 rfl rfl ?_
      refine x_if_eqN (tgt := 70) dX9_layWire_41 (by decide) (by omega) (fun hc => ?_) (fun hc => ?_)
      · refine x_iconst (v := nI 1) dX9_layWire_70 (by decide) ?_
        refine x_goto (tgt := 75) dX9_layWire_71 (by decide) ?_
        refine xis4_2 dX9_layWire_75 rfl ?_
        refine xinc4_3N dX9_layWire_76 rfl ?_
        refine x_goto (tgt := 4) dX9_layWire_79 (by decide) ?_
        rw [show lev (wn n k) (r + 1) = true by rw [lev, hlr, hc]; rfl] at ih2
        exact ih2
      have hr0 := hc
      have e49 : (sa N 58 (upd (N.1 58) r (nI (wn n k r)))).1 58 r = nI (wn n k r) := hw' r (by omega)
      have e57 : (sa N 58 (upd (N.1 58) r (nI (wn n k r)))).1 58 (r - 1) = nI (wn n k (r - 1)) := hw' (r - 1) (by omega)
      have eS := pk_sub_toInt (a := wn n k r) (b := wn n k (r - 1)) (by omega) (by omega)
      refine x_aload_n dX9_layWire_44 rfl rfl ?_
      refine x_getr dX9_layWire_45 fX9_62 rfl rfl (by decide) ?_
      refine x_iload_n dX9_layWire_48 rfl rfl ?_
      refine x_ialdN dX9_layWire_49 rfl (by decide) (by omega) (by decide) (e49) ?_
      refine x_aload_n dX9_layWire_50 rfl rfl ?_
      refine x_getr dX9_layWire_51 fX9_62 rfl rfl (by decide) ?_
      refine x_iload_n dX9_layWire_54 rfl rfl ?_
      refine x_iconst (v := nI 1) dX9_layWire_55 (by decide) ?_
      refine x_isubN dX9_layWire_56 (by omega) ?_
      refine x_ialdN dX9_layWire_57 rfl (by decide) (by omega) (by decide) (e57) ?_
      refine x_isub dX9_layWire_58 ?_
      refine x_i2l dX9_layWire_59 ?_
      refine x_ldc2 dX9_layWire_60 qX9_146 ?_
      refine x_lconst (v := 1) dX9_layWire_63 rfl ?_
      refine x_callSi dX9_layWire_64 msX9_in kX9_74 (c_in3 E d _ _ _ _ (-1) 1 rfl rfl) (by omega) rfl rfl (Nat.le_of_ble_eq_true rfl) ?_
      rintro _ _ ⟨rfl, rfl⟩
      refine x_if_eqB (tgt := 74) dX9_layWire_67 (by decide) (fun hc => ?_) (fun hc => ?_)
      · have h2 := of_decide_eq_false hc
        refine x_iconst (v := nI 0) dX9_layWire_74 (by decide) ?_
        refine xis4_2 dX9_layWire_75 rfl ?_
        refine xinc4_3N dX9_layWire_76 rfl ?_
        refine x_goto (tgt := 4) dX9_layWire_79 (by decide) ?_
        rw [show lev (wn n k) (r + 1) = false by rw [lev, hlr, decide_eq_false hr0, decide_eq_false (by omega)]; rfl] at ih2
        exact ih2
      · have h2 := of_decide_eq_true hc
        refine x_iconst (v := nI 1) dX9_layWire_70 (by decide) ?_
        refine x_goto (tgt := 75) dX9_layWire_71 (by decide) ?_
        refine xis4_2 dX9_layWire_75 rfl ?_
        refine xinc4_3N dX9_layWire_76 rfl ?_
        refine x_goto (tgt := 4) dX9_layWire_79 (by decide) ?_
        rw [show lev (wn n k) (r + 1) = true by rw [lev, hlr, decide_eq_false hr0, decide_eq_true (by omega)]; rfl] at ih2
        exact ih2
  exact key 0 (by omega) M Fr.rf (fun r' h => absurd h (by omega))
/-- how many wires are level -/
def lvc (n : Nat) : Nat := fb_sm (fun k => if lev (wn n k) n = true then 1 else 0) (6 ^ n)
set_option maxHeartbeats 8000000 in
theorem c_wires (E : Ev) (d : Nat) (M : PM) (n : Nat) (q w : Nat → Nat) (hn : M.1 40 4 = nI n) (hp : Pg M 49 n q w) : Ci E (d + 2) mX9_wires [.ref (ad E 40)] M (fun v N => v = nI (lvc n) ∧ Fr M N [50, 58]) := by
  have hn5 := hp.2.2.1
  have h6 := p6 hn5
  refine Ct.ofi [some (.ref (ad E 40)), none, none] (own := RX9) rfl (by decide) (Nat.le_of_ble_eq_true rfl) rfl (fun C hR => ?_)
  refine x_iconst (v := nI 0) dX9_wires_0 (by decide) ?_
  refine xis3_1 dX9_wires_1 rfl ?_
  refine x_iconst (v := nI 0) dX9_wires_2 (by decide) ?_
  refine xis3_2 dX9_wires_3 rfl ?_
  have key : ∀ i, i ≤ 6 ^ n → ∀ N, Fr M N [50, 58] → X E (d + 2) RX9 cX9_wires 3 C 4 [some (.ref (ad E 40)), some (.int (nI (fb_sm (fun k => if lev (wn n k) n = true then 1 else 0) i))), some (.int (nI i))] [] N := by
    refine up_loop (6 ^ n) ?_ ?_
    · intro N hN
      refine x_iload_n dX9_wires_4 rfl rfl ?_
      refine x_bipush (v := nI 6) dX9_wires_5 (by decide) ?_
      refine x_aload_n dX9_wires_7 rfl rfl ?_
      refine x_getv (hN.v (by decide) hn) dX9_wires_8 fX9_114 rfl rfl (by decide) ?_
      refine x_callSi dX9_wires_11 msX9_power kX9_142 (c_power E (d + 1) N 6 n (by omega)) (by omega) rfl rfl (Nat.le_of_ble_eq_true rfl) ?_
      rintro _ _ ⟨rfl, rfl⟩
      refine x_icmp_geN (tgt := 39) dX9_wires_14 (by decide) (by omega) (by omega) (fun hc => ?_) (fun hc => ?_)
      · refine x_iload_n dX9_wires_39 rfl rfl ?_
        exact hR _ _ _ _ dX9_wires_40 (⟨rfl, hN⟩)
      · exact absurd hc (by omega)
    · intro i hi ih N hN
      rw [fb_sm_succ] at ih
      refine x_iload_n dX9_wires_4 rfl rfl ?_
      refine x_bipush (v := nI 6) dX9_wires_5 (by decide) ?_
      refine x_aload_n dX9_wires_7 rfl rfl ?_
      refine x_getv (hN.v (by decide) hn) dX9_wires_8 fX9_114 rfl rfl (by decide) ?_
      refine x_callSi dX9_wires_11 msX9_power kX9_142 (c_power E (d + 1) N 6 n (by omega)) (by omega) rfl rfl (Nat.le_of_ble_eq_true rfl) ?_
      rintro _ _ ⟨rfl, rfl⟩
      refine x_icmp_geN (tgt := 39) dX9_wires_14 (by decide) (by omega) (by omega) (fun hc => ?_) (fun hc => ?_)
      · exact absurd hc (by omega)
      refine x_iload_n dX9_wires_17 rfl rfl ?_
      refine x_aload_n dX9_wires_18 rfl rfl ?_
      refine x_iload_n dX9_wires_19 rfl rfl ?_
      refine x_callVi dX9_wires_20 mvX9_layWire kX9_148 (c_layWire E d N n i q w (hN.v (by decide) hn) (hp.to (hN.2 49 (by decide))) hi) rfl (by decide) (by omega) rfl rfl (Nat.le_of_ble_eq_true rfl) ?_
      rintro _ N2 ⟨rfl, hN2, hlv⟩
      have hN3 : Fr M N2 [50, 58] := hN.tr hN2 (fun _ h => h)
      refine x_if_eqB (tgt := 30) dX9_wires_23 (by decide) (fun hc => ?_) (fun hc => ?_)
      · refine x_iconst (v := nI 0) dX9_wires_30 (by decide) ?_
        refine x_iaddN dX9_wires_31 ?_
        refine xis3_1 dX9_wires_32 rfl ?_
        refine xinc3_2N dX9_wires_33 rfl ?_
        refine x_goto (tgt := 4) dX9_wires_36 (by decide) ?_
        rw [if_neg (by rw [hc]; decide)] at ih
        exact ih _ hN3
      · refine x_iconst (v := nI 1) dX9_wires_26 (by decide) ?_
        refine x_goto (tgt := 31) dX9_wires_27 (by decide) ?_
        refine x_iaddN dX9_wires_31 ?_
        refine xis3_1 dX9_wires_32 rfl ?_
        refine xinc3_2N dX9_wires_33 rfl ?_
        refine x_goto (tgt := 4) dX9_wires_36 (by decide) ?_
        rw [if_pos hc] at ih
        exact ih _ hN3
  exact key 0 (Nat.zero_le _) M Fr.rf
