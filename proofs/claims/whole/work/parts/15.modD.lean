-- ===== the reference: acts =====
/-- where a wire would be drawn to, whether it may, the new wire -/
def dt (w : Nat → Nat) (r a : Nat) : Int := (w r : Int) + (if a = 0 then -1 else 1)
def cdw (w : Nat → Nat) (n r : Nat) (t : Int) : Bool := decide (0 ≤ t ∧ t ≤ 5 ∧ (r = 0 ∨ (-1 ≤ t - (w (r - 1) : Int) ∧ t - (w (r - 1) : Int) ≤ 1)) ∧ (r + 1 = n ∨ (-1 ≤ t - (w (r + 1) : Int) ∧ t - (w (r + 1) : Int) ≤ 1)))
def nw (w : Nat → Nat) (r a : Nat) : Nat → Nat := fun i => if i = r then (dt w r a).toNat else w i
/-- two cells change places -/
def swq (q : Nat → Nat) (i : Nat) : Nat → Nat := fun k => if k = i then q (i - 1) else if k = i - 1 then q i else q k
theorem nm1_toInt {a : Nat} (h : a < 1000000) : (nI a + (-1)).toInt = (a : Int) + -1 := by
  have e1 : (nI a).toInt = (a : Int) := nI_toInt (by omega)
  have e2 : (-1 : Int32).toInt = -1 := by decide
  rw [fb_addI (by omega) (by omega), e1, e2]
theorem tsub_toInt {t : Int32} {a : Nat} (h1 : -1000 ≤ t.toInt) (h2 : t.toInt ≤ 1000) (ha : a < 1000) : (t - nI a).toInt = t.toInt - (a : Int) := by
  have e1 : (nI a).toInt = (a : Int) := nI_toInt (by omega)
  rw [fb_subI (by omega) (by omega), e1]
theorem nI_back {t : Int32} {a : Nat} (h : t.toInt = (a : Int)) : t = nI a := by
  have h2 := (fb_rng t).2
  apply Int32.toInt_inj.mp
  rw [nI_toInt (by omega)]
  exact h
theorem tl_sub {t : Int32} {B : Int} (h : t.toInt = B) : (t.toInt64).toInt = B := by rw [Int32.toInt_toInt64]; exact h
set_option maxHeartbeats 8000000 in
theorem c_canDraw (E : Ev) (d : Nat) (M : PM) (p n r a : Nat) (q w : Nat → Nat) (hn : M.1 40 4 = nI n) (hp : Pg M p n q w) (hr : r < n) (ha : a ≤ 1) : Ci E (d + 1) mX9_canDraw [.ref (ad E 40), .ref (ad E p), .int (nI r), .int (nI a)] M (fun v N => v = bI (cdw w n r (dt w r a)) ∧ M = N) := by
  have hn5 := hp.2.2.1
  have hwr := hp.2.2.2.2 r hr
  refine Ct.ofz [some (.ref (ad E 40)), some (.ref (ad E p)), some (.int (nI r)), some (.int (nI a)), none] (own := RX9) rfl (by decide) (Nat.le_of_ble_eq_true rfl) rfl (fun C hR => ?_)
  have cont : ∀ t : Int32, t.toInt = dt w r a → X E (d + 1) RX9 cX9_canDraw 5 C 15 [some (.ref (ad E 40)), some (.ref (ad E p)), some (.int (nI r)), some (.int (nI a)), some (.int t)] [] M := by
    intro t ht
    have hdt : -1 ≤ t.toInt ∧ t.toInt ≤ 6 := by rw [ht]; unfold dt; split <;> omega
    rw [← ht] at hR
    have no : cdw w n r t.toInt = false → X E (d + 1) RX9 cX9_canDraw 5 C 84 [some (.ref (ad E 40)), some (.ref (ad E p)), some (.int (nI r)), some (.int (nI a)), some (.int t)] [] M := by
      intro hno
      refine x_iconst (v := nI 0) dX9_canDraw_84 (by decide) ?_
      exact hR _ _ _ _ dX9_canDraw_85 (by first | exact bI_n _ | decide) (⟨by rw [hno]; rfl, rfl⟩)
    have last : 0 ≤ t.toInt → t.toInt ≤ 5 → (r = 0 ∨ (-1 ≤ t.toInt - (w (r - 1) : Int) ∧ t.toInt - (w (r - 1) : Int) ≤ 1)) → X E (d + 1) RX9 cX9_canDraw 5 C 51 [some (.ref (ad E 40)), some (.ref (ad E p)), some (.int (nI r)), some (.int (nI a)), some (.int t)] [] M := by
      intro g1 g2 g3
      refine x_iload_n dX9_canDraw_51 rfl rfl ?_
      refine x_aload_n dX9_canDraw_52 rfl rfl ?_
      refine x_getv (hn) dX9_canDraw_53 fX9_114 rfl rfl (by decide) ?_
      refine x_iconst (v := nI 1) dX9_canDraw_56 (by decide) ?_
      refine x_isubN dX9_canDraw_57 (by omega) ?_
      refine x_icmp_eqN (tgt := 80) dX9_canDraw_58 (by decide) (by omega) (by omega) (fun hc => ?_) (fun hc => ?_)
      · refine x_iconst (v := nI 1) dX9_canDraw_80 (by decide) ?_
        refine x_goto (tgt := 85) dX9_canDraw_81 (by decide) ?_
        exact hR _ _ _ _ dX9_canDraw_85 (by first | exact bI_n _ | decide) (⟨by unfold cdw; rw [decide_eq_true ⟨g1, g2, g3, Or.inl (by omega)⟩]; rfl, rfl⟩)
      · have h1 := hp.2.2.2.2 (r + 1) (by omega)
        have e1 := tsub_toInt (t := t) (a := w (r + 1)) (by omega) (by omega) (by omega)
        refine x_iload dX9_canDraw_61 rfl ?_
        refine x_aload_n dX9_canDraw_63 rfl rfl ?_
        refine x_iload_n dX9_canDraw_64 rfl rfl ?_
        refine x_iconst (v := nI 1) dX9_canDraw_65 (by decide) ?_
        refine x_iaddN dX9_canDraw_66 ?_
        refine x_ialdN dX9_canDraw_67 hp.1 hp.2.1 (by omega) (by decide) (h1.1) ?_
        refine x_isub dX9_canDraw_68 ?_
        refine x_i2l dX9_canDraw_69 ?_
        refine x_ldc2 dX9_canDraw_70 qX9_146 ?_
        refine x_lconst (v := 1) dX9_canDraw_73 rfl ?_
        refine x_callSi dX9_canDraw_74 msX9_in kX9_74 (c_in3 E d M _ _ _ (-1) 1 rfl rfl) (by omega) rfl rfl (Nat.le_of_ble_eq_true rfl) ?_
        rintro _ _ ⟨rfl, rfl⟩
        refine x_if_eqB (tgt := 84) dX9_canDraw_77 (by decide) (fun hc => ?_) (fun hc => ?_)
        · have h2 := of_decide_eq_false hc
          exact no (by unfold cdw; exact decide_eq_false (fun e => h2 (by omega)))
        · have h2 := of_decide_eq_true hc
          refine x_iconst (v := nI 1) dX9_canDraw_80 (by decide) ?_
          refine x_goto (tgt := 85) dX9_canDraw_81 (by decide) ?_
          exact hR _ _ _ _ dX9_canDraw_85 (by first | exact bI_n _ | decide) (⟨by unfold cdw; rw [decide_eq_true ⟨g1, g2, g3, Or.inr (by omega)⟩]; rfl, rfl⟩)
    refine x_iload dX9_canDraw_15 rfl ?_
    refine x_i2l dX9_canDraw_17 ?_
    refine x_lconst (v := 0) dX9_canDraw_18 rfl ?_
    refine x_ldc2 dX9_canDraw_19 qX9_182 ?_
    refine x_callSi dX9_canDraw_22 msX9_in kX9_74 (c_in3 E d M t _ _ 0 5 rfl rfl) (by omega) rfl rfl (Nat.le_of_ble_eq_true rfl) ?_
    rintro _ _ ⟨rfl, rfl⟩
    refine x_if_eqB (tgt := 84) dX9_canDraw_25 (by decide) (fun hc => ?_) (fun hc => ?_)
    · have h2 := of_decide_eq_false hc
      exact no (by unfold cdw; exact decide_eq_false (fun e => h2 (by omega)))
    have g := of_decide_eq_true hc
    refine x_iload_n dX9_canDraw_28 rfl rfl ?_
    refine x_if_eqN (tgt := 51) dX9_canDraw_29 (by decide) (by omega) (fun hc => ?_) (fun hc => ?_)
    · exact last g.1 g.2 (Or.inl hc)
    · have h1 := hp.2.2.2.2 (r - 1) (by omega)
      have e1 := tsub_toInt (t := t) (a := w (r - 1)) (by omega) (by omega) (by omega)
      refine x_iload dX9_canDraw_32 rfl ?_
      refine x_aload_n dX9_canDraw_34 rfl rfl ?_
      refine x_iload_n dX9_canDraw_35 rfl rfl ?_
      refine x_iconst (v := nI 1) dX9_canDraw_36 (by decide) ?_
      refine x_isubN dX9_canDraw_37 (by omega) ?_
      refine x_ialdN dX9_canDraw_38 hp.1 hp.2.1 (by omega) (by decide) (h1.1) ?_
      refine x_isub dX9_canDraw_39 ?_
      refine x_i2l dX9_canDraw_40 ?_
      refine x_ldc2 dX9_canDraw_41 qX9_146 ?_
      refine x_lconst (v := 1) dX9_canDraw_44 rfl ?_
      refine x_callSi dX9_canDraw_45 msX9_in kX9_74 (c_in3 E d M _ _ _ (-1) 1 rfl rfl) (by omega) rfl rfl (Nat.le_of_ble_eq_true rfl) ?_
      rintro _ _ ⟨rfl, rfl⟩
      have hr0 := hc
      refine x_if_eqB (tgt := 84) dX9_canDraw_48 (by decide) (fun hc => ?_) (fun hc => ?_)
      · have h2 := of_decide_eq_false hc
        exact no (by unfold cdw; exact decide_eq_false (fun e => h2 (by omega)))
      · have h2 := of_decide_eq_true hc
        exact last g.1 g.2 (Or.inr (by omega))
  refine x_aload_n dX9_canDraw_0 rfl rfl ?_
  refine x_iload_n dX9_canDraw_1 rfl rfl ?_
  refine x_ialdN dX9_canDraw_2 hp.1 hp.2.1 (by omega) (by decide) (hwr.1) ?_
  refine x_iload_n dX9_canDraw_3 rfl rfl ?_
  rcases (show a = 0 ∨ a = 1 by omega) with rfl | rfl
  · refine x_if_neN (tgt := 11) dX9_canDraw_4 (by decide) (by omega) (fun hc => ?_) (fun hc => ?_)
    · exact absurd rfl hc
    refine x_iconst (v := -1) dX9_canDraw_7 (by decide) ?_
    refine x_goto (tgt := 12) dX9_canDraw_8 (by decide) ?_
    refine x_iadd dX9_canDraw_12 ?_
    refine xis5_4 dX9_canDraw_13 rfl ?_
    exact cont _ (by rw [nm1_toInt (by omega)]; rfl)
  · refine x_if_neN (tgt := 11) dX9_canDraw_4 (by decide) (by omega) (fun hc => ?_) (fun hc => ?_)
    · refine x_iconst (v := nI 1) dX9_canDraw_11 (by decide) ?_
      refine x_iaddN dX9_canDraw_12 ?_
      refine xis5_4 dX9_canDraw_13 rfl ?_
      exact cont _ (by rw [nI_toInt (by omega)]; rfl)
    · exact absurd hc (by decide)
set_option maxHeartbeats 8000000 in
theorem c_swap (E : Ev) (d : Nat) (M : PM) (p n r : Nat) (q w : Nat → Nat) (hp : Pg M p n q w) (hr : r < n) (h1 : 1 ≤ w r) (h4 : w r ≤ 4) : Cv E d mX9_swap [.ref (ad E p), .int (nI r)] M (fun N => Fr M N [p] ∧ N.1 p 30 = M.1 p 30 ∧ Pg N p n (swq q (5 * r + w r)) w) := by
  have hn5 := hp.2.2.1
  have hwr := hp.2.2.2.2 r hr
  refine Ct.ofv [some (.ref (ad E p)), some (.int (nI r)), none, none] (own := RX9) rfl (by decide) (Nat.le_of_ble_eq_true rfl) rfl (fun C hR => ?_)
  refine x_iconst (v := nI 5) dX9_swap_0 (by decide) ?_
  refine x_iconst (v := nI 5) dX9_swap_1 (by decide) ?_
  refine x_iload_n dX9_swap_2 rfl rfl ?_
  refine x_imulN dX9_swap_3 ?_
  refine x_iaddN dX9_swap_4 ?_
  refine x_aload_n dX9_swap_5 rfl rfl ?_
  refine x_iload_n dX9_swap_6 rfl rfl ?_
  refine x_ialdN dX9_swap_7 hp.1 hp.2.1 (by omega) (by decide) (hwr.1) ?_
  refine x_iaddN dX9_swap_8 ?_
  refine xis4_2 dX9_swap_9 rfl ?_
  refine x_aload_n dX9_swap_10 rfl rfl ?_
  refine x_iload_n dX9_swap_11 rfl rfl ?_
  refine x_ialdN dX9_swap_12 hp.1 hp.2.1 (by omega) (by decide) (rfl) ?_
  refine xis4_3 dX9_swap_13 rfl ?_
  refine x_aload_n dX9_swap_14 rfl rfl ?_
  refine x_iload_n dX9_swap_15 rfl rfl ?_
  refine x_aload_n dX9_swap_16 rfl rfl ?_
  refine x_iload_n dX9_swap_17 rfl rfl ?_
  refine x_iconst (v := nI 1) dX9_swap_18 (by decide) ?_
  refine x_isubN dX9_swap_19 (by omega) ?_
  refine x_ialdN dX9_swap_20 hp.1 hp.2.1 (by omega) (by decide) (rfl) ?_
  refine x_iastN dX9_swap_21 hp.1 hp.2.1 (by omega) (by decide) ?_
  refine x_aload_n dX9_swap_22 rfl rfl ?_
  refine x_iload_n dX9_swap_23 rfl rfl ?_
  refine x_iconst (v := nI 1) dX9_swap_24 (by decide) ?_
  refine x_isubN dX9_swap_25 (by omega) ?_
  refine x_iload_n dX9_swap_26 rfl rfl ?_
  refine x_iastN dX9_swap_27 hp.1 hp.2.1 (by omega) (by decide) ?_
  rw [sa_sa, sa_1]
  refine hR _ _ _ dX9_swap_28 ⟨Fr.rf.sa List.mem_cons_self, ?_, hp.1, hp.2.1, hn5, fun r' c' hr' hc' => ?_, fun r' hr' => ?_⟩
  · rw [sa_1, pk_un (by omega), pk_un (by omega)]
  · have hx := hp.2.2.2.1 r' c' hr' hc'
    have ha := hp.2.2.2.1 r (w r) hr (by omega)
    have hb := hp.2.2.2.1 r (w r - 1) hr (by omega)
    rw [show 5 * r + (w r - 1) = 5 * r + w r - 1 by omega] at hb
    rw [show 5 + 5 * r + (w r - 1) = 5 + 5 * r + w r - 1 by omega] at hb
    rw [sa_1]
    unfold swq
    by_cases e1 : 5 * r' + c' = 5 * r + w r
    · rw [if_pos e1, pk_un (by omega), show 5 + 5 * r' + c' = 5 + 5 * r + w r by omega, pk_us]
      exact hb
    · by_cases e2 : 5 * r' + c' = 5 * r + w r - 1
      · rw [if_neg e1, if_pos e2, show 5 + 5 * r' + c' = 5 + 5 * r + w r - 1 by omega, pk_us]
        exact ha
      · rw [if_neg e1, if_neg e2, pk_un (by omega), pk_un (by omega)]
        exact hx
  · rw [sa_1, pk_un (by omega), pk_un (by omega)]
    exact hp.2.2.2.2 r' hr'
set_option maxHeartbeats 8000000 in
theorem c_rejoin (E : Ev) (d : Nat) (M : PM) (p n : Nat) (q w : Nat → Nat) (hn : M.1 40 4 = nI n) (hp : Pg M p n q w) : Cv E (d + 1) mX9_rejoin [.ref (ad E 40), .ref (ad E p)] M (fun N => Fr M N [p] ∧ N.1 p 30 = M.1 p 30 + nI (slp w n) ∧ Pg N p n q (fun _ => 2)) := by
  have hn5 := hp.2.2.1
  have hp40 : 40 ∉ [p] := by
    have := hp.ne (c := 40) (by decide)
    simp; omega
  refine Ct.ofv [some (.ref (ad E 40)), some (.ref (ad E p)), none] (own := RX9) rfl (by decide) (Nat.le_of_ble_eq_true rfl) rfl (fun C hR => ?_)
  refine x_aload_n dX9_rejoin_0 rfl rfl ?_
  refine x_bipush (v := nI 30) dX9_rejoin_1 (by decide) ?_
  refine x_dup2 dX9_rejoin_3 rfl rfl ?_
  refine x_ialdN dX9_rejoin_4 hp.1 hp.2.1 (by omega) (by decide) (rfl) ?_
  refine x_aload_n dX9_rejoin_5 rfl rfl ?_
  refine x_aload_n dX9_rejoin_6 rfl rfl ?_
  refine x_callVi dX9_rejoin_7 mvX9_slipsOf kX9_160 (c_slipsOf E d M p n q w hn hp) rfl (by decide) (by omega) rfl rfl (Nat.le_of_ble_eq_true rfl) ?_
  rintro _ _ ⟨rfl, rfl⟩
  refine x_iadd dX9_rejoin_10 ?_
  refine x_iastN dX9_rejoin_11 hp.1 hp.2.1 (by omega) (by decide) ?_
  refine x_iconst (v := nI 0) dX9_rejoin_12 (by decide) ?_
  refine xis3_2 dX9_rejoin_13 rfl ?_
  have key : ∀ i, i ≤ n → ∀ N, Fr M N [p] → (∀ r, r < i → N.1 p r = nI 2) → (∀ k, 5 ≤ k → k < 30 → N.1 p k = M.1 p k) → N.1 p 30 = M.1 p 30 + nI (slp w n) → X E (d + 1) RX9 cX9_rejoin 3 C 14 [some (.ref (ad E 40)), some (.ref (ad E p)), some (.int (nI i))] [] N := by
    refine up_loop n ?_ ?_
    · intro N hN h2 hk h30
      refine x_iload_n dX9_rejoin_14 rfl rfl ?_
      refine x_aload_n dX9_rejoin_15 rfl rfl ?_
      refine x_getv (hN.v hp40 hn) dX9_rejoin_16 fX9_114 rfl rfl (by decide) ?_
      refine x_icmp_geN (tgt := 32) dX9_rejoin_19 (by decide) (by omega) (by omega) (fun hc => ?_) (fun hc => ?_)
      · exact hR _ _ _ dX9_rejoin_32 (⟨hN, h30, hp.1, hp.2.1, hn5, fun r c hr hc5 => by rw [hk _ (by omega) (by omega)]; exact hp.2.2.2.1 r c hr hc5, fun r hr => ⟨h2 r hr, Nat.le_of_ble_eq_true rfl⟩⟩)
      · exact absurd hc (by omega)
    · intro i hi ih N hN h2 hk h30
      refine x_iload_n dX9_rejoin_14 rfl rfl ?_
      refine x_aload_n dX9_rejoin_15 rfl rfl ?_
      refine x_getv (hN.v hp40 hn) dX9_rejoin_16 fX9_114 rfl rfl (by decide) ?_
      refine x_icmp_geN (tgt := 32) dX9_rejoin_19 (by decide) (by omega) (by omega) (fun hc => ?_) (fun hc => ?_)
      · exact absurd hc (by omega)
      refine x_aload_n dX9_rejoin_22 rfl rfl ?_
      refine x_iload_n dX9_rejoin_23 rfl rfl ?_
      refine x_iconst (v := nI 2) dX9_rejoin_24 (by decide) ?_
      refine x_iastN dX9_rejoin_25 hp.1 hp.2.1 (by omega) (by decide) ?_
      refine xinc3_2N dX9_rejoin_26 rfl ?_
      refine x_goto (tgt := 14) dX9_rejoin_29 (by decide) ?_
      refine ih _ (hN.sa List.mem_cons_self) (fun r hr => ?_) (fun k h5 h30' => ?_) ?_
      · rw [sa_1]
        by_cases e : r = i
        · subst e; exact pk_us
        · rw [pk_un e]; exact h2 r (by omega)
      · rw [sa_1, pk_un (by omega)]; exact hk k h5 h30'
      · rw [sa_1, pk_un (by omega)]; exact h30
  refine key 0 (by omega) _ (Fr.rf.sa List.mem_cons_self) (fun r h => absurd h (by omega)) (fun k h5 h30 => ?_) ?_
  · rw [sa_1, pk_un (by omega)]
  · rw [sa_1, pk_us]
/-- a doing told as two figures -/
def doR (n : Nat) (w : Nat → Nat) (t : Nat) : Bool := if t = 30 then true else if n ≤ t % 10 ∨ 2 < t / 10 then false else if t / 10 = 2 then decide (1 ≤ w (t % 10) ∧ w (t % 10) ≤ 4) else cdw w n (t % 10) (dt w (t % 10) (t / 10))
def doQ (n : Nat) (q w : Nat → Nat) (t : Nat) : Nat → Nat := if t ≠ 30 ∧ doR n w t = true ∧ t / 10 = 2 then swq q (5 * (t % 10) + w (t % 10)) else q
def doW (n : Nat) (w : Nat → Nat) (t : Nat) : Nat → Nat := if t = 30 then (fun _ => 2) else if doR n w t = true ∧ t / 10 ≠ 2 then nw w (t % 10) (t / 10) else w
theorem Pg.put {M N : PM} {p n r a : Nat} {q w : Nat → Nat} {t : Int32} (hp : Pg M p n q w) (hr : r < n) (hN : N = sa M p (upd (M.1 p) r t)) (ht : t.toInt = dt w r a) (hcd : cdw w n r (dt w r a) = true) : Pg N p n q (nw w r a) := by
  have h := of_decide_eq_true hcd
  have hn5 := hp.2.2.1
  subst hN
  refine ⟨hp.1, hp.2.1, hn5, fun r' c' hr' hc' => ?_, fun r' hr' => ?_⟩
  · rw [sa_1, pk_un (by omega)]
    exact hp.2.2.2.1 r' c' hr' hc'
  · rw [sa_1]
    unfold nw
    by_cases e : r' = r
    · subst e
      rw [pk_us, if_pos rfl]
      exact ⟨nI_back (by omega), by omega⟩
    · rw [pk_un e, if_neg e]
      exact hp.2.2.2.2 r' hr'
set_option maxHeartbeats 8000000 in
theorem c_does (E : Ev) (d : Nat) (M : PM) (n t : Nat) (q w : Nat → Nat) (hn : M.1 40 4 = nI n) (hp : Pg M 50 n q w) (ht : t < 100) : Ci E (d + 2) mX9_does [.ref (ad E 40), .int (nI t)] M (fun v N => v = bI (doR n w t) ∧ Fr M N [50] ∧ Pg N 50 n (doQ n q w t) (doW n w t)) := by
  have hn5 := hp.2.2.1
  refine Ct.ofz [some (.ref (ad E 40)), some (.int (nI t)), none, none, none] (own := RX9) rfl (by decide) (Nat.le_of_ble_eq_true rfl) rfl (fun C hR => ?_)
  refine x_iload_n dX9_does_0 rfl rfl ?_
  refine x_bipush (v := nI 10) dX9_does_1 (by decide) ?_
  refine x_idivN dX9_does_3 (by omega) (by omega) (by omega) ?_
  refine xis5_2 dX9_does_4 rfl ?_
  refine x_iload_n dX9_does_5 rfl rfl ?_
  refine x_bipush (v := nI 10) dX9_does_6 (by decide) ?_
  refine x_iremN dX9_does_8 (by omega) (by omega) (by omega) ?_
  refine xis5_3 dX9_does_9 rfl ?_
  refine x_iload_n dX9_does_10 rfl rfl ?_
  refine x_bipush (v := nI 30) dX9_does_11 (by decide) ?_
  refine x_icmp_neN (tgt := 26) dX9_does_13 (by decide) (by omega) (by omega) (fun hc => ?_) (fun hc => ?_)
  rotate_left
  · subst hc
    refine x_aload_n dX9_does_16 rfl rfl ?_
    refine x_aload_n dX9_does_17 rfl rfl ?_
    refine x_getr dX9_does_18 fX9_37 rfl rfl (by decide) ?_
    refine x_callVv dX9_does_21 mvX9_rejoin kX9_195 (c_rejoin E d M 50 n q w hn hp) rfl (by decide) (by omega) rfl rfl (Nat.le_of_ble_eq_true rfl) ?_
    rintro N ⟨hN, _, hP⟩
    refine x_iconst (v := nI 1) dX9_does_24 (by decide) ?_
    exact hR _ _ _ _ dX9_does_25 (by first | exact bI_n _ | decide) (⟨rfl, hN, hP⟩)
  have h30 := hc
  have no : (n ≤ t % 10 ∨ 2 < t / 10) → X E (d + 2) RX9 cX9_does 5 C 39 [some (.ref (ad E 40)), some (.int (nI t)), some (.int (nI (t / 10))), some (.int (nI (t % 10))), none] [] M := by
    intro hno
    have e : doR n w t = false := by unfold doR; rw [if_neg h30, if_pos hno]
    refine x_iconst (v := nI 0) dX9_does_39 (by decide) ?_
    exact hR _ _ _ _ dX9_does_40 (by first | exact bI_n _ | decide) (⟨by rw [e]; rfl, Fr.rf, by unfold doQ doW; rw [if_neg (by rw [e]; simp), if_neg h30, if_neg (by rw [e]; simp)]; exact hp⟩)
  refine x_iload_n dX9_does_26 rfl rfl ?_
  refine x_aload_n dX9_does_27 rfl rfl ?_
  refine x_getv (hn) dX9_does_28 fX9_114 rfl rfl (by decide) ?_
  refine x_icmp_geN (tgt := 39) dX9_does_31 (by decide) (by omega) (by omega) (fun hc => ?_) (fun hc => ?_)
  · exact no (Or.inl hc)
  have hr : t % 10 < n := by omega
  refine x_iload_n dX9_does_34 rfl rfl ?_
  refine x_iconst (v := nI 2) dX9_does_35 (by decide) ?_
  refine x_icmp_leN (tgt := 41) dX9_does_36 (by decide) (by omega) (by omega) (fun hc => ?_) (fun hc => ?_)
  rotate_left
  · exact no (Or.inr hc)
  have hw2 : ¬ (n ≤ t % 10 ∨ 2 < t / 10) := by omega
  have hwr := hp.2.2.2.2 (t % 10) hr
  have hwt : (nI (w (t % 10))).toInt = (w (t % 10) : Int) := nI_toInt (by omega)
  refine x_iload_n dX9_does_41 rfl rfl ?_
  refine x_iconst (v := nI 2) dX9_does_42 (by decide) ?_
  refine x_icmp_neN (tgt := 78) dX9_does_43 (by decide) (by omega) (by omega) (fun hc => ?_) (fun hc => ?_)
  rotate_left
  · have e2 : t / 10 = 2 := hc
    have e : doR n w t = decide (1 ≤ w (t % 10) ∧ w (t % 10) ≤ 4) := by unfold doR; rw [if_neg h30, if_neg hw2, if_pos e2]
    refine x_aload_n dX9_does_46 rfl rfl ?_
    refine x_getr dX9_does_47 fX9_37 rfl rfl (by decide) ?_
    refine x_iload_n dX9_does_50 rfl rfl ?_
    refine x_ialdN dX9_does_51 rfl (by decide) (by omega) (by decide) (hwr.1) ?_
    refine x_i2l dX9_does_52 ?_
    refine x_lconst (v := 1) dX9_does_53 rfl ?_
    refine x_ldc2 dX9_does_54 qX9_172 ?_
    refine x_callSi dX9_does_57 msX9_in kX9_74 (c_in3 E (d + 1) M _ _ _ 1 4 rfl rfl) (by omega) rfl rfl (Nat.le_of_ble_eq_true rfl) ?_
    rintro _ _ ⟨rfl, rfl⟩
    refine xis5_4 dX9_does_60 rfl ?_
    refine x_iload dX9_does_62 rfl ?_
    have e3 : decide ((1 : Int) ≤ (nI (w (t % 10))).toInt ∧ (nI (w (t % 10))).toInt ≤ 4) = doR n w t := by
      rw [e]; apply decide_eq_decide.mpr; omega
    rw [e3]
    refine x_if_eqB (tgt := 75) dX9_does_64 (by decide) (fun hc => ?_) (fun hc => ?_)
    · refine x_iload dX9_does_75 rfl ?_
      exact hR _ _ _ _ dX9_does_77 (by first | exact bI_n _ | decide) (⟨rfl, Fr.rf, by unfold doQ doW; rw [if_neg (by rw [hc]; simp), if_neg h30, if_neg (by rw [hc]; simp)]; exact hp⟩)
    · have h14 := hc
      rw [e] at h14
      have h14 := of_decide_eq_true h14
      refine x_aload_n dX9_does_67 rfl rfl ?_
      refine x_getr dX9_does_68 fX9_37 rfl rfl (by decide) ?_
      refine x_iload_n dX9_does_71 rfl rfl ?_
      refine x_callSv dX9_does_72 msX9_swap kX9_191 (c_swap E (d + 1) M 50 n (t % 10) q w hp hr h14.1 h14.2) (by omega) rfl rfl (Nat.le_of_ble_eq_true rfl) ?_
      rintro N ⟨hN, _, hP⟩
      refine x_iload dX9_does_75 rfl ?_
      exact hR _ _ _ _ dX9_does_77 (by first | exact bI_n _ | decide) (⟨rfl, hN, by unfold doQ doW; rw [if_pos ⟨h30, hc, e2⟩, if_neg h30, if_neg (by omega)]; exact hP⟩)
  have e2 : t / 10 ≠ 2 := hc
  have e : doR n w t = cdw w n (t % 10) (dt w (t % 10) (t / 10)) := by unfold doR; rw [if_neg h30, if_neg hw2, if_neg e2]
  have eQ : doQ n q w t = q := by unfold doQ; rw [if_neg (by omega)]
  refine x_aload_n dX9_does_78 rfl rfl ?_
  refine x_aload_n dX9_does_79 rfl rfl ?_
  refine x_getr dX9_does_80 fX9_37 rfl rfl (by decide) ?_
  refine x_iload_n dX9_does_83 rfl rfl ?_
  refine x_iload_n dX9_does_84 rfl rfl ?_
  refine x_callVi dX9_does_85 mvX9_canDraw kX9_184 (c_canDraw E d M 50 n (t % 10) (t / 10) q w hn hp hr (by omega)) rfl (by decide) (by omega) rfl rfl (Nat.le_of_ble_eq_true rfl) ?_
  rintro _ _ ⟨rfl, rfl⟩
  refine xis5_4 dX9_does_88 rfl ?_
  refine x_aload_n dX9_does_90 rfl rfl ?_
  refine x_getr dX9_does_91 fX9_37 rfl rfl (by decide) ?_
  refine x_iload_n dX9_does_94 rfl rfl ?_
  refine x_dup2 dX9_does_95 rfl rfl ?_
  refine x_ialdN dX9_does_96 rfl (by decide) (by omega) (by decide) (hwr.1) ?_
  refine x_iload dX9_does_97 rfl ?_
  rw [eQ, e] at hR
  refine x_if_eqB (tgt := 110) dX9_does_99 (by decide) (fun hc => ?_) (fun hc => ?_)
  · refine x_iconst (v := nI 0) dX9_does_110 (by decide) ?_
    refine x_iaddN dX9_does_111 ?_
    refine x_iastN dX9_does_112 rfl (by decide) (by omega) (by decide) ?_
    refine x_iload dX9_does_113 rfl ?_
    refine hR _ _ _ _ dX9_does_115 (bI_n _) ⟨rfl, Fr.rf.sa (by decide), ?_⟩
    have eW : doW n w t = w := by unfold doW; rw [if_neg h30, if_neg (by rw [e, hc]; simp)]
    rw [eW, Nat.add_zero, ← hwr.1, fa_upd_same rfl, sa_self]
    exact hp
  · have eW : doW n w t = nw w (t % 10) (t / 10) := by unfold doW; rw [if_neg h30, if_pos ⟨by rw [e, hc], e2⟩]
    rw [eW] at hR
    refine x_iconst (v := nI 2) dX9_does_102 (by decide) ?_
    refine x_iload_n dX9_does_103 rfl rfl ?_
    refine x_imulN dX9_does_104 ?_
    refine x_iconst (v := nI 1) dX9_does_105 (by decide) ?_
    refine x_isub dX9_does_106 ?_
    refine x_goto (tgt := 111) dX9_does_107 (by decide) ?_
    refine x_iadd dX9_does_111 ?_
    refine x_iastN dX9_does_112 rfl (by decide) (by omega) (by decide) ?_
    refine x_iload dX9_does_113 rfl ?_
    refine hR _ _ _ _ dX9_does_115 (bI_n _) ⟨rfl, Fr.rf.sa (by decide), hp.put hr rfl ?_ hc⟩
    rcases (show t / 10 = 0 ∨ t / 10 = 1 by omega) with e0 | e0
    · rw [e0]
      have e1 : nI (2 * 0) - nI 1 = (-1 : Int32) := by decide
      rw [e1, nm1_toInt (by omega)]
      rfl
    · rw [e0]
      have e1 : nI (2 * 1) - nI 1 = nI 1 := by decide
      rw [e1, nI_add, nI_toInt (by omega)]
      rfl
