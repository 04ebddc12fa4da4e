-- ===== a text, byte by byte; how the reference reads it =====
/-- awaits (0 start, 1 thing, 2 kind, 3 cell, 4 part, 5 need), column, kin, rows, deeds, kinds, cells, parts, needs -/
abbrev PS : Type := Nat × Nat × Nat × Nat × Nat × (Nat → Nat) × (Nat → Nat) × (Nat → Nat) × (Nat → Nat)
def pstep (b : Nat) : PS → Option PS
  | (aw, col, K, n, D, kd, cl, pt, nd) => match aw with
    | 0 => if b = 70 then some (1, col, K, n, D, kd, cl, pt, nd) else none
    | 1 => if b = 75 ∧ K < 5 then some (2, col, K, n, D, kd, cl, pt, nd) else if b = 82 ∧ n < 5 ∧ 0 < K then some (3, 0, K, n, D, kd, cl, pt, nd) else if b = 68 ∧ D < 4 then some (4, col, K, n, D, kd, cl, pt, nd) else none
    | 2 => if 48 ≤ b ∧ b ≤ 51 then some (1, col, K + 1, n, D, uf kd K (b - 48), cl, pt, nd) else none
    | 3 => if 97 ≤ b ∧ b < 97 + 4 * K then some (if col = 4 then (1, 5, K, n + 1, D, kd, uf cl (5 * n + col) (b - 97), pt, nd) else (3, col + 1, K, n, D, kd, uf cl (5 * n + col) (b - 97), pt, nd)) else none
    | 4 => if 48 ≤ b ∧ b ≤ 51 then some (5, col, K, n, D, kd, cl, uf pt D (b - 48), nd) else none
    | _ => if 49 ≤ b ∧ b ≤ 57 then some (1, col, K, n, D + 1, kd, cl, pt, uf nd D (b - 48)) else none
def flt (tx : Nat → Nat) : Nat → Nat → PS → Int32
  | 0, i, s => if s.1 = 1 then -9 else nI i
  | k + 1, i, s => match pstep (tx i) s with
    | none => nI i
    | some s' => flt tx k (i + 1) s'
def fnS (tx : Nat → Nat) : Nat → Nat → PS → PS
  | 0, _, s => s
  | k + 1, i, s => match pstep (tx i) s with
    | none => s
    | some s' => fnS tx k (i + 1) s'
theorem flt_y {tx : Nat → Nat} {t i : Nat} {s s' : PS} (hi : i < t) (h : pstep (tx i) s = some s') : flt tx (t - i) i s = flt tx (t - (i + 1)) (i + 1) s' := by
  rw [show t - i = (t - (i + 1)) + 1 by omega, flt, h]
theorem flt_n {tx : Nat → Nat} {t i : Nat} {s : PS} (hi : i < t) (h : pstep (tx i) s = none) : flt tx (t - i) i s = nI i := by
  rw [show t - i = (t - (i + 1)) + 1 by omega, flt, h]
theorem flt_e {tx : Nat → Nat} {t : Nat} {s : PS} (h : s.1 ≠ 1) : flt tx (t - t) t s = nI t := by
  rw [Nat.sub_self, flt, if_neg h]
theorem flt_w {tx : Nat → Nat} {t : Nat} {s : PS} (h : s.1 = 1) : flt tx (t - t) t s = -9 := by
  rw [Nat.sub_self, flt, if_pos h]
theorem fnS_y {tx : Nat → Nat} {t i : Nat} {s s' : PS} (hi : i < t) (h : pstep (tx i) s = some s') : fnS tx (t - i) i s = fnS tx (t - (i + 1)) (i + 1) s' := by
  rw [show t - i = (t - (i + 1)) + 1 by omega, fnS, h]
def zf : Nat → Nat := fun _ => 0
def ps0 : PS := (0, 0, 0, 0, 0, zf, zf, zf, zf)
def fltA (t : Nat) (tx : Nat → Nat) : Int32 := flt tx (t - 0) 0 ps0
def fnA (t : Nat) (tx : Nat → Nat) : PS := fnS tx (t - 0) 0 ps0
theorem nI_n9 {p : Nat} (h : p < 1000) : nI p ≠ -9 := by
  intro e
  have e2 := congrArg Int32.toInt e
  rw [nI_toInt (by omega), show (-9 : Int32).toInt = -9 by decide] at e2
  omega
theorem sau_f {M : PM} {c D v i : Nat} {f : Nat → Nat} (h : i ≠ D → M.1 c i = nI (f i)) : (sa M c (upd (M.1 c) D (nI v))).1 c i = nI (uf f D v i) := by
  rw [sa_1]
  by_cases e : i = D
  · subst e; rw [uf_s, pk_us]
  · rw [uf_n e, pk_un e]; exact h e
def RdM (M : PM) (K n D : Nat) (kd cl pt nd : Nat → Nat) (m : Nat) : Prop := M.1 40 12 = nI K ∧ M.1 40 10 = nI n ∧ M.1 40 14 = nI D ∧ (∀ k, k < K → M.1 46 k = nI (kd k)) ∧ (∀ i, i < m → M.1 45 i = nI (cl i)) ∧ ∀ d, d < D → M.1 47 d = nI (pt d) ∧ M.1 48 d = nI (nd d)
def RdP (M N : PM) (t : Nat) (tx : Nat → Nat) (p : Nat) (s : PS) (v : Int32) : Prop := Fa M N [45, 46, 47, 48] [3, 10, 12, 14] ∧ ((v = bI true ∧ ∃ (p' col K n D : Nat) (kd cl pt nd : Nat → Nat), p' ≤ t ∧ p ≤ p' ∧ N.1 40 3 = nI p' ∧ RdM N K n D kd cl pt nd (5 * n) ∧ K ≤ 5 ∧ n ≤ 5 ∧ D ≤ 4 ∧ flt tx (t - p) p s = flt tx (t - p') p' (1, col, K, n, D, kd, cl, pt, nd) ∧ fnS tx (t - p) p s = fnS tx (t - p') p' (1, col, K, n, D, kd, cl, pt, nd)) ∨ (v = bI false ∧ ∃ p', p' ≤ t ∧ N.1 40 3 = nI p' ∧ flt tx (t - p) p s = nI p'))
theorem RdM.up3 {M : PM} {K n D m : Nat} {kd cl pt nd : Nat → Nat} {v : Int32} (h : RdM M K n D kd cl pt nd m) : RdM (sa M 40 (upd (M.1 40) 3 v)) K n D kd cl pt nd m := by
  obtain ⟨h1, h2, h3, h4, h5, h6⟩ := h
  unfold RdM
  rw [sau_v (by decide) h1, sau_v (by decide) h2, sau_v (by decide) h3, sa_ne (by decide), sa_ne (by decide), sa_ne (by decide), sa_ne (by decide)]
  exact ⟨rfl, rfl, rfl, h4, h5, h6⟩
theorem TxM.fa {M N : PM} {t : Nat} {tx : Nat → Nat} {cs ks : List Nat} (h : TxM M t tx) (hf : Fa M N cs ks) (h41 : 41 ∉ cs) (h2 : 2 ∉ ks) : TxM N t tx := by
  unfold TxM
  rw [hf.2.2 2 h2, hf.2.1 41 h41 (by decide)]
  exact h
set_option maxHeartbeats 8000000 in
theorem c_from (E : Ev) (d : Nat) (M : PM) (t p sg lo hi : Nat) (tx : Nat → Nat) (ht : TxM M t tx) (hp : M.1 40 3 = nI p) (hpt : p ≤ t) (hsg : sg < 200) (hlo : lo < 100) (hhi : hi < 100) : Ci E (d + 1) mX9_from [.ref (ad E 40), .int (nI sg), .int (nI lo), .int (nI hi)] M (fun v N => (¬ (p < t ∧ sg + lo ≤ tx p ∧ tx p ≤ sg + hi) → v = -9 ∧ M = N) ∧ (p < t ∧ sg + lo ≤ tx p ∧ tx p ≤ sg + hi → v = nI (tx p - sg) ∧ N = sa M 40 (upd (M.1 40) 3 (nI (p + 1))))) := by
  obtain ⟨t1, t2, t3⟩ := ht
  refine Ct.ofi [some (.ref (ad E 40)), some (.int (nI sg)), some (.int (nI lo)), some (.int (nI hi))] (own := RX9) rfl (by decide) (Nat.le_of_ble_eq_true rfl) rfl (fun C hR => ?_)
  have no : ¬ (p < t ∧ sg + lo ≤ tx p ∧ tx p ≤ sg + hi) → X E (d + 1) RX9 cX9_from 4 C 33 [some (.ref (ad E 40)), some (.int (nI sg)), some (.int (nI lo)), some (.int (nI hi))] [] M := by
    intro hno
    refine x_bipush (v := -9) dX9_from_33 (by decide) ?_
    exact hR _ _ _ _ dX9_from_35 (⟨fun _ => ⟨rfl, rfl⟩, fun e => absurd e hno⟩)
  refine x_aload_n dX9_from_0 rfl rfl ?_
  refine x_getv (hp) dX9_from_1 fX9_81 rfl rfl (by decide) ?_
  refine x_aload_n dX9_from_4 rfl rfl ?_
  refine x_getv (t1) dX9_from_5 fX9_78 rfl rfl (by decide) ?_
  refine x_icmp_eqN (tgt := 33) dX9_from_8 (by decide) (by omega) (by omega) (fun hc => ?_) (fun hc => ?_)
  · exact no (by omega)
  have hlt : p < t := by omega
  obtain ⟨g1, g2⟩ := t3 p hlt
  have hsub := pk_sub_toInt (a := tx p) (b := sg) (by omega) (by omega)
  have g1' : M.1 41 (p + 1 - 1) = nI (tx p) := by rw [Nat.add_sub_cancel]; exact g1
  refine x_aload_n dX9_from_11 rfl rfl ?_
  refine x_getr dX9_from_12 fX9_7 rfl rfl (by decide) ?_
  refine x_aload_n dX9_from_15 rfl rfl ?_
  refine x_getv (hp) dX9_from_16 fX9_81 rfl rfl (by decide) ?_
  refine x_ialdN dX9_from_19 rfl (by decide) (by omega) (by decide) (g1) ?_
  refine x_iload_n dX9_from_20 rfl rfl ?_
  refine x_isub dX9_from_21 ?_
  refine x_i2l dX9_from_22 ?_
  refine x_iload_n dX9_from_23 rfl rfl ?_
  refine x_i2l dX9_from_24 ?_
  refine x_iload_n dX9_from_25 rfl rfl ?_
  refine x_i2l dX9_from_26 ?_
  refine x_callSi dX9_from_27 msX9_in kX9_74 (c_in3 E d M _ _ _ (lo : Int) (hi : Int) (tl_sub (nI_toInt (by omega))) (tl_sub (nI_toInt (by omega)))) (by omega) rfl rfl (Nat.le_of_ble_eq_true rfl) ?_
  rintro _ _ ⟨rfl, rfl⟩
  refine x_if_neB (tgt := 36) dX9_from_30 (by decide) (fun hc => ?_) (fun hc => ?_)
  rotate_left
  · have h2 := of_decide_eq_false hc
    refine x_bipush (v := -9) dX9_from_33 (by decide) ?_
    exact hR _ _ _ _ dX9_from_35 (⟨fun _ => ⟨rfl, rfl⟩, fun e => absurd (by omega) h2⟩)
  have h2 := of_decide_eq_true hc
  refine x_aload_n dX9_from_36 rfl rfl ?_
  refine x_dup dX9_from_37 rfl ?_
  refine x_getv (hp) dX9_from_38 fX9_81 rfl rfl (by decide) ?_
  refine x_iconst (v := nI 1) dX9_from_41 (by decide) ?_
  refine x_iaddN dX9_from_42 ?_
  refine x_put dX9_from_43 pX9_81 rfl rfl (by decide) rfl rfl ?_
  refine x_aload_n dX9_from_46 rfl rfl ?_
  refine x_getr dX9_from_47 fX9_7 rfl rfl (by decide) ?_
  refine x_aload_n dX9_from_50 rfl rfl ?_
  refine x_getv (by rw [sa_1, pk_us]) dX9_from_51 fX9_81 rfl rfl (by decide) ?_
  refine x_iconst (v := nI 1) dX9_from_54 (by decide) ?_
  refine x_isubN dX9_from_55 (by omega) ?_
  refine x_ialdN dX9_from_56 rfl (by decide) (by omega) (by decide) (sa_v (by decide) g1') ?_
  refine x_iload_n dX9_from_57 rfl rfl ?_
  refine x_isubN dX9_from_58 (by omega) ?_
  exact hR _ _ _ _ dX9_from_59 (⟨fun e => absurd ⟨hlt, by omega, by omega⟩ e, fun _ => ⟨rfl, rfl⟩⟩)
set_option maxHeartbeats 8000000 in
theorem c_readOneKin (E : Ev) (d : Nat) (M : PM) (t p col K n D : Nat) (tx kd cl pt nd : Nat → Nat) (ht : TxM M t tx) (hp : M.1 40 3 = nI p) (hpt : p ≤ t) (hr : RdM M K n D kd cl pt nd (5 * n)) (hK : K < 5) (hn : n ≤ 5) (hD : D ≤ 4) : Ci E (d + 2) mX9_readOneKin [.ref (ad E 40)] M (fun v N => RdP M N t tx p (2, col, K, n, D, kd, cl, pt, nd) v) := by
  have t56 := ht.2.1
  refine Ct.ofz [some (.ref (ad E 40)), none] (own := RX9) rfl (by decide) (Nat.le_of_ble_eq_true rfl) rfl (fun C hR => ?_)
  refine x_aload_n dX9_readOneKin_0 rfl rfl ?_
  refine x_bipush (v := nI 48) dX9_readOneKin_1 (by decide) ?_
  refine x_iconst (v := nI 0) dX9_readOneKin_3 (by decide) ?_
  refine x_iconst (v := nI 3) dX9_readOneKin_4 (by decide) ?_
  refine x_callVi dX9_readOneKin_5 mvX9_from kX9_84 (c_from E d M t p 48 0 3 tx ht hp hpt (by decide) (by decide) (by decide)) rfl (by decide) (by omega) rfl rfl (Nat.le_of_ble_eq_true rfl) ?_
  rintro v N ⟨hno, hyes⟩
  by_cases hb : p < t ∧ 48 + 0 ≤ tx p ∧ tx p ≤ 48 + 3
  · obtain ⟨rfl, rfl⟩ := hyes hb
    have hx : tx p - 48 < 4 := by omega
    refine xis2_1 dX9_readOneKin_8 rfl ?_
    refine x_iload_n dX9_readOneKin_9 rfl rfl ?_
    refine x_bipush (v := -9) dX9_readOneKin_10 (by decide) ?_
    refine x_icmp_ne (tgt := 17) dX9_readOneKin_12 (by decide) (fun hc => ?_) (fun hc => ?_)
    rotate_left
    · exact absurd hc (nI_n9 (by omega))
    have hr2 := hr.up3 (v := nI (p + 1))
    obtain ⟨h1, h2, h3, h4, h5, h6⟩ := id hr2
    refine x_aload_n dX9_readOneKin_17 rfl rfl ?_
    refine x_getr dX9_readOneKin_18 fX9_25 rfl rfl (by decide) ?_
    refine x_aload_n dX9_readOneKin_21 rfl rfl ?_
    refine x_getv (h1) dX9_readOneKin_22 fX9_88 rfl rfl (by decide) ?_
    refine x_iload_n dX9_readOneKin_25 rfl rfl ?_
    refine x_iastN dX9_readOneKin_26 rfl (by decide) (by omega) (by decide) ?_
    refine x_aload_n dX9_readOneKin_27 rfl rfl ?_
    refine x_dup dX9_readOneKin_28 rfl ?_
    refine x_getv (sa_v (by decide) h1) dX9_readOneKin_29 fX9_88 rfl rfl (by decide) ?_
    refine x_iconst (v := nI 1) dX9_readOneKin_32 (by decide) ?_
    refine x_iaddN dX9_readOneKin_33 ?_
    refine x_put dX9_readOneKin_34 pX9_88 rfl rfl (by decide) rfl rfl ?_
    refine x_iconst (v := nI 1) dX9_readOneKin_37 (by decide) ?_
    have hst : pstep (tx p) (2, col, K, n, D, kd, cl, pt, nd) = some (1, col, K + 1, n, D, uf kd K (tx p - 48), cl, pt, nd) := by
      show (if 48 ≤ tx p ∧ tx p ≤ 51 then _ else _) = _
      rw [if_pos (by omega)]
    refine hR _ _ _ _ dX9_readOneKin_38 (by decide) ⟨((Fa.rf.up (by decide)).st (by decide) (by decide)).up (by decide), Or.inl ⟨rfl, p + 1, col, K + 1, n, D, uf kd K (tx p - 48), cl, pt, nd, by omega, by omega, ?_, ⟨?_, ?_, ?_, ?_, ?_, ?_⟩, by omega, hn, hD, flt_y hb.1 hst, fnS_y hb.1 hst⟩⟩
    · exact sau_v (by decide) (sa_v (by decide) (by rw [sa_1, pk_us]))
    · rw [sa_1, pk_us]
    · exact sau_v (by decide) (sa_v (by decide) h2)
    · exact sau_v (by decide) (sa_v (by decide) h3)
    · intro k hk
      rw [sa_ne (by decide), sa_1]
      by_cases e : k = K
      · subst e; rw [uf_s, pk_us]
      · rw [uf_n e, pk_un e]; exact h4 k (by omega)
    · intro i hi; exact sa_v (by decide) (sa_v (by decide) (h5 i hi))
    · intro i hi; exact ⟨sa_v (by decide) (sa_v (by decide) (h6 i hi).1), sa_v (by decide) (sa_v (by decide) (h6 i hi).2)⟩
  · obtain ⟨rfl, rfl⟩ := hno hb
    refine xis2_1 dX9_readOneKin_8 rfl ?_
    refine x_iload_n dX9_readOneKin_9 rfl rfl ?_
    refine x_bipush (v := -9) dX9_readOneKin_10 (by decide) ?_
    refine x_icmp_ne (tgt := 17) dX9_readOneKin_12 (by decide) (fun hc => ?_) (fun hc => ?_)
    · exact absurd rfl hc
    refine x_iconst (v := nI 0) dX9_readOneKin_15 (by decide) ?_
    refine hR _ _ _ _ dX9_readOneKin_16 (by decide) ⟨Fa.rf, Or.inr ⟨rfl, p, hpt, hp, ?_⟩⟩
    by_cases e : p < t
    · exact flt_n e (by show (if 48 ≤ tx p ∧ tx p ≤ 51 then _ else _) = _; rw [if_neg (by omega)])
    · have : p = t := by omega
      subst this
      exact flt_e (by show (2 : Nat) ≠ 1; decide)
set_option maxHeartbeats 8000000 in
theorem c_readOneRow (E : Ev) (d : Nat) (M : PM) (t p K n D : Nat) (tx kd cl pt nd : Nat → Nat) (ht : TxM M t tx) (hp : M.1 40 3 = nI p) (hpt : p ≤ t) (hr : RdM M K n D kd cl pt nd (5 * n)) (hK0 : 0 < K) (hK : K ≤ 5) (hn : n < 5) (hD : D ≤ 4) : Ci E (d + 2) mX9_readOneRow [.ref (ad E 40)] M (fun v N => RdP M N t tx p (3, 0, K, n, D, kd, cl, pt, nd) v) := by
  have t56 := ht.2.1
  refine Ct.ofz [some (.ref (ad E 40)), none, none] (own := RX9) rfl (by decide) (Nat.le_of_ble_eq_true rfl) rfl (fun C hR => ?_)
  refine x_iconst (v := nI 0) dX9_readOneRow_0 (by decide) ?_
  refine xis3_1 dX9_readOneRow_1 rfl ?_
  have key : ∀ c, c ≤ 4 → ∀ N p' cl' l2, Fa M N [45, 46, 47, 48] [3, 10, 12, 14] → N.1 40 3 = nI p' → p' ≤ t → p ≤ p' → RdM N K n D kd cl' pt nd (5 * n + c) → flt tx (t - p) p (3, 0, K, n, D, kd, cl, pt, nd) = flt tx (t - p') p' (3, c, K, n, D, kd, cl', pt, nd) → fnS tx (t - p) p (3, 0, K, n, D, kd, cl, pt, nd) = fnS tx (t - p') p' (3, c, K, n, D, kd, cl', pt, nd) → X E (d + 2) RX9 cX9_readOneRow 3 C 2 [some (.ref (ad E 40)), some (.int (nI c)), l2] [] N := by
    have step : ∀ c, c ≤ 4 → ∀ N p' cl' l2, Fa M N [45, 46, 47, 48] [3, 10, 12, 14] → N.1 40 3 = nI p' → p' ≤ t → p ≤ p' → RdM N K n D kd cl' pt nd (5 * n + c) → flt tx (t - p) p (3, 0, K, n, D, kd, cl, pt, nd) = flt tx (t - p') p' (3, c, K, n, D, kd, cl', pt, nd) → fnS tx (t - p) p (3, 0, K, n, D, kd, cl, pt, nd) = fnS tx (t - p') p' (3, c, K, n, D, kd, cl', pt, nd) → (p' < t → 97 + 0 ≤ tx p' → tx p' ≤ 97 + (4 * K - 1) → ∀ N2 l2, Fa M N2 [45, 46, 47, 48] [3, 10, 12, 14] → N2.1 40 3 = nI (p' + 1) → RdM N2 K n D kd (uf cl' (5 * n + c) (tx p' - 97)) pt nd (5 * n + (c + 1)) → X E (d + 2) RX9 cX9_readOneRow 3 C 2 [some (.ref (ad E 40)), some (.int (nI (c + 1))), l2] [] N2) → X E (d + 2) RX9 cX9_readOneRow 3 C 2 [some (.ref (ad E 40)), some (.int (nI c)), l2] [] N := by
      intro c hc4 N p' cl' l2 hN hp' hpt' hpp hr' hfl hfn nxt
      have hk1 : N.1 40 12 = nI K := hr'.1
      refine x_iload_n dX9_readOneRow_2 rfl rfl ?_
      refine x_iconst (v := nI 5) dX9_readOneRow_3 (by decide) ?_
      refine x_icmp_geN (tgt := 51) dX9_readOneRow_4 (by decide) (by omega) (by omega) (fun hc => ?_) (fun hc => ?_)
      · exact absurd hc (by omega)
      refine x_aload_n dX9_readOneRow_7 rfl rfl ?_
      refine x_bipush (v := nI 97) dX9_readOneRow_8 (by decide) ?_
      refine x_iconst (v := nI 0) dX9_readOneRow_10 (by decide) ?_
      refine x_iconst (v := nI 4) dX9_readOneRow_11 (by decide) ?_
      refine x_aload_n dX9_readOneRow_12 rfl rfl ?_
      refine x_getv (hk1) dX9_readOneRow_13 fX9_88 rfl rfl (by decide) ?_
      refine x_imulN dX9_readOneRow_16 ?_
      refine x_iconst (v := nI 1) dX9_readOneRow_17 (by decide) ?_
      refine x_isubN dX9_readOneRow_18 (by omega) ?_
      refine x_callVi dX9_readOneRow_19 mvX9_from kX9_84 (c_from E d N t p' 97 0 (4 * K - 1) tx (ht.fa hN (by decide) (by decide)) hp' hpt' (by decide) (by decide) (by omega)) rfl (by decide) (by omega) rfl rfl (Nat.le_of_ble_eq_true rfl) ?_
      rintro v N1 ⟨hno, hyes⟩
      by_cases hb : p' < t ∧ 97 + 0 ≤ tx p' ∧ tx p' ≤ 97 + (4 * K - 1)
      · obtain ⟨rfl, rfl⟩ := hyes hb
        have hx : tx p' - 97 < 20 := by omega
        refine xis3_2 dX9_readOneRow_22 rfl ?_
        refine x_iload_n dX9_readOneRow_23 rfl rfl ?_
        refine x_bipush (v := -9) dX9_readOneRow_24 (by decide) ?_
        refine x_icmp_ne (tgt := 31) dX9_readOneRow_26 (by decide) (fun hc => ?_) (fun hc => ?_)
        rotate_left
        · exact absurd hc (nI_n9 (by omega))
        have hr2 := hr'.up3 (v := nI (p' + 1))
        obtain ⟨h1, h2, h3, h4, h5, h6⟩ := id hr2
        refine x_aload_n dX9_readOneRow_31 rfl rfl ?_
        refine x_getr dX9_readOneRow_32 fX9_22 rfl rfl (by decide) ?_
        refine x_iconst (v := nI 5) dX9_readOneRow_35 (by decide) ?_
        refine x_aload_n dX9_readOneRow_36 rfl rfl ?_
        refine x_getv (h2) dX9_readOneRow_37 fX9_91 rfl rfl (by decide) ?_
        refine x_imulN dX9_readOneRow_40 ?_
        refine x_iload_n dX9_readOneRow_41 rfl rfl ?_
        refine x_iaddN dX9_readOneRow_42 ?_
        refine x_iload_n dX9_readOneRow_43 rfl rfl ?_
        refine x_iastN dX9_readOneRow_44 rfl (by decide) (by omega) (by decide) ?_
        refine xinc3_1N dX9_readOneRow_45 rfl ?_
        refine x_goto (tgt := 2) dX9_readOneRow_48 (by decide) ?_
        refine nxt hb.1 hb.2.1 hb.2.2 _ _ ((hN.up (by decide)).st (by decide) (by decide)) (sa_v (by decide) (by rw [sa_1, pk_us])) ⟨sa_v (by decide) h1, sa_v (by decide) h2, sa_v (by decide) h3, fun k hk => sa_v (by decide) (h4 k hk), fun i hi => ?_, fun i hi => ⟨sa_v (by decide) (h6 i hi).1, sa_v (by decide) (h6 i hi).2⟩⟩
        rw [sa_1]
        by_cases e : i = 5 * n + c
        · subst e; rw [uf_s, pk_us]
        · rw [uf_n e, pk_un e]; exact h5 i (by omega)
      · obtain ⟨rfl, rfl⟩ := hno hb
        refine xis3_2 dX9_readOneRow_22 rfl ?_
        refine x_iload_n dX9_readOneRow_23 rfl rfl ?_
        refine x_bipush (v := -9) dX9_readOneRow_24 (by decide) ?_
        refine x_icmp_ne (tgt := 31) dX9_readOneRow_26 (by decide) (fun hc => ?_) (fun hc => ?_)
        · exact absurd rfl hc
        refine x_iconst (v := nI 0) dX9_readOneRow_29 (by decide) ?_
        refine hR _ _ _ _ dX9_readOneRow_30 (by decide) ⟨hN, Or.inr ⟨rfl, p', hpt', hp', hfl.trans ?_⟩⟩
        by_cases e : p' < t
        · exact flt_n e (by show (if 97 ≤ tx p' ∧ tx p' < 97 + 4 * K then _ else _) = _; rw [if_neg (by omega)])
        · have : p' = t := by omega
          subst this
          exact flt_e (by show (3 : Nat) ≠ 1; decide)
    refine up_loop 4 ?_ ?_
    · intro N p' cl' l2 hN hp' hpt' hpp hr' hfl hfn
      refine step 4 (Nat.le_refl 4) N p' cl' l2 hN hp' hpt' hpp hr' hfl hfn (fun b1 b2 b3 N2 l2 hN2 hp2 hr2 => ?_)
      have hst : pstep (tx p') (3, 4, K, n, D, kd, cl', pt, nd) = some (1, 5, K, n + 1, D, kd, uf cl' (5 * n + 4) (tx p' - 97), pt, nd) := by
        show (if 97 ≤ tx p' ∧ tx p' < 97 + 4 * K then _ else _) = _
        rw [if_pos (by omega), if_pos rfl]
      obtain ⟨h1, h2, h3, h4, h5, h6⟩ := id hr2
      refine x_iload_n dX9_readOneRow_2 rfl rfl ?_
      refine x_iconst (v := nI 5) dX9_readOneRow_3 (by decide) ?_
      refine x_icmp_geN (tgt := 51) dX9_readOneRow_4 (by decide) (by omega) (by omega) (fun hc => ?_) (fun hc => ?_)
      rotate_left
      · exact absurd hc (by decide)
      refine x_aload_n dX9_readOneRow_51 rfl rfl ?_
      refine x_dup dX9_readOneRow_52 rfl ?_
      refine x_getv (h2) dX9_readOneRow_53 fX9_91 rfl rfl (by decide) ?_
      refine x_iconst (v := nI 1) dX9_readOneRow_56 (by decide) ?_
      refine x_iaddN dX9_readOneRow_57 ?_
      refine x_put dX9_readOneRow_58 pX9_91 rfl rfl (by decide) rfl rfl ?_
      refine x_iconst (v := nI 1) dX9_readOneRow_61 (by decide) ?_
      refine hR _ _ _ _ dX9_readOneRow_62 (by decide) ⟨hN2.up (by decide), Or.inl ⟨rfl, p' + 1, 5, K, n + 1, D, kd, _, pt, nd, by omega, by omega, sau_v (by decide) hp2, ⟨sau_v (by decide) h1, by rw [sa_1, pk_us], sau_v (by decide) h3, fun k hk => sa_v (by decide) (h4 k hk), fun i hi => sa_v (by decide) (h5 i (by omega)), fun i hi => ⟨sa_v (by decide) (h6 i hi).1, sa_v (by decide) (h6 i hi).2⟩⟩, hK, by omega, hD, hfl.trans (flt_y b1 hst), hfn.trans (fnS_y b1 hst)⟩⟩
    · intro c hc4 ih N p' cl' l2 hN hp' hpt' hpp hr' hfl hfn
      refine step c (by omega) N p' cl' l2 hN hp' hpt' hpp hr' hfl hfn (fun b1 b2 b3 N2 l2 hN2 hp2 hr2 => ?_)
      have hst : pstep (tx p') (3, c, K, n, D, kd, cl', pt, nd) = some (3, c + 1, K, n, D, kd, uf cl' (5 * n + c) (tx p' - 97), pt, nd) := by
        show (if 97 ≤ tx p' ∧ tx p' < 97 + 4 * K then _ else _) = _
        rw [if_pos (by omega), if_neg (by omega)]
      exact ih N2 (p' + 1) _ l2 hN2 hp2 (by omega) (by omega) hr2 (hfl.trans (flt_y b1 hst)) (hfn.trans (fnS_y b1 hst))
  exact key 0 (by omega) M p cl _ Fa.rf hp hpt (Nat.le_refl _) hr rfl rfl
set_option maxHeartbeats 8000000 in
theorem c_readOneDeed (E : Ev) (d : Nat) (M : PM) (t p col K n D : Nat) (tx kd cl pt nd : Nat → Nat) (ht : TxM M t tx) (hp : M.1 40 3 = nI p) (hpt : p ≤ t) (hr : RdM M K n D kd cl pt nd (5 * n)) (hK : K ≤ 5) (hn : n ≤ 5) (hD : D < 4) : Ci E (d + 2) mX9_readOneDeed [.ref (ad E 40)] M (fun v N => RdP M N t tx p (4, col, K, n, D, kd, cl, pt, nd) v) := by
  have t56 := ht.2.1
  refine Ct.ofz [some (.ref (ad E 40)), none, none] (own := RX9) rfl (by decide) (Nat.le_of_ble_eq_true rfl) rfl (fun C hR => ?_)
  refine x_aload_n dX9_readOneDeed_0 rfl rfl ?_
  refine x_bipush (v := nI 48) dX9_readOneDeed_1 (by decide) ?_
  refine x_iconst (v := nI 0) dX9_readOneDeed_3 (by decide) ?_
  refine x_iconst (v := nI 3) dX9_readOneDeed_4 (by decide) ?_
  refine x_callVi dX9_readOneDeed_5 mvX9_from kX9_84 (c_from E d M t p 48 0 3 tx ht hp hpt (by decide) (by decide) (by decide)) rfl (by decide) (by omega) rfl rfl (Nat.le_of_ble_eq_true rfl) ?_
  rintro v N ⟨hno, hyes⟩
  by_cases hb : p < t ∧ 48 + 0 ≤ tx p ∧ tx p ≤ 48 + 3
  · obtain ⟨rfl, rfl⟩ := hyes hb
    have hst : pstep (tx p) (4, col, K, n, D, kd, cl, pt, nd) = some (5, col, K, n, D, kd, cl, uf pt D (tx p - 48), nd) := by
      show (if 48 ≤ tx p ∧ tx p ≤ 51 then _ else _) = _
      rw [if_pos (by omega)]
    refine xis3_1 dX9_readOneDeed_8 rfl ?_
    refine x_iload_n dX9_readOneDeed_9 rfl rfl ?_
    refine x_bipush (v := -9) dX9_readOneDeed_10 (by decide) ?_
    refine x_icmp_ne (tgt := 20) dX9_readOneDeed_12 (by decide) (fun hc => ?_) (fun hc => ?_)
    rotate_left
    · exact absurd hc (nI_n9 (by omega))
    have hF1 : Fa M (sa M 40 (upd (M.1 40) 3 (nI (p + 1)))) [45, 46, 47, 48] [3, 10, 12, 14] := Fa.rf.up (by decide)
    refine x_aload_n dX9_readOneDeed_20 rfl rfl ?_
    refine x_bipush (v := nI 48) dX9_readOneDeed_21 (by decide) ?_
    refine x_iconst (v := nI 1) dX9_readOneDeed_23 (by decide) ?_
    refine x_bipush (v := nI 9) dX9_readOneDeed_24 (by decide) ?_
    refine x_callVi dX9_readOneDeed_26 mvX9_from kX9_84 (c_from E d _ t (p + 1) 48 1 9 tx (ht.fa hF1 (by decide) (by decide)) (by rw [sa_1, pk_us]) (by omega) (by decide) (by decide) (by decide)) rfl (by decide) (by omega) rfl rfl (Nat.le_of_ble_eq_true rfl) ?_
    rintro v2 N2 ⟨hno2, hyes2⟩
    by_cases hb2 : p + 1 < t ∧ 48 + 1 ≤ tx (p + 1) ∧ tx (p + 1) ≤ 48 + 9
    · obtain ⟨rfl, rfl⟩ := hyes2 hb2
      have hst2 : pstep (tx (p + 1)) (5, col, K, n, D, kd, cl, uf pt D (tx p - 48), nd) = some (1, col, K, n, D + 1, kd, cl, uf pt D (tx p - 48), uf nd D (tx (p + 1) - 48)) := by
        show (if 49 ≤ tx (p + 1) ∧ tx (p + 1) ≤ 57 then _ else _) = _
        rw [if_pos (by omega)]
      refine xis3_2 dX9_readOneDeed_29 rfl ?_
      refine x_iload_n dX9_readOneDeed_30 rfl rfl ?_
      refine x_bipush (v := -9) dX9_readOneDeed_31 (by decide) ?_
      refine x_icmp_ne (tgt := 38) dX9_readOneDeed_33 (by decide) (fun hc => ?_) (fun hc => ?_)
      rotate_left
      · exact absurd hc (nI_n9 (by omega))
      have hr2 := (hr.up3 (v := nI (p + 1))).up3 (v := nI (p + 1 + 1))
      obtain ⟨h1, h2, h3, h4, h5, h6⟩ := id hr2
      refine x_aload_n dX9_readOneDeed_38 rfl rfl ?_
      refine x_getr dX9_readOneDeed_39 fX9_28 rfl rfl (by decide) ?_
      refine x_aload_n dX9_readOneDeed_42 rfl rfl ?_
      refine x_getv (h3) dX9_readOneDeed_43 fX9_94 rfl rfl (by decide) ?_
      refine x_iload_n dX9_readOneDeed_46 rfl rfl ?_
      refine x_iastN dX9_readOneDeed_47 rfl (by decide) (by omega) (by decide) ?_
      refine x_aload_n dX9_readOneDeed_48 rfl rfl ?_
      refine x_getr dX9_readOneDeed_49 fX9_31 rfl rfl (by decide) ?_
      refine x_aload_n dX9_readOneDeed_52 rfl rfl ?_
      refine x_getv (sa_v (by decide) h3) dX9_readOneDeed_53 fX9_94 rfl rfl (by decide) ?_
      refine x_iload_n dX9_readOneDeed_56 rfl rfl ?_
      refine x_iastN dX9_readOneDeed_57 rfl (by decide) (by omega) (by decide) ?_
      refine x_aload_n dX9_readOneDeed_58 rfl rfl ?_
      refine x_dup dX9_readOneDeed_59 rfl ?_
      refine x_getv (sa_v (by decide) (sa_v (by decide) h3)) dX9_readOneDeed_60 fX9_94 rfl rfl (by decide) ?_
      refine x_iconst (v := nI 1) dX9_readOneDeed_63 (by decide) ?_
      refine x_iaddN dX9_readOneDeed_64 ?_
      refine x_put dX9_readOneDeed_65 pX9_94 rfl rfl (by decide) rfl rfl ?_
      refine x_iconst (v := nI 1) dX9_readOneDeed_68 (by decide) ?_
      refine hR _ _ _ _ dX9_readOneDeed_69 (by decide) ⟨(((hF1.up (by decide)).st (by decide) (by decide)).st (by decide) (by decide)).up (by decide), Or.inl ⟨rfl, p + 1 + 1, col, K, n, D + 1, kd, cl, uf pt D (tx p - 48), uf nd D (tx (p + 1) - 48), by omega, by omega, ?_, ⟨?_, ?_, ?_, ?_, ?_, ?_⟩, hK, hn, by omega, (flt_y hb.1 hst).trans (flt_y hb2.1 hst2), (fnS_y hb.1 hst).trans (fnS_y hb2.1 hst2)⟩⟩
      · exact sau_v (by decide) (sa_v (by decide) (sa_v (by decide) (by rw [sa_1, pk_us])))
      · exact sau_v (by decide) (sa_v (by decide) (sa_v (by decide) h1))
      · exact sau_v (by decide) (sa_v (by decide) (sa_v (by decide) h2))
      · rw [sa_1, pk_us]
      · intro k hk; exact sa_v (by decide) (sa_v (by decide) (sa_v (by decide) (h4 k hk)))
      · intro i hi; exact sa_v (by decide) (sa_v (by decide) (sa_v (by decide) (h5 i hi)))
      · intro i hi
        exact ⟨sa_v (by decide) (sa_v (by decide) (sau_f (fun e => (h6 i (by omega)).1))), sa_v (by decide) (sau_f (fun e => sa_v (by decide) (h6 i (by omega)).2))⟩
    · obtain ⟨rfl, rfl⟩ := hno2 hb2
      refine xis3_2 dX9_readOneDeed_29 rfl ?_
      refine x_iload_n dX9_readOneDeed_30 rfl rfl ?_
      refine x_bipush (v := -9) dX9_readOneDeed_31 (by decide) ?_
      refine x_icmp_ne (tgt := 38) dX9_readOneDeed_33 (by decide) (fun hc => ?_) (fun hc => ?_)
      · exact absurd rfl hc
      refine x_iconst (v := nI 0) dX9_readOneDeed_36 (by decide) ?_
      refine hR _ _ _ _ dX9_readOneDeed_37 (by decide) ⟨hF1, Or.inr ⟨rfl, p + 1, by omega, by rw [sa_1, pk_us], (flt_y hb.1 hst).trans ?_⟩⟩
      by_cases e : p + 1 < t
      · exact flt_n e (by show (if 49 ≤ tx (p + 1) ∧ tx (p + 1) ≤ 57 then _ else _) = _; rw [if_neg (by omega)])
      · have : p + 1 = t := by omega
        subst this
        exact flt_e (by show (5 : Nat) ≠ 1; decide)
  · obtain ⟨rfl, rfl⟩ := hno hb
    refine xis3_1 dX9_readOneDeed_8 rfl ?_
    refine x_iload_n dX9_readOneDeed_9 rfl rfl ?_
    refine x_bipush (v := -9) dX9_readOneDeed_10 (by decide) ?_
    refine x_icmp_ne (tgt := 20) dX9_readOneDeed_12 (by decide) (fun hc => ?_) (fun hc => ?_)
    · exact absurd rfl hc
    refine x_bipush (v := -9) dX9_readOneDeed_15 (by decide) ?_
    refine x_goto (tgt := 29) dX9_readOneDeed_17 (by decide) ?_
    refine xis3_2 dX9_readOneDeed_29 rfl ?_
    refine x_iload_n dX9_readOneDeed_30 rfl rfl ?_
    refine x_bipush (v := -9) dX9_readOneDeed_31 (by decide) ?_
    refine x_icmp_ne (tgt := 38) dX9_readOneDeed_33 (by decide) (fun hc => ?_) (fun hc => ?_)
    · exact absurd rfl hc
    refine x_iconst (v := nI 0) dX9_readOneDeed_36 (by decide) ?_
    refine hR _ _ _ _ dX9_readOneDeed_37 (by decide) ⟨Fa.rf, Or.inr ⟨rfl, p, hpt, hp, ?_⟩⟩
    by_cases e : p < t
    · exact flt_n e (by show (if 48 ≤ tx p ∧ tx p ≤ 51 then _ else _) = _; rw [if_neg (by omega)])
    · have : p = t := by omega
      subst this
      exact flt_e (by show (4 : Nat) ≠ 1; decide)
theorem RdP.pre {M M1 N : PM} {t p : Nat} {tx : Nat → Nat} {s s' : PS} {v : Int32} (h : RdP M1 N t tx (p + 1) s' v) (hf : Fa M M1 [45, 46, 47, 48] [3, 10, 12, 14]) (hp : p < t) (hs : pstep (tx p) s = some s') : Fa M N [45, 46, 47, 48] [3, 10, 12, 14] ∧ ((v = bI true ∧ ∃ (p' col K n D : Nat) (kd cl pt nd : Nat → Nat), p' ≤ t ∧ p < p' ∧ N.1 40 3 = nI p' ∧ RdM N K n D kd cl pt nd (5 * n) ∧ K ≤ 5 ∧ n ≤ 5 ∧ D ≤ 4 ∧ flt tx (t - p) p s = flt tx (t - p') p' (1, col, K, n, D, kd, cl, pt, nd) ∧ fnS tx (t - p) p s = fnS tx (t - p') p' (1, col, K, n, D, kd, cl, pt, nd)) ∨ (v = bI false ∧ ∃ p', p' ≤ t ∧ N.1 40 3 = nI p' ∧ flt tx (t - p) p s = nI p')) := by
  obtain ⟨h1, h2⟩ := h
  refine ⟨hf.tr h1 (fun _ h => h) (fun _ h => h), ?_⟩
  rcases h2 with ⟨e, p', col, K, n, D, kd, cl, pt, nd, a1, a2, a3, a4, a5, a6, a7, a8, a9⟩ | ⟨e, p', a1, a2, a3⟩
  · exact Or.inl ⟨e, p', col, K, n, D, kd, cl, pt, nd, a1, by omega, a3, a4, a5, a6, a7, (flt_y hp hs).trans a8, (fnS_y hp hs).trans a9⟩
  · exact Or.inr ⟨e, p', a1, a2, (flt_y hp hs).trans a3⟩
set_option maxHeartbeats 8000000 in
theorem c_readThing (E : Ev) (d : Nat) (M : PM) (t p col K n D : Nat) (tx kd cl pt nd : Nat → Nat) (ht : TxM M t tx) (hp : M.1 40 3 = nI p) (hpt : p < t) (hr : RdM M K n D kd cl pt nd (5 * n)) (hK : K ≤ 5) (hn : n ≤ 5) (hD : D ≤ 4) : Ci E (d + 3) mX9_readThing [.ref (ad E 40)] M (fun v N => Fa M N [45, 46, 47, 48] [3, 10, 12, 14] ∧ ((v = bI true ∧ ∃ (p' col' K' n' D' : Nat) (kd' cl' pt' nd' : Nat → Nat), p' ≤ t ∧ p < p' ∧ N.1 40 3 = nI p' ∧ RdM N K' n' D' kd' cl' pt' nd' (5 * n') ∧ K' ≤ 5 ∧ n' ≤ 5 ∧ D' ≤ 4 ∧ flt tx (t - p) p (1, col, K, n, D, kd, cl, pt, nd) = flt tx (t - p') p' (1, col', K', n', D', kd', cl', pt', nd') ∧ fnS tx (t - p) p (1, col, K, n, D, kd, cl, pt, nd) = fnS tx (t - p') p' (1, col', K', n', D', kd', cl', pt', nd')) ∨ (v = bI false ∧ ∃ p', p' ≤ t ∧ N.1 40 3 = nI p' ∧ flt tx (t - p) p (1, col, K, n, D, kd, cl, pt, nd) = nI p'))) := by
  have t56 := ht.2.1
  obtain ⟨g1, g2⟩ := ht.2.2 p hpt
  refine Ct.ofz [some (.ref (ad E 40)), none] (own := RX9) rfl (by decide) (Nat.le_of_ble_eq_true rfl) rfl (fun C hR => ?_)
  refine x_aload_n dX9_readThing_0 rfl rfl ?_
  refine x_getr dX9_readThing_1 fX9_7 rfl rfl (by decide) ?_
  refine x_aload_n dX9_readThing_4 rfl rfl ?_
  refine x_getv (hp) dX9_readThing_5 fX9_81 rfl rfl (by decide) ?_
  refine x_ialdN dX9_readThing_8 rfl (by decide) (by omega) (by decide) (g1) ?_
  refine xis2_1 dX9_readThing_9 rfl ?_
  refine x_aload_n dX9_readThing_10 rfl rfl ?_
  refine x_dup dX9_readThing_11 rfl ?_
  refine x_getv (hp) dX9_readThing_12 fX9_81 rfl rfl (by decide) ?_
  refine x_iconst (v := nI 1) dX9_readThing_15 (by decide) ?_
  refine x_iaddN dX9_readThing_16 ?_
  refine x_put dX9_readThing_17 pX9_81 rfl rfl (by decide) rfl rfl ?_
  have hF1 : Fa M (sa M 40 (upd (M.1 40) 3 (nI (p + 1)))) [45, 46, 47, 48] [3, 10, 12, 14] := Fa.rf.up (by decide)
  have hr1 := hr.up3 (v := nI (p + 1))
  have hp1 : (sa M 40 (upd (M.1 40) 3 (nI (p + 1)))).1 40 3 = nI (p + 1) := by rw [sa_1, pk_us]
  have ht1 := ht.fa hF1 (by decide) (by decide)
  generalize sa M 40 (upd (M.1 40) 3 (nI (p + 1))) = M1 at hF1 hr1 hp1 ht1 ⊢
  obtain ⟨h1, h2, h3, h4, h5, h6⟩ := id hr1
  have bad : ¬ (tx p = 75 ∧ K < 5) → ¬ (tx p = 82 ∧ n < 5 ∧ 0 < K) → ¬ (tx p = 68 ∧ D < 4) → X E (d + 3) RX9 cX9_readThing 2 C 84 [some (.ref (ad E 40)), some (.int (nI (tx p)))] [] M1 := by
    intro e1 e2 e3
    refine x_aload_n dX9_readThing_84 rfl rfl ?_
    refine x_dup dX9_readThing_85 rfl ?_
    refine x_getv (hp1) dX9_readThing_86 fX9_81 rfl rfl (by decide) ?_
    refine x_iconst (v := nI 1) dX9_readThing_89 (by decide) ?_
    refine x_isubN dX9_readThing_90 (by omega) ?_
    refine x_put dX9_readThing_91 pX9_81 rfl rfl (by decide) rfl rfl ?_
    refine x_iconst (v := nI 0) dX9_readThing_94 (by decide) ?_
    refine hR _ _ _ _ dX9_readThing_95 (by decide) ⟨hF1.up (by decide), Or.inr ⟨rfl, p, by omega, by rw [sa_1, pk_us, Nat.add_sub_cancel], flt_n hpt ?_⟩⟩
    show (if tx p = 75 ∧ K < 5 then _ else if tx p = 82 ∧ n < 5 ∧ 0 < K then _ else if tx p = 68 ∧ D < 4 then _ else _) = _
    rw [if_neg e1, if_neg e2, if_neg e3]
  have deed : ¬ (tx p = 75 ∧ K < 5) → ¬ (tx p = 82 ∧ n < 5 ∧ 0 < K) → X E (d + 3) RX9 cX9_readThing 2 C 65 [some (.ref (ad E 40)), some (.int (nI (tx p)))] [] M1 := by
    intro e1 e2
    refine x_iload_n dX9_readThing_65 rfl rfl ?_
    refine x_bipush (v := nI 68) dX9_readThing_66 (by decide) ?_
    refine x_icmp_neN (tgt := 84) dX9_readThing_68 (by decide) (by omega) (by omega) (fun hc => ?_) (fun hc => ?_)
    · exact bad e1 e2 (by omega)
    refine x_aload_n dX9_readThing_71 rfl rfl ?_
    refine x_getv (h3) dX9_readThing_72 fX9_94 rfl rfl (by decide) ?_
    refine x_iconst (v := nI 4) dX9_readThing_75 (by decide) ?_
    have e68 : tx p = 68 := by assumption
    refine x_icmp_geN (tgt := 84) dX9_readThing_76 (by decide) (by omega) (by omega) (fun hc => ?_) (fun hc => ?_)
    · exact bad e1 e2 (by omega)
    · have hst : pstep (tx p) (1, col, K, n, D, kd, cl, pt, nd) = some (4, col, K, n, D, kd, cl, pt, nd) := by
        show (if tx p = 75 ∧ K < 5 then _ else if tx p = 82 ∧ n < 5 ∧ 0 < K then _ else if tx p = 68 ∧ D < 4 then _ else _) = _
        rw [if_neg e1, if_neg e2, if_pos ⟨e68, hc⟩]
      refine x_aload_n dX9_readThing_79 rfl rfl ?_
      refine x_callVi dX9_readThing_80 mvX9_readOneDeed kX9_104 (c_readOneDeed E d M1 t (p + 1) col K n D tx kd cl pt nd ht1 hp1 (by omega) hr1 hK hn hc) rfl (by decide) (by omega) rfl rfl (Nat.le_of_ble_eq_true rfl) ?_
      rintro v N hPP
      refine hR _ _ _ _ dX9_readThing_83 ?_ (hPP.pre hF1 hpt hst)
      rcases hPP.2 with ⟨e, _⟩ | ⟨e, _⟩ <;> rw [e] <;> exact bI_n _
  have rowT : ¬ (tx p = 75 ∧ K < 5) → X E (d + 3) RX9 cX9_readThing 2 C 39 [some (.ref (ad E 40)), some (.int (nI (tx p)))] [] M1 := by
    intro e1
    refine x_iload_n dX9_readThing_39 rfl rfl ?_
    refine x_bipush (v := nI 82) dX9_readThing_40 (by decide) ?_
    refine x_icmp_neN (tgt := 65) dX9_readThing_42 (by decide) (by omega) (by omega) (fun hc => ?_) (fun hc => ?_)
    · exact deed e1 (by omega)
    have e82 : tx p = 82 := by assumption
    refine x_aload_n dX9_readThing_45 rfl rfl ?_
    refine x_getv (h2) dX9_readThing_46 fX9_91 rfl rfl (by decide) ?_
    refine x_iconst (v := nI 5) dX9_readThing_49 (by decide) ?_
    refine x_icmp_geN (tgt := 65) dX9_readThing_50 (by decide) (by omega) (by omega) (fun hc => ?_) (fun hc => ?_)
    · exact deed e1 (by omega)
    have hn5 := hc
    refine x_aload_n dX9_readThing_53 rfl rfl ?_
    refine x_getv (h1) dX9_readThing_54 fX9_88 rfl rfl (by decide) ?_
    refine x_if_leN (tgt := 65) dX9_readThing_57 (by decide) (by omega) (fun hc => ?_) (fun hc => ?_)
    · exact deed e1 (by omega)
    · have hst : pstep (tx p) (1, col, K, n, D, kd, cl, pt, nd) = some (3, 0, K, n, D, kd, cl, pt, nd) := by
        show (if tx p = 75 ∧ K < 5 then _ else if tx p = 82 ∧ n < 5 ∧ 0 < K then _ else if tx p = 68 ∧ D < 4 then _ else _) = _
        rw [if_neg e1, if_pos ⟨e82, hn5, hc⟩]
      refine x_aload_n dX9_readThing_60 rfl rfl ?_
      refine x_callVi dX9_readThing_61 mvX9_readOneRow kX9_101 (c_readOneRow E d M1 t (p + 1) K n D tx kd cl pt nd ht1 hp1 (by omega) hr1 hc hK hn5 hD) rfl (by decide) (by omega) rfl rfl (Nat.le_of_ble_eq_true rfl) ?_
      rintro v N hPP
      refine hR _ _ _ _ dX9_readThing_64 ?_ (hPP.pre hF1 hpt hst)
      rcases hPP.2 with ⟨e, _⟩ | ⟨e, _⟩ <;> rw [e] <;> exact bI_n _
  refine x_iload_n dX9_readThing_20 rfl rfl ?_
  refine x_bipush (v := nI 75) dX9_readThing_21 (by decide) ?_
  refine x_icmp_neN (tgt := 39) dX9_readThing_23 (by decide) (by omega) (by omega) (fun hc => ?_) (fun hc => ?_)
  · exact rowT (by omega)
  have e75 : tx p = 75 := by assumption
  refine x_aload_n dX9_readThing_26 rfl rfl ?_
  refine x_getv (h1) dX9_readThing_27 fX9_88 rfl rfl (by decide) ?_
  refine x_iconst (v := nI 5) dX9_readThing_30 (by decide) ?_
  refine x_icmp_geN (tgt := 39) dX9_readThing_31 (by decide) (by omega) (by omega) (fun hc => ?_) (fun hc => ?_)
  · exact rowT (by omega)
  · have hst : pstep (tx p) (1, col, K, n, D, kd, cl, pt, nd) = some (2, col, K, n, D, kd, cl, pt, nd) := by
      show (if tx p = 75 ∧ K < 5 then _ else if tx p = 82 ∧ n < 5 ∧ 0 < K then _ else if tx p = 68 ∧ D < 4 then _ else _) = _
      rw [if_pos ⟨e75, hc⟩]
    refine x_aload_n dX9_readThing_34 rfl rfl ?_
    refine x_callVi dX9_readThing_35 mvX9_readOneKin kX9_97 (c_readOneKin E d M1 t (p + 1) col K n D tx kd cl pt nd ht1 hp1 (by omega) hr1 hc hn hD) rfl (by decide) (by omega) rfl rfl (Nat.le_of_ble_eq_true rfl) ?_
    rintro v N hPP
    refine hR _ _ _ _ dX9_readThing_38 ?_ (hPP.pre hF1 hpt hst)
    rcases hPP.2 with ⟨e, _⟩ | ⟨e, _⟩ <;> rw [e] <;> exact bI_n _
set_option maxHeartbeats 8000000 in
theorem c_readFamily (E : Ev) (d : Nat) (M : PM) (t : Nat) (tx : Nat → Nat) (ht : TxM M t tx) : Ci E (d + 4) mX9_readFamily [.ref (ad E 40)] M (fun v N => v = fltA t tx ∧ Fa M N [45, 46, 47, 48] [3, 10, 12, 14] ∧ (fltA t tx = -9 → ∃ (col K n D : Nat) (kd cl pt nd : Nat → Nat), fnA t tx = (1, col, K, n, D, kd, cl, pt, nd) ∧ RdM N K n D kd cl pt nd (5 * n) ∧ K ≤ 5 ∧ n ≤ 5 ∧ D ≤ 4)) := by
  have t56 := ht.2.1
  refine Ct.ofi [some (.ref (ad E 40))] (own := RX9) rfl (by decide) (Nat.le_of_ble_eq_true rfl) rfl (fun C hR => ?_)
  refine x_aload_n dX9_readFamily_0 rfl rfl ?_
  refine x_iconst (v := nI 0) dX9_readFamily_1 (by decide) ?_
  refine x_put dX9_readFamily_2 pX9_81 rfl rfl (by decide) rfl rfl ?_
  refine x_aload_n dX9_readFamily_5 rfl rfl ?_
  refine x_iconst (v := nI 0) dX9_readFamily_6 (by decide) ?_
  refine x_put dX9_readFamily_7 pX9_91 rfl rfl (by decide) rfl rfl ?_
  refine x_aload_n dX9_readFamily_10 rfl rfl ?_
  refine x_iconst (v := nI 0) dX9_readFamily_11 (by decide) ?_
  refine x_put dX9_readFamily_12 pX9_88 rfl rfl (by decide) rfl rfl ?_
  refine x_aload_n dX9_readFamily_15 rfl rfl ?_
  refine x_iconst (v := nI 0) dX9_readFamily_16 (by decide) ?_
  refine x_put dX9_readFamily_17 pX9_94 rfl rfl (by decide) rfl rfl ?_
  have hF1 : Fa M (sa (sa (sa (sa M 40 (upd (M.1 40) 3 (nI 0))) 40 (upd ((sa M 40 (upd (M.1 40) 3 (nI 0))).1 40) 10 (nI 0))) 40 (upd ((sa (sa M 40 (upd (M.1 40) 3 (nI 0))) 40 (upd ((sa M 40 (upd (M.1 40) 3 (nI 0))).1 40) 10 (nI 0))).1 40) 12 (nI 0))) 40 (upd ((sa (sa (sa M 40 (upd (M.1 40) 3 (nI 0))) 40 (upd ((sa M 40 (upd (M.1 40) 3 (nI 0))).1 40) 10 (nI 0))) 40 (upd ((sa (sa M 40 (upd (M.1 40) 3 (nI 0))) 40 (upd ((sa M 40 (upd (M.1 40) 3 (nI 0))).1 40) 10 (nI 0))).1 40) 12 (nI 0))).1 40) 14 (nI 0))) [45, 46, 47, 48] [3, 10, 12, 14] := (((Fa.rf.up (by decide)).up (by decide)).up (by decide)).up (by decide)
  have e12 : (sa (sa (sa (sa M 40 (upd (M.1 40) 3 (nI 0))) 40 (upd ((sa M 40 (upd (M.1 40) 3 (nI 0))).1 40) 10 (nI 0))) 40 (upd ((sa (sa M 40 (upd (M.1 40) 3 (nI 0))) 40 (upd ((sa M 40 (upd (M.1 40) 3 (nI 0))).1 40) 10 (nI 0))).1 40) 12 (nI 0))) 40 (upd ((sa (sa (sa M 40 (upd (M.1 40) 3 (nI 0))) 40 (upd ((sa M 40 (upd (M.1 40) 3 (nI 0))).1 40) 10 (nI 0))) 40 (upd ((sa (sa M 40 (upd (M.1 40) 3 (nI 0))) 40 (upd ((sa M 40 (upd (M.1 40) 3 (nI 0))).1 40) 10 (nI 0))).1 40) 12 (nI 0))).1 40) 14 (nI 0))).1 40 12 = nI 0 := sau_v (by decide) (by rw [sa_1, pk_us])
  have e10 : (sa (sa (sa (sa M 40 (upd (M.1 40) 3 (nI 0))) 40 (upd ((sa M 40 (upd (M.1 40) 3 (nI 0))).1 40) 10 (nI 0))) 40 (upd ((sa (sa M 40 (upd (M.1 40) 3 (nI 0))) 40 (upd ((sa M 40 (upd (M.1 40) 3 (nI 0))).1 40) 10 (nI 0))).1 40) 12 (nI 0))) 40 (upd ((sa (sa (sa M 40 (upd (M.1 40) 3 (nI 0))) 40 (upd ((sa M 40 (upd (M.1 40) 3 (nI 0))).1 40) 10 (nI 0))) 40 (upd ((sa (sa M 40 (upd (M.1 40) 3 (nI 0))) 40 (upd ((sa M 40 (upd (M.1 40) 3 (nI 0))).1 40) 10 (nI 0))).1 40) 12 (nI 0))).1 40) 14 (nI 0))).1 40 10 = nI 0 := sau_v (by decide) (sau_v (by decide) (by rw [sa_1, pk_us]))
  have e14 : (sa (sa (sa (sa M 40 (upd (M.1 40) 3 (nI 0))) 40 (upd ((sa M 40 (upd (M.1 40) 3 (nI 0))).1 40) 10 (nI 0))) 40 (upd ((sa (sa M 40 (upd (M.1 40) 3 (nI 0))) 40 (upd ((sa M 40 (upd (M.1 40) 3 (nI 0))).1 40) 10 (nI 0))).1 40) 12 (nI 0))) 40 (upd ((sa (sa (sa M 40 (upd (M.1 40) 3 (nI 0))) 40 (upd ((sa M 40 (upd (M.1 40) 3 (nI 0))).1 40) 10 (nI 0))) 40 (upd ((sa (sa M 40 (upd (M.1 40) 3 (nI 0))) 40 (upd ((sa M 40 (upd (M.1 40) 3 (nI 0))).1 40) 10 (nI 0))).1 40) 12 (nI 0))).1 40) 14 (nI 0))).1 40 14 = nI 0 := by rw [sa_1, pk_us]
  revert hF1 e12 e10 e14
  generalize sa (sa (sa (sa M 40 _) 40 _) 40 _) 40 _ = M1
  intro hF1 e12 e10 e14
  have ht1 := ht.fa hF1 (by decide) (by decide)
  obtain ⟨t1, t2, t3⟩ := id ht1
  have zero : fltA t tx = nI 0 → X E (d + 4) RX9 cX9_readFamily 1 C 38 [some (.ref (ad E 40))] [] M1 := by
    intro hz
    refine x_iconst (v := nI 0) dX9_readFamily_38 (by decide) ?_
    exact hR _ _ _ _ dX9_readFamily_39 (⟨hz.symm, hF1, fun e => absurd (hz.symm.trans e) (nI_n9 (by decide))⟩)
  refine x_aload_n dX9_readFamily_20 rfl rfl ?_
  refine x_getv (t1) dX9_readFamily_21 fX9_78 rfl rfl (by decide) ?_
  refine x_if_eqN (tgt := 38) dX9_readFamily_24 (by decide) (by omega) (fun hc => ?_) (fun hc => ?_)
  · exact zero (by unfold fltA; rw [hc]; rfl)
  have h0t : 0 < t := by omega
  refine x_aload_n dX9_readFamily_27 rfl rfl ?_
  refine x_getr dX9_readFamily_28 fX9_7 rfl rfl (by decide) ?_
  refine x_iconst (v := nI 0) dX9_readFamily_31 (by decide) ?_
  refine x_ialdN dX9_readFamily_32 rfl (by decide) (by omega) (by decide) ((t3 0 h0t).1) ?_
  refine x_bipush (v := nI 70) dX9_readFamily_33 (by decide) ?_
  have hb0 := (t3 0 h0t).2
  refine x_icmp_eqN (tgt := 40) dX9_readFamily_35 (by decide) (by omega) (by omega) (fun hc => ?_) (fun hc => ?_)
  rotate_left
  · refine zero (flt_n h0t ?_)
    show (if tx 0 = 70 then _ else _) = _
    rw [if_neg hc]
  have hst : pstep (tx 0) ps0 = some (1, 0, 0, 0, 0, zf, zf, zf, zf) := by
    show (if tx 0 = 70 then _ else _) = _
    rw [if_pos hc]
  refine x_aload_n dX9_readFamily_40 rfl rfl ?_
  refine x_iconst (v := nI 1) dX9_readFamily_41 (by decide) ?_
  refine x_put dX9_readFamily_42 pX9_81 rfl rfl (by decide) rfl rfl ?_
  have key : ∀ m p, t - p ≤ m → p ≤ t → ∀ N col K n D kd cl pt nd, Fa M N [45, 46, 47, 48] [3, 10, 12, 14] → N.1 40 3 = nI p → RdM N K n D kd cl pt nd (5 * n) → K ≤ 5 → n ≤ 5 → D ≤ 4 → fltA t tx = flt tx (t - p) p (1, col, K, n, D, kd, cl, pt, nd) → fnA t tx = fnS tx (t - p) p (1, col, K, n, D, kd, cl, pt, nd) → X E (d + 4) RX9 cX9_readFamily 1 C 45 [some (.ref (ad E 40))] [] N := by
    intro m
    induction m with
    | zero =>
      intro p hm hpt N col K n D kd cl pt nd hN hp hr hK hn hD hfl hfn
      have : p = t := by omega
      subst this
      refine x_aload_n dX9_readFamily_45 rfl rfl ?_
      refine x_getv (hp) dX9_readFamily_46 fX9_81 rfl rfl (by decide) ?_
      refine x_aload_n dX9_readFamily_49 rfl rfl ?_
      refine x_getv (hN.f (by decide) ht.1) dX9_readFamily_50 fX9_78 rfl rfl (by decide) ?_
      refine x_icmp_geN (tgt := 68) dX9_readFamily_53 (by decide) (by omega) (by omega) (fun hc => ?_) (fun hc => ?_)
      · rw [flt_w rfl] at hfl
        rw [Nat.sub_self] at hfn
        refine x_bipush (v := -9) dX9_readFamily_68 (by decide) ?_
        exact hR _ _ _ _ dX9_readFamily_70 (⟨hfl.symm, hN, fun _ => ⟨col, K, n, D, kd, cl, pt, nd, hfn, hr, hK, hn, hD⟩⟩)
      · exact absurd hc (by omega)
    | succ m ih =>
      intro p hm hpt N col K n D kd cl pt nd hN hp hr hK hn hD hfl hfn
      refine x_aload_n dX9_readFamily_45 rfl rfl ?_
      refine x_getv (hp) dX9_readFamily_46 fX9_81 rfl rfl (by decide) ?_
      refine x_aload_n dX9_readFamily_49 rfl rfl ?_
      refine x_getv (hN.f (by decide) ht.1) dX9_readFamily_50 fX9_78 rfl rfl (by decide) ?_
      refine x_icmp_geN (tgt := 68) dX9_readFamily_53 (by decide) (by omega) (by omega) (fun hc => ?_) (fun hc => ?_)
      · have : p = t := by omega
        subst this
        rw [flt_w rfl] at hfl
        rw [Nat.sub_self] at hfn
        refine x_bipush (v := -9) dX9_readFamily_68 (by decide) ?_
        exact hR _ _ _ _ dX9_readFamily_70 (⟨hfl.symm, hN, fun _ => ⟨col, K, n, D, kd, cl, pt, nd, hfn, hr, hK, hn, hD⟩⟩)
      have htN := ht.fa hN (by decide) (by decide)
      refine x_aload_n dX9_readFamily_56 rfl rfl ?_
      refine x_callVi dX9_readFamily_57 mvX9_readThing kX9_107 (c_readThing E d N t p col K n D tx kd cl pt nd htN hp hc hr hK hn hD) rfl (by decide) (by omega) rfl rfl (Nat.le_of_ble_eq_true rfl) ?_
      rintro v N2 ⟨hF2, hPP⟩
      have hF2' : Fa M N2 [45, 46, 47, 48] [3, 10, 12, 14] := hN.tr hF2 (fun _ h => h) (fun _ h => h)
      rcases hPP with ⟨rfl, p', col', K', n', D', kd', cl', pt', nd', a1, a2, a3, a4, a5, a6, a7, a8, a9⟩ | ⟨rfl, p', a1, a2, a3⟩
      · refine x_if_neB (tgt := 45) dX9_readFamily_60 (by decide) (fun hc => ?_) (fun hc => ?_)
        · exact ih p' (by omega) a1 N2 col' K' n' D' kd' cl' pt' nd' hF2' a3 a4 a5 a6 a7 (hfl.trans a8) (hfn.trans a9)
        · cases hc
      · refine x_if_neB (tgt := 45) dX9_readFamily_60 (by decide) (fun hc => ?_) (fun hc => ?_)
        · cases hc
        · refine x_aload_n dX9_readFamily_63 rfl rfl ?_
          refine x_getv (a2) dX9_readFamily_64 fX9_81 rfl rfl (by decide) ?_
          have e := hfl.trans a3
          exact hR _ _ _ _ dX9_readFamily_67 (⟨e.symm, hF2', fun e2 => absurd (e.symm.trans e2) (nI_n9 (by omega))⟩)
  refine key (t - 1) 1 (Nat.le_refl _) h0t _ 0 0 0 0 zf zf zf zf (hF1.up (by decide)) (by rw [sa_1, pk_us]) ⟨sau_v (by decide) e12, sau_v (by decide) e10, sau_v (by decide) e14, fun k h => absurd h (by omega), fun k h => absurd h (by omega), fun k h => absurd h (by omega)⟩ (by decide) (by decide) (by decide) (flt_y h0t hst) (fnS_y h0t hst)
set_option maxHeartbeats 8000000 in
theorem cM_fault (E : Ev) (d : Nat) (M : PM) (t : Nat) (tx : Nat → Nat) (hT : M.1 40 0 = nI 0) (ht : TxM M t tx) : Ci E (d + 5) mX9_fault [.ref (ad E 40)] M (fun v N => v = fltA t tx ∧ Fa M N [45, 46, 47, 48] [3, 10, 12, 14]) := by
  refine Ct.ofi [some (.ref (ad E 40))] (own := RX9) rfl (by decide) (Nat.le_of_ble_eq_true rfl) rfl (fun C hR => ?_)
  refine x_aload_n dX9_fault_0 rfl rfl ?_
  refine x_iconst (v := nI 0) dX9_fault_1 (by decide) ?_
  refine x_put dX9_fault_2 pX9_68 rfl rfl (by decide) rfl rfl ?_
  rw [thr hT]
  refine x_aload_n dX9_fault_5 rfl rfl ?_
  refine x_callVi dX9_fault_6 mvX9_readFamily kX9_110 (c_readFamily E d M t tx ht) rfl (by decide) (by omega) rfl rfl (Nat.le_of_ble_eq_true rfl) ?_
  rintro _ N ⟨rfl, hN, _⟩
  exact hR _ _ _ _ dX9_fault_9 (⟨rfl, hN⟩)
