-- ===== the reference: slots, seen, the text, the seed, doings, years =====
theorem wb_tb (n : Nat) : (lN n).toBitVec = BitVec.ofNat 64 n := rfl
theorem wb_inj {a b : Int64} (h : a.toBitVec = b.toBitVec) : a = b := Int64.toBitVec_inj.mp h
theorem wb_tn {n : Nat} (h : n < 2 ^ 64) : (lN n).toBitVec.toNat = n := by rw [wb_tb, BitVec.toNat_ofNat, Nat.mod_eq_of_lt h]
theorem wb_of (x : Int64) : ∃ n, n < 2 ^ 64 ∧ x = lN n := ⟨x.toBitVec.toNat, x.toBitVec.isLt, wb_inj (by rw [wb_tb]; simp)⟩
theorem wb_cu : ∀ k, k < 64 → ((nI k).toInt64.toUInt64 &&& Int64.toUInt64 63) = UInt64.ofNat k := by decide +kernel
theorem wb_shr {n k : Nat} (hn : n < 2 ^ 64) (hk : k < 64) : ((lN n).toUInt64 >>> ((nI k).toInt64.toUInt64 &&& Int64.toUInt64 63)).toInt64 = lN (n / 2 ^ k) := by
  rw [wb_cu k hk]
  apply wb_inj
  apply BitVec.eq_of_toNat_eq
  show ((lN n).toUInt64 >>> UInt64.ofNat k).toNat = (BitVec.ofNat 64 _).toNat
  have h1 : (UInt64.ofNat k).toNat = k := by
    show (BitVec.ofNat 64 k).toNat = k
    rw [BitVec.toNat_ofNat, Nat.mod_eq_of_lt (by omega)]
  have h2 : (lN n).toUInt64.toNat = n := wb_tn hn
  rw [UInt64.toNat_shiftRight, h1, h2, Nat.mod_eq_of_lt hk, Nat.shiftRight_eq_div_pow, BitVec.toNat_ofNat, Nat.mod_eq_of_lt (Nat.lt_of_le_of_lt (Nat.div_le_self _ _) hn)]
/-- one place of a row is another -/
def uf {α : Type} (F : Nat → α) (s : Nat) (x : α) : Nat → α := fun j => if j = s then x else F j
theorem uf_s {α : Type} {F : Nat → α} {s : Nat} {x : α} : uf F s x s = x := if_pos rfl
theorem uf_n {α : Type} {F : Nat → α} {s j : Nat} {x : α} (h : j ≠ s) : uf F s x j = F j := if_neg h
def KpM (M : PM) (n : Nat) (kp : Nat → Nat) (Q W : Nat → Nat → Nat) (G : Nat → Int32) : Prop := ∀ s, s < 2 → M.1 53 s = nI (kp s) ∧ kp s < 2 ∧ (kp s ≠ 0 → BkP M 52 s n (Q s) (W s) (G s))
def SnM (M : PM) (sn : Nat) (sk ss : Nat → Nat) : Prop := M.1 40 23 = nI sn ∧ sn ≤ 6 ∧ ∀ i, i < sn → M.1 54 i = nI (sk i) ∧ M.1 55 i = nI (ss i) ∧ sk i < 5 ∧ ss i < 3
def TxM (M : PM) (t : Nat) (tx : Nat → Nat) : Prop := M.1 40 2 = nI t ∧ t ≤ 56 ∧ ∀ i, i < t → M.1 41 i = nI (tx i) ∧ tx i < 256
theorem seedOnly9 : ∀ j : Nat, ([.inr false, .inl 41, .inr false, .inr false, .inr false, .inr false, .inl 42, .inr false, .inl 43, .inl 44, .inr false, .inl 45, .inr false, .inl 46, .inr false, .inl 47, .inl 48, .inl 49, .inl 50, .inl 51, .inr false, .inl 52, .inl 53, .inr false, .inl 54, .inl 55, .inr true, .inl 56, .inl 57, .inl 58, .inr false, .inr false, .inr false, .inr false, .inl 59] : List (Nat ⊕ Bool))[j]? = some (Sum.inr true) → j = 26 := by
  intro j hj
  have hl : j < 35 := (List.getElem?_eq_some_iff.mp hj).1
  have key : ∀ j, j < 35 → ([.inr false, .inl 41, .inr false, .inr false, .inr false, .inr false, .inl 42, .inr false, .inl 43, .inl 44, .inr false, .inl 45, .inr false, .inl 46, .inr false, .inl 47, .inl 48, .inl 49, .inl 50, .inl 51, .inr false, .inl 52, .inl 53, .inr false, .inl 54, .inl 55, .inr true, .inl 56, .inl 57, .inl 58, .inr false, .inr false, .inr false, .inr false, .inl 59] : List (Nat ⊕ Bool))[j]? = some (Sum.inr true) → j = 26 := by decide +kernel
  exact key j hl hj
set_option maxHeartbeats 8000000 in
theorem cM_keep_no (E : Ev) (d : Nat) (M : PM) (s : Int32) (hT : M.1 40 0 = nI 0) (hs : ¬ inR s 2) : Ci E (d + 1) mX9_keep [.ref (ad E 40), .int s] M (fun v N => v = -1 ∧ M = N) := by
  refine Ct.ofi [some (.ref (ad E 40)), some (.int s), none] (own := RX9) rfl (by decide) (Nat.le_of_ble_eq_true rfl) rfl (fun C hR => ?_)
  refine x_aload_n dX9_keep_0 rfl rfl ?_
  refine x_iconst (v := nI 0) dX9_keep_1 (by decide) ?_
  refine x_put dX9_keep_2 pX9_68 rfl rfl (by decide) rfl rfl ?_
  rw [thr hT]
  refine x_iload_n dX9_keep_5 rfl rfl ?_
  refine x_i2l dX9_keep_6 ?_
  refine x_lconst (v := 0) dX9_keep_7 rfl ?_
  refine x_lconst (v := 1) dX9_keep_8 rfl ?_
  refine x_callSi dX9_keep_9 msX9_in kX9_74 (c_in3 E d M s _ _ 0 1 rfl rfl) (by omega) rfl rfl (Nat.le_of_ble_eq_true rfl) ?_
  rintro _ _ ⟨rfl, rfl⟩
  refine x_if_neB (tgt := 17) dX9_keep_12 (by decide) (fun hc => ?_) (fun hc => ?_)
  · exact absurd (of_decide_eq_true hc) (by omega)
  · refine x_iconst (v := -1) dX9_keep_15 (by decide) ?_
    exact hR _ _ _ _ dX9_keep_16 (⟨rfl, rfl⟩)
set_option maxHeartbeats 8000000 in
theorem cM_keep (E : Ev) (d : Nat) (M : PM) (n s : Nat) (q w : Nat → Nat) (g : Int32) (kp : Nat → Nat) (Q W : Nat → Nat → Nat) (G : Nat → Int32) (hT : M.1 40 0 = nI 0) (hs : s < 2) (hp : Pg M 49 n q w) (hg : M.1 49 30 = g) (hk : KpM M n kp Q W G) : Ci E (d + 1) mX9_keep [.ref (ad E 40), .int (nI s)] M (fun v N => v = g ∧ Fa M N [52, 53] [] ∧ KpM N n (uf kp s 1) (uf Q s q) (uf W s w) (uf G s g)) := by
  have hn5 := hp.2.2.1
  have hst : (nI s).toInt = (s : Int) := nI_toInt (by omega)
  refine Ct.ofi [some (.ref (ad E 40)), some (.int (nI s)), none] (own := RX9) rfl (by decide) (Nat.le_of_ble_eq_true rfl) rfl (fun C hR => ?_)
  refine x_aload_n dX9_keep_0 rfl rfl ?_
  refine x_iconst (v := nI 0) dX9_keep_1 (by decide) ?_
  refine x_put dX9_keep_2 pX9_68 rfl rfl (by decide) rfl rfl ?_
  rw [thr hT]
  refine x_iload_n dX9_keep_5 rfl rfl ?_
  refine x_i2l dX9_keep_6 ?_
  refine x_lconst (v := 0) dX9_keep_7 rfl ?_
  refine x_lconst (v := 1) dX9_keep_8 rfl ?_
  refine x_callSi dX9_keep_9 msX9_in kX9_74 (c_in3 E d M _ _ _ 0 1 rfl rfl) (by omega) rfl rfl (Nat.le_of_ble_eq_true rfl) ?_
  rintro _ _ ⟨rfl, rfl⟩
  refine x_if_neB (tgt := 17) dX9_keep_12 (by decide) (fun hc => ?_) (fun hc => ?_)
  rotate_left
  · exact absurd (of_decide_eq_false hc) (by omega)
  refine x_aload_n dX9_keep_17 rfl rfl ?_
  refine x_getr dX9_keep_18 fX9_46 rfl rfl (by decide) ?_
  refine x_iload_n dX9_keep_21 rfl rfl ?_
  refine x_iconst (v := nI 1) dX9_keep_22 (by decide) ?_
  refine x_zastN dX9_keep_23 rfl (by decide) (by omega) (by decide) (by decide) ?_
  refine x_iconst (v := nI 0) dX9_keep_24 (by decide) ?_
  refine xis3_2 dX9_keep_25 rfl ?_
  have key : ∀ i, i ≤ 31 → ∀ N, Fa M N [52, 53] [] → N.1 53 = upd (M.1 53) s (nI 1) → (∀ k, k < i → N.1 52 (31 * s + k) = M.1 49 k) → (∀ s', s' < 2 → s' ≠ s → ∀ k, k < 31 → N.1 52 (31 * s' + k) = M.1 52 (31 * s' + k)) → X E (d + 1) RX9 cX9_keep 3 C 26 [some (.ref (ad E 40)), some (.int (nI s)), some (.int (nI i))] [] N := by
    refine up_loop 31 ?_ ?_
    · intro N hN h53 hk1 hk2
      refine x_iload_n dX9_keep_26 rfl rfl ?_
      refine x_bipush (v := nI 31) dX9_keep_27 (by decide) ?_
      refine x_icmp_geN (tgt := 55) dX9_keep_29 (by decide) (by omega) (by omega) (fun hc => ?_) (fun hc => ?_)
      · refine x_aload_n dX9_keep_55 rfl rfl ?_
        refine x_getr dX9_keep_56 fX9_34 rfl rfl (by decide) ?_
        refine x_bipush (v := nI 30) dX9_keep_59 (by decide) ?_
        refine x_ialdN dX9_keep_61 rfl (by decide) (by omega) (by decide) (hN.v (by decide) (by decide) hg) ?_
        refine hR _ _ _ _ dX9_keep_62 ⟨rfl, hN, fun s' hs' => ?_⟩
        by_cases e : s' = s
        · subst e
          rw [uf_s, uf_s, uf_s, uf_s, h53, pk_us]
          exact ⟨rfl, by decide, fun _ => hp.bk hg hk1⟩
        · rw [uf_n e, uf_n e, uf_n e, uf_n e, h53, pk_un e]
          obtain ⟨k1, k2, k3⟩ := hk s' hs'
          exact ⟨k1, k2, fun h => (k3 h).of hn5 (fun k hk => hk2 s' hs' e k hk)⟩
      · exact absurd hc (by omega)
    · intro i hi ih N hN h53 hk1 hk2
      refine x_iload_n dX9_keep_26 rfl rfl ?_
      refine x_bipush (v := nI 31) dX9_keep_27 (by decide) ?_
      refine x_icmp_geN (tgt := 55) dX9_keep_29 (by decide) (by omega) (by omega) (fun hc => ?_) (fun hc => ?_)
      · exact absurd hc (by omega)
      refine x_aload_n dX9_keep_32 rfl rfl ?_
      refine x_getr dX9_keep_33 fX9_43 rfl rfl (by decide) ?_
      refine x_bipush (v := nI 31) dX9_keep_36 (by decide) ?_
      refine x_iload_n dX9_keep_38 rfl rfl ?_
      refine x_imulN dX9_keep_39 ?_
      refine x_iload_n dX9_keep_40 rfl rfl ?_
      refine x_iaddN dX9_keep_41 ?_
      refine x_aload_n dX9_keep_42 rfl rfl ?_
      refine x_getr dX9_keep_43 fX9_34 rfl rfl (by decide) ?_
      refine x_iload_n dX9_keep_46 rfl rfl ?_
      refine x_ialdN dX9_keep_47 rfl (by decide) (by omega) (by decide) (hN.v (by decide) (by decide) rfl) ?_
      refine x_iastN dX9_keep_48 rfl (by decide) (by omega) (by decide) ?_
      refine xinc3_2N dX9_keep_49 rfl ?_
      refine x_goto (tgt := 26) dX9_keep_52 (by decide) ?_
      refine ih _ (hN.st (by decide) (by decide)) (by rw [sa_ne (by decide)]; exact h53) (fun k hk0 => ?_) (fun s' hs' e k hk0 => ?_)
      · rw [sa_1]
        by_cases e : k = i
        · subst e; exact pk_us
        · rw [pk_un (by omega)]; exact hk1 k (by omega)
      · rw [sa_1, pk_un (by omega)]; exact hk2 s' hs' e k hk0
  exact key 0 (by omega) _ (Fa.rf.st (by decide) (by decide)) (by rw [sa_1]) (fun k hk => absurd hk (by omega)) (fun s' _ _ k _ => by rw [sa_ne (by decide)])
set_option maxHeartbeats 8000000 in
theorem cM_again_no (E : Ev) (d : Nat) (M : PM) (s : Int32) (hT : M.1 40 0 = nI 0) (hs : ¬ inR s 2) : Ci E (d + 1) mX9_again [.ref (ad E 40), .int s] M (fun v N => v = -1 ∧ M = N) := by
  refine Ct.ofi [some (.ref (ad E 40)), some (.int s), none] (own := RX9) rfl (by decide) (Nat.le_of_ble_eq_true rfl) rfl (fun C hR => ?_)
  refine x_aload_n dX9_again_0 rfl rfl ?_
  refine x_iconst (v := nI 0) dX9_again_1 (by decide) ?_
  refine x_put dX9_again_2 pX9_68 rfl rfl (by decide) rfl rfl ?_
  rw [thr hT]
  refine x_iload_n dX9_again_5 rfl rfl ?_
  refine x_i2l dX9_again_6 ?_
  refine x_lconst (v := 0) dX9_again_7 rfl ?_
  refine x_lconst (v := 1) dX9_again_8 rfl ?_
  refine x_callSi dX9_again_9 msX9_in kX9_74 (c_in3 E d M s _ _ 0 1 rfl rfl) (by omega) rfl rfl (Nat.le_of_ble_eq_true rfl) ?_
  rintro _ _ ⟨rfl, rfl⟩
  refine x_if_neB (tgt := 17) dX9_again_12 (by decide) (fun hc => ?_) (fun hc => ?_)
  · exact absurd (of_decide_eq_true hc) (by omega)
  · refine x_iconst (v := -1) dX9_again_15 (by decide) ?_
    exact hR _ _ _ _ dX9_again_16 (⟨rfl, rfl⟩)
set_option maxHeartbeats 8000000 in
theorem cM_again (E : Ev) (d : Nat) (M : PM) (n s : Nat) (kp : Nat → Nat) (Q W : Nat → Nat → Nat) (G : Nat → Int32) (hT : M.1 40 0 = nI 0) (hn5 : n ≤ 5) (hs : s < 2) (hk : KpM M n kp Q W G) : Ci E (d + 1) mX9_again [.ref (ad E 40), .int (nI s)] M (fun v N => (kp s = 0 → v = -3 ∧ M = N) ∧ (kp s ≠ 0 → v = G s ∧ Fa M N [49] [20] ∧ Pg N 49 n (Q s) (W s) ∧ N.1 49 30 = G s ∧ N.1 40 20 = nI 0)) := by
  have hst : (nI s).toInt = (s : Int) := nI_toInt (by omega)
  obtain ⟨k1, k2, k3⟩ := hk s hs
  refine Ct.ofi [some (.ref (ad E 40)), some (.int (nI s)), none] (own := RX9) rfl (by decide) (Nat.le_of_ble_eq_true rfl) rfl (fun C hR => ?_)
  refine x_aload_n dX9_again_0 rfl rfl ?_
  refine x_iconst (v := nI 0) dX9_again_1 (by decide) ?_
  refine x_put dX9_again_2 pX9_68 rfl rfl (by decide) rfl rfl ?_
  rw [thr hT]
  refine x_iload_n dX9_again_5 rfl rfl ?_
  refine x_i2l dX9_again_6 ?_
  refine x_lconst (v := 0) dX9_again_7 rfl ?_
  refine x_lconst (v := 1) dX9_again_8 rfl ?_
  refine x_callSi dX9_again_9 msX9_in kX9_74 (c_in3 E d M _ _ _ 0 1 rfl rfl) (by omega) rfl rfl (Nat.le_of_ble_eq_true rfl) ?_
  rintro _ _ ⟨rfl, rfl⟩
  refine x_if_neB (tgt := 17) dX9_again_12 (by decide) (fun hc => ?_) (fun hc => ?_)
  rotate_left
  · exact absurd (of_decide_eq_false hc) (by omega)
  refine x_aload_n dX9_again_17 rfl rfl ?_
  refine x_getr dX9_again_18 fX9_46 rfl rfl (by decide) ?_
  refine x_iload_n dX9_again_21 rfl rfl ?_
  refine x_zaldN dX9_again_22 rfl (by decide) (by omega) (by decide) (k1) ?_
  refine x_if_neN (tgt := 29) dX9_again_23 (by decide) (by omega) (fun hc => ?_) (fun hc => ?_)
  rotate_left
  · refine x_bipush (v := -3) dX9_again_26 (by decide) ?_
    exact hR _ _ _ _ dX9_again_28 (⟨fun _ => ⟨rfl, rfl⟩, fun e => absurd hc e⟩)
  have hk0 := hc
  refine x_iconst (v := nI 0) dX9_again_29 (by decide) ?_
  refine xis3_2 dX9_again_30 rfl ?_
  have key : ∀ i, i ≤ 31 → ∀ N, Fa M N [49] [20] → (∀ k, k < i → N.1 49 k = M.1 52 (31 * s + k)) → X E (d + 1) RX9 cX9_again 3 C 31 [some (.ref (ad E 40)), some (.int (nI s)), some (.int (nI i))] [] N := by
    refine up_loop 31 ?_ ?_
    · intro N hN hk1
      obtain ⟨p1, p2⟩ := (k3 hk0).pg hn5 hk1
      refine x_iload_n dX9_again_31 rfl rfl ?_
      refine x_bipush (v := nI 31) dX9_again_32 (by decide) ?_
      refine x_icmp_geN (tgt := 60) dX9_again_34 (by decide) (by omega) (by omega) (fun hc => ?_) (fun hc => ?_)
      · refine x_aload_n dX9_again_60 rfl rfl ?_
        refine x_iconst (v := nI 0) dX9_again_61 (by decide) ?_
        refine x_put dX9_again_62 pX9_127 rfl rfl (by decide) rfl rfl ?_
        refine x_aload_n dX9_again_65 rfl rfl ?_
        refine x_getr dX9_again_66 fX9_34 rfl rfl (by decide) ?_
        refine x_bipush (v := nI 30) dX9_again_69 (by decide) ?_
        refine x_ialdN dX9_again_71 rfl (by decide) (by omega) (by decide) (sa_v (by decide) p2) ?_
        exact hR _ _ _ _ dX9_again_72 ⟨fun e => absurd e hk0, fun _ => ⟨rfl, hN.up (by decide), p1.to (by rw [sa_ne (by decide)]), sa_v (by decide) p2, by rw [sa_1, pk_us]⟩⟩
      · exact absurd hc (by omega)
    · intro i hi ih N hN hk1
      refine x_iload_n dX9_again_31 rfl rfl ?_
      refine x_bipush (v := nI 31) dX9_again_32 (by decide) ?_
      refine x_icmp_geN (tgt := 60) dX9_again_34 (by decide) (by omega) (by omega) (fun hc => ?_) (fun hc => ?_)
      · exact absurd hc (by omega)
      refine x_aload_n dX9_again_37 rfl rfl ?_
      refine x_getr dX9_again_38 fX9_34 rfl rfl (by decide) ?_
      refine x_iload_n dX9_again_41 rfl rfl ?_
      refine x_aload_n dX9_again_42 rfl rfl ?_
      refine x_getr dX9_again_43 fX9_43 rfl rfl (by decide) ?_
      refine x_bipush (v := nI 31) dX9_again_46 (by decide) ?_
      refine x_iload_n dX9_again_48 rfl rfl ?_
      refine x_imulN dX9_again_49 ?_
      refine x_iload_n dX9_again_50 rfl rfl ?_
      refine x_iaddN dX9_again_51 ?_
      refine x_ialdN dX9_again_52 rfl (by decide) (by omega) (by decide) (hN.v (by decide) (by decide) rfl) ?_
      refine x_iastN dX9_again_53 rfl (by decide) (by omega) (by decide) ?_
      refine xinc3_2N dX9_again_54 rfl ?_
      refine x_goto (tgt := 31) dX9_again_57 (by decide) ?_
      refine ih _ (hN.st (by decide) (by decide)) (fun k hk0 => ?_)
      rw [sa_1]
      by_cases e : k = i
      · subst e; exact pk_us
      · rw [pk_un e]; exact hk1 k (by omega)
  exact key 0 (by omega) M Fa.rf (fun k hk => absurd hk (by omega))
def aSee (K sn : Nat) (k s : Int32) : Int32 := if inR k K then if inR s 3 then if sn = 6 then -4 else nI (sn + 1) else -2 else -1
def seeOk (K sn : Nat) (k s : Int32) : Prop := inR k K ∧ inR s 3 ∧ sn ≠ 6
set_option maxHeartbeats 8000000 in
theorem cM_see (E : Ev) (d : Nat) (M : PM) (K sn : Nat) (sk ss : Nat → Nat) (k s : Int32) (hT : M.1 40 0 = nI 0) (hK : M.1 40 5 = nI K) (hK5 : K ≤ 5) (hs : SnM M sn sk ss) : Ci E (d + 1) mX9_see [.ref (ad E 40), .int k, .int s] M (fun v N => v = aSee K sn k s ∧ (¬ seeOk K sn k s → M = N) ∧ (seeOk K sn k s → Fa M N [54, 55] [23] ∧ SnM N (sn + 1) (uf sk sn (tn k)) (uf ss sn (tn s)))) := by
  obtain ⟨s1, s2, s3⟩ := hs
  refine Ct.ofi [some (.ref (ad E 40)), some (.int k), some (.int s)] (own := RX9) rfl (by decide) (Nat.le_of_ble_eq_true rfl) rfl (fun C hR => ?_)
  refine x_aload_n dX9_see_0 rfl rfl ?_
  refine x_iconst (v := nI 0) dX9_see_1 (by decide) ?_
  refine x_put dX9_see_2 pX9_68 rfl rfl (by decide) rfl rfl ?_
  rw [thr hT]
  refine x_iload_n dX9_see_5 rfl rfl ?_
  refine x_i2l dX9_see_6 ?_
  refine x_lconst (v := 0) dX9_see_7 rfl ?_
  refine x_aload_n dX9_see_8 rfl rfl ?_
  refine x_getv (hK) dX9_see_9 fX9_117 rfl rfl (by decide) ?_
  refine x_iconst (v := nI 1) dX9_see_12 (by decide) ?_
  refine x_isub dX9_see_13 ?_
  refine x_i2l dX9_see_14 ?_
  refine x_callSi dX9_see_15 msX9_in kX9_74 (c_in3 E d M k _ _ 0 ((K : Int) - 1) rfl (tl1 (by omega))) (by omega) rfl rfl (Nat.le_of_ble_eq_true rfl) ?_
  rintro _ _ ⟨rfl, rfl⟩
  refine x_if_neB (tgt := 23) dX9_see_18 (by decide) (fun hc => ?_) (fun hc => ?_)
  rotate_left
  · have h1 : ¬ inR k K := fun e => of_decide_eq_false hc (by omega)
    refine x_iconst (v := -1) dX9_see_21 (by decide) ?_
    exact hR _ _ _ _ dX9_see_22 (⟨by unfold aSee; rw [if_neg h1], fun _ => rfl, fun e => absurd e.1 h1⟩)
  have h1 : inR k K := by have := of_decide_eq_true hc; omega
  refine x_iload_n dX9_see_23 rfl rfl ?_
  refine x_i2l dX9_see_24 ?_
  refine x_lconst (v := 0) dX9_see_25 rfl ?_
  refine x_ldc2 dX9_see_26 qX9_220 ?_
  refine x_callSi dX9_see_29 msX9_in kX9_74 (c_in3 E d M s _ _ 0 2 rfl rfl) (by omega) rfl rfl (Nat.le_of_ble_eq_true rfl) ?_
  rintro _ _ ⟨rfl, rfl⟩
  refine x_if_neB (tgt := 38) dX9_see_32 (by decide) (fun hc => ?_) (fun hc => ?_)
  rotate_left
  · have h2 : ¬ inR s 3 := fun e => of_decide_eq_false hc (by omega)
    refine x_bipush (v := -2) dX9_see_35 (by decide) ?_
    exact hR _ _ _ _ dX9_see_37 (⟨by unfold aSee; rw [if_pos h1, if_neg h2], fun _ => rfl, fun e => absurd e.2.1 h2⟩)
  have h2 : inR s 3 := by have := of_decide_eq_true hc; omega
  refine x_aload_n dX9_see_38 rfl rfl ?_
  refine x_getv (s1) dX9_see_39 fX9_169 rfl rfl (by decide) ?_
  refine x_bipush (v := nI 6) dX9_see_42 (by decide) ?_
  refine x_icmp_neN (tgt := 50) dX9_see_44 (by decide) (by omega) (by omega) (fun hc => ?_) (fun hc => ?_)
  rotate_left
  · refine x_bipush (v := -4) dX9_see_47 (by decide) ?_
    exact hR _ _ _ _ dX9_see_49 (⟨by unfold aSee; rw [if_pos h1, if_pos h2, if_pos hc], fun _ => rfl, fun e => absurd hc e.2.2⟩)
  have h6 : sn ≠ 6 := hc
  rcases ixc k K (by omega) with ⟨k, hk, rfl, _⟩ | hk
  rotate_left
  · exact absurd h1 hk
  rcases ixc s 3 (by decide) with ⟨s, hss, rfl, _⟩ | hk
  rotate_left
  · exact absurd h2 hk
  refine x_aload_n dX9_see_50 rfl rfl ?_
  refine x_getr dX9_see_51 fX9_50 rfl rfl (by decide) ?_
  refine x_aload_n dX9_see_54 rfl rfl ?_
  refine x_getv (s1) dX9_see_55 fX9_169 rfl rfl (by decide) ?_
  refine x_iload_n dX9_see_58 rfl rfl ?_
  refine x_iastN dX9_see_59 rfl (by decide) (by omega) (by decide) ?_
  refine x_aload_n dX9_see_60 rfl rfl ?_
  refine x_getr dX9_see_61 fX9_53 rfl rfl (by decide) ?_
  refine x_aload_n dX9_see_64 rfl rfl ?_
  refine x_getv (sa_v (by decide) s1) dX9_see_65 fX9_169 rfl rfl (by decide) ?_
  refine x_iload_n dX9_see_68 rfl rfl ?_
  refine x_iastN dX9_see_69 rfl (by decide) (by omega) (by decide) ?_
  refine x_aload_n dX9_see_70 rfl rfl ?_
  refine x_dup dX9_see_71 rfl ?_
  refine x_getv (sa_v (by decide) (sa_v (by decide) s1)) dX9_see_72 fX9_169 rfl rfl (by decide) ?_
  refine x_iconst (v := nI 1) dX9_see_75 (by decide) ?_
  refine x_iaddN dX9_see_76 ?_
  refine x_put dX9_see_77 pX9_169 rfl rfl (by decide) rfl rfl ?_
  refine x_aload_n dX9_see_80 rfl rfl ?_
  refine x_getv (by rw [sa_1, pk_us]) dX9_see_81 fX9_169 rfl rfl (by decide) ?_
  refine hR _ _ _ _ dX9_see_84 ⟨by unfold aSee; rw [if_pos h1, if_pos h2, if_neg h6], fun e => absurd ⟨h1, h2, h6⟩ e, fun _ => ⟨((Fa.rf.st (by decide) (by decide)).st (by decide) (by decide)).up (by decide), by rw [sa_1, pk_us], by omega, fun i hi => ?_⟩⟩
  rw [tn_nI (by omega), tn_nI (by omega)]
  have a54 : ∀ A B F : Nat → Int32, (sa (sa (sa M 54 A) 55 B) 40 F).1 54 = A := by intros; simp [sa]
  have a55 : ∀ A B F : Nat → Int32, (sa (sa (sa M 54 A) 55 B) 40 F).1 55 = B := by intros; simp [sa]
  rw [a54, a55, sa_ne (by decide)]
  by_cases e : i = sn
  · subst e
    rw [uf_s, uf_s, pk_us, pk_us]
    exact ⟨rfl, rfl, by omega, hss⟩
  · rw [uf_n e, uf_n e, pk_un e, pk_un e]
    exact s3 i (by omega)
set_option maxHeartbeats 8000000 in
theorem cM_unsee (E : Ev) (d : Nat) (M : PM) (sn : Nat) (sk ss : Nat → Nat) (hT : M.1 40 0 = nI 0) (hs : SnM M sn sk ss) : Ci E d mX9_unsee [.ref (ad E 40)] M (fun v N => v = nI sn ∧ Fa M N [] [23] ∧ SnM N 0 sk ss) := by
  refine Ct.ofi [some (.ref (ad E 40)), none] (own := RX9) rfl (by decide) (Nat.le_of_ble_eq_true rfl) rfl (fun C hR => ?_)
  refine x_aload_n dX9_unsee_0 rfl rfl ?_
  refine x_iconst (v := nI 0) dX9_unsee_1 (by decide) ?_
  refine x_put dX9_unsee_2 pX9_68 rfl rfl (by decide) rfl rfl ?_
  rw [thr hT]
  refine x_aload_n dX9_unsee_5 rfl rfl ?_
  refine x_getv (hs.1) dX9_unsee_6 fX9_169 rfl rfl (by decide) ?_
  refine xis2_1 dX9_unsee_9 rfl ?_
  refine x_aload_n dX9_unsee_10 rfl rfl ?_
  refine x_iconst (v := nI 0) dX9_unsee_11 (by decide) ?_
  refine x_put dX9_unsee_12 pX9_169 rfl rfl (by decide) rfl rfl ?_
  refine x_iload_n dX9_unsee_15 rfl rfl ?_
  exact hR _ _ _ _ dX9_unsee_16 (⟨rfl, Fa.rf.up (by decide), by rw [sa_1, pk_us], by decide, fun i hi => absurd hi (by omega)⟩)
def aWrite (t : Nat) (x : Int32) : Int32 := if inR x 256 then if t = 56 then -4 else nI (t + 1) else -2
set_option maxHeartbeats 8000000 in
theorem cM_write (E : Ev) (d : Nat) (M : PM) (t : Nat) (tx : Nat → Nat) (x : Int32) (hT : M.1 40 0 = nI 0) (ht : TxM M t tx) : Ci E (d + 1) mX9_write [.ref (ad E 40), .int x] M (fun v N => v = aWrite t x ∧ (¬ (inR x 256 ∧ t ≠ 56) → M = N) ∧ (inR x 256 ∧ t ≠ 56 → Fa M N [41] [2] ∧ TxM N (t + 1) (uf tx t (tn x)))) := by
  obtain ⟨t1, t2, t3⟩ := ht
  refine Ct.ofi [some (.ref (ad E 40)), some (.int x)] (own := RX9) rfl (by decide) (Nat.le_of_ble_eq_true rfl) rfl (fun C hR => ?_)
  refine x_aload_n dX9_write_0 rfl rfl ?_
  refine x_iconst (v := nI 0) dX9_write_1 (by decide) ?_
  refine x_put dX9_write_2 pX9_68 rfl rfl (by decide) rfl rfl ?_
  rw [thr hT]
  refine x_iload_n dX9_write_5 rfl rfl ?_
  refine x_i2l dX9_write_6 ?_
  refine x_lconst (v := 0) dX9_write_7 rfl ?_
  refine x_ldc2 dX9_write_8 qX9_72 ?_
  refine x_callSi dX9_write_11 msX9_in kX9_74 (c_in3 E d M x _ _ 0 255 rfl rfl) (by omega) rfl rfl (Nat.le_of_ble_eq_true rfl) ?_
  rintro _ _ ⟨rfl, rfl⟩
  refine x_if_neB (tgt := 20) dX9_write_14 (by decide) (fun hc => ?_) (fun hc => ?_)
  rotate_left
  · have h1 : ¬ inR x 256 := fun e => of_decide_eq_false hc (by omega)
    refine x_bipush (v := -2) dX9_write_17 (by decide) ?_
    exact hR _ _ _ _ dX9_write_19 (⟨by unfold aWrite; rw [if_neg h1], fun _ => rfl, fun e => absurd e.1 h1⟩)
  have h1 : inR x 256 := by have := of_decide_eq_true hc; omega
  refine x_aload_n dX9_write_20 rfl rfl ?_
  refine x_getv (t1) dX9_write_21 fX9_78 rfl rfl (by decide) ?_
  refine x_bipush (v := nI 56) dX9_write_24 (by decide) ?_
  refine x_icmp_neN (tgt := 32) dX9_write_26 (by decide) (by omega) (by omega) (fun hc => ?_) (fun hc => ?_)
  rotate_left
  · refine x_bipush (v := -4) dX9_write_29 (by decide) ?_
    exact hR _ _ _ _ dX9_write_31 (⟨by unfold aWrite; rw [if_pos h1, if_pos hc], fun _ => rfl, fun e => absurd hc e.2⟩)
  have h6 : t ≠ 56 := hc
  rcases ixc x 256 (by omega) with ⟨k, hk, rfl, _⟩ | hk
  rotate_left
  · exact absurd h1 hk
  refine x_aload_n dX9_write_32 rfl rfl ?_
  refine x_getr dX9_write_33 fX9_7 rfl rfl (by decide) ?_
  refine x_aload_n dX9_write_36 rfl rfl ?_
  refine x_getv (t1) dX9_write_37 fX9_78 rfl rfl (by decide) ?_
  refine x_iload_n dX9_write_40 rfl rfl ?_
  refine x_iastN dX9_write_41 rfl (by decide) (by omega) (by decide) ?_
  refine x_aload_n dX9_write_42 rfl rfl ?_
  refine x_dup dX9_write_43 rfl ?_
  refine x_getv (sa_v (by decide) t1) dX9_write_44 fX9_78 rfl rfl (by decide) ?_
  refine x_iconst (v := nI 1) dX9_write_47 (by decide) ?_
  refine x_iaddN dX9_write_48 ?_
  refine x_put dX9_write_49 pX9_78 rfl rfl (by decide) rfl rfl ?_
  refine x_aload_n dX9_write_52 rfl rfl ?_
  refine x_getv (by rw [sa_1, pk_us]) dX9_write_53 fX9_78 rfl rfl (by decide) ?_
  refine hR _ _ _ _ dX9_write_56 ⟨by unfold aWrite; rw [if_pos h1, if_neg h6], fun e => absurd ⟨h1, h6⟩ e, fun _ => ⟨(Fa.rf.st (by decide) (by decide)).up (by decide), by rw [sa_1, pk_us], by omega, fun i hi => ?_⟩⟩
  rw [tn_nI (by omega)]
  by_cases e : i = t
  · subst e
    rw [uf_s, sa_ne (by decide), sa_1, pk_us]
    exact ⟨rfl, by omega⟩
  · rw [uf_n e, sa_ne (by decide), sa_1, pk_un e]
    exact t3 i (by omega)
set_option maxHeartbeats 8000000 in
theorem cM_wipe (E : Ev) (d : Nat) (M : PM) (t : Nat) (tx : Nat → Nat) (hT : M.1 40 0 = nI 0) (ht : TxM M t tx) : Ci E d mX9_wipe [.ref (ad E 40)] M (fun v N => v = nI t ∧ Fa M N [] [2] ∧ TxM N 0 tx) := by
  refine Ct.ofi [some (.ref (ad E 40)), none] (own := RX9) rfl (by decide) (Nat.le_of_ble_eq_true rfl) rfl (fun C hR => ?_)
  refine x_aload_n dX9_wipe_0 rfl rfl ?_
  refine x_iconst (v := nI 0) dX9_wipe_1 (by decide) ?_
  refine x_put dX9_wipe_2 pX9_68 rfl rfl (by decide) rfl rfl ?_
  rw [thr hT]
  refine x_aload_n dX9_wipe_5 rfl rfl ?_
  refine x_getv (ht.1) dX9_wipe_6 fX9_78 rfl rfl (by decide) ?_
  refine xis2_1 dX9_wipe_9 rfl ?_
  refine x_aload_n dX9_wipe_10 rfl rfl ?_
  refine x_iconst (v := nI 0) dX9_wipe_11 (by decide) ?_
  refine x_put dX9_wipe_12 pX9_78 rfl rfl (by decide) rfl rfl ?_
  refine x_iload_n dX9_wipe_15 rfl rfl ?_
  exact hR _ _ _ _ dX9_wipe_16 (⟨rfl, Fa.rf.up (by decide), by rw [sa_1, pk_us], by decide, fun i hi => absurd hi (by omega)⟩)
set_option maxHeartbeats 8000000 in
theorem cM_seed (E : Ev) (d : Nat) (M : PM) (x : Int64) (hT : M.1 40 0 = nI 0) : Cl E d mX9_seed [.ref (ad E 40), .long x] M (fun v N => v = M.2 40 ∧ N = sl M 40 x) := by
  refine Ct.ofl [some (.ref (ad E 40)), some (.long x), none, none, none] (own := RX9) rfl (by decide) (Nat.le_of_ble_eq_true rfl) rfl (fun C hR => ?_)
  refine x_aload_n dX9_seed_0 rfl rfl ?_
  refine x_iconst (v := nI 0) dX9_seed_1 (by decide) ?_
  refine x_put dX9_seed_2 pX9_68 rfl rfl (by decide) rfl rfl ?_
  rw [thr hT]
  refine x_aload_n dX9_seed_5 rfl rfl ?_
  refine x_getl dX9_seed_6 fX9_242 rfl rfl (by decide) ?_
  refine xls5_3 dX9_seed_9 rfl ?_
  refine x_aload_n dX9_seed_10 rfl rfl ?_
  refine x_lload_n dX9_seed_11 rfl rfl ?_
  refine x_putl dX9_seed_12 pX9_242 rfl rfl seedOnly9 (by decide) ?_
  refine x_lload_n dX9_seed_15 rfl rfl ?_
  exact hR _ _ _ _ dX9_seed_16 (⟨rfl, rfl⟩)
/-- what is left of the seed's upper bits by sixteen, as a doing -/
def sdn (s : Int64) : Int64 := s * 6364136223846793005 + 1442695040888963407
def xn (s : Int64) : Nat := s.toBitVec.toNat / 2 ^ 33 % 16
def xt (s : Int64) : Nat := 10 * (xn s / 5) + xn s % 5
theorem xn_lt (s : Int64) : xn s < 16 := Nat.mod_lt _ (by decide)
theorem xn_raw (s : Int64) : ((s.toUInt64 >>> ((nI 33).toInt64.toUInt64 &&& Int64.toUInt64 63)).toInt64 - (s.toUInt64 >>> ((nI 33).toInt64.toUInt64 &&& Int64.toUInt64 63)).toInt64 / 16 * 16).toInt32 = nI (xn s) := by
  obtain ⟨m, hm, rfl⟩ := wb_of s
  have h2 : m / 2 ^ 33 < 2 ^ 63 := Nat.lt_of_le_of_lt (Nat.div_le_div_right (Nat.le_of_lt hm)) (by decide)
  have e := pk_lRem (a := m / 2 ^ 33) (b := 16) h2 (by decide) (by decide)
  rw [wb_shr hm (by decide), show (16 : Int64) = lN 16 from rfl, e, lN_i]
  unfold xn
  rw [wb_tn hm]
def yrS : Nat → Int64 → Int64
  | 0, s => s
  | i + 1, s => sdn (yrS i s)
def yrP (n : Nat) (s : Int64) (q w : Nat → Nat) : Nat → (Nat → Nat) × (Nat → Nat)
  | 0 => (q, w)
  | i + 1 => (doQ n (yrP n s q w i).1 (yrP n s q w i).2 (xt (yrS (i + 1) s)), doW n (yrP n s q w i).2 (xt (yrS (i + 1) s)))
def yrA (n K : Nat) (s : Int64) (q w : Nat → Nat) (m : Nat) : Nat := fb_sm (fun i => pop (parB (yrP n s q w (i + 1)).1 (yrP n s q w (i + 1)).2 n K)) m
theorem yrS_s (i : Nat) (s : Int64) : yrS (i + 1) s = sdn (yrS i s) := rfl
theorem yrP_1 (n i : Nat) (s : Int64) (q w : Nat → Nat) : (yrP n s q w (i + 1)).1 = doQ n (yrP n s q w i).1 (yrP n s q w i).2 (xt (yrS (i + 1) s)) := rfl
theorem yrP_2 (n i : Nat) (s : Int64) (q w : Nat → Nat) : (yrP n s q w (i + 1)).2 = doW n (yrP n s q w i).2 (xt (yrS (i + 1) s)) := rfl
theorem yrA_s (n K i : Nat) (s : Int64) (q w : Nat → Nat) : yrA n K s q w (i + 1) = yrA n K s q w i + pop (parB (yrP n s q w (i + 1)).1 (yrP n s q w (i + 1)).2 n K) := rfl
theorem Pg.trial {M : PM} {n : Nat} {q w : Nat → Nat} (hp : Pg M 49 n q w) : Pg (sa M 50 (fa_fill (M.1 49) (M.1 50) 31)) 50 n q w := by
  have hn5 := hp.2.2.1
  refine ⟨rfl, by decide, hn5, fun r c hr hc => ?_, fun r hr => ?_⟩
  · rw [sa_1, fa_fill_in (by omega)]; exact hp.2.2.2.1 r c hr hc
  · rw [sa_1, fa_fill_in (by omega)]; exact hp.2.2.2.2 r hr
set_option maxHeartbeats 8000000 in
theorem cM_years_no (E : Ev) (d : Nat) (M : PM) (m : Int32) (hT : M.1 40 0 = nI 0) (hm : ¬ (1 ≤ m.toInt ∧ m.toInt ≤ 30)) : Ci E (d + 1) mX9_years [.ref (ad E 40), .int m] M (fun v N => v = -2 ∧ M = N) := by
  refine Ct.ofi [some (.ref (ad E 40)), some (.int m), none, none, none] (own := RX9) rfl (by decide) (Nat.le_of_ble_eq_true rfl) rfl (fun C hR => ?_)
  refine x_aload_n dX9_years_0 rfl rfl ?_
  refine x_iconst (v := nI 0) dX9_years_1 (by decide) ?_
  refine x_put dX9_years_2 pX9_68 rfl rfl (by decide) rfl rfl ?_
  rw [thr hT]
  refine x_iload_n dX9_years_5 rfl rfl ?_
  refine x_i2l dX9_years_6 ?_
  refine x_lconst (v := 1) dX9_years_7 rfl ?_
  refine x_ldc2 dX9_years_8 qX9_246 ?_
  refine x_callSi dX9_years_11 msX9_in kX9_74 (c_in3 E d M m _ _ 1 30 rfl rfl) (by omega) rfl rfl (Nat.le_of_ble_eq_true rfl) ?_
  rintro _ _ ⟨rfl, rfl⟩
  refine x_if_neB (tgt := 20) dX9_years_14 (by decide) (fun hc => ?_) (fun hc => ?_)
  · exact absurd (of_decide_eq_true hc) hm
  · refine x_bipush (v := -2) dX9_years_17 (by decide) ?_
    exact hR _ _ _ _ dX9_years_19 (⟨rfl, rfl⟩)
set_option maxHeartbeats 8000000 in
theorem cM_years (E : Ev) (d : Nat) (M : PM) (n K D m : Nat) (q w kd pt nd : Nat → Nat) (s0 : Int64) (hT : M.1 40 0 = nI 0) (hF : Fm M n K D kd pt nd) (hp : Pg M 49 n q w) (hm : 1 ≤ m) (hm30 : m ≤ 30) (hs0 : M.2 40 = s0) : Ci E (d + 3) mX9_years [.ref (ad E 40), .int (nI m)] M (fun v N => v = nI (yrA n K s0 q w m) ∧ N.2 = (sl M 40 (yrS m s0)).2 ∧ ∀ c, c ∉ [50, 56, 57] → N.1 c = M.1 c) := by
  obtain ⟨f1, f2, f3, f4, f5, f6, f7, f8, f9⟩ := id hF
  have hmt : (nI m).toInt = (m : Int) := nI_toInt (by omega)
  refine Ct.ofi [some (.ref (ad E 40)), some (.int (nI m)), none, none, none] (own := RX9) rfl (by decide) (Nat.le_of_ble_eq_true rfl) rfl (fun C hR => ?_)
  refine x_aload_n dX9_years_0 rfl rfl ?_
  refine x_iconst (v := nI 0) dX9_years_1 (by decide) ?_
  refine x_put dX9_years_2 pX9_68 rfl rfl (by decide) rfl rfl ?_
  rw [thr hT]
  refine x_iload_n dX9_years_5 rfl rfl ?_
  refine x_i2l dX9_years_6 ?_
  refine x_lconst (v := 1) dX9_years_7 rfl ?_
  refine x_ldc2 dX9_years_8 qX9_246 ?_
  refine x_callSi dX9_years_11 msX9_in kX9_74 (c_in3 E d M _ _ _ 1 30 rfl rfl) (by omega) rfl rfl (Nat.le_of_ble_eq_true rfl) ?_
  rintro _ _ ⟨rfl, rfl⟩
  refine x_if_neB (tgt := 20) dX9_years_14 (by decide) (fun hc => ?_) (fun hc => ?_)
  rotate_left
  · exact absurd (of_decide_eq_false hc) (by omega)
  refine x_aload_n dX9_years_20 rfl rfl ?_
  refine x_getr dX9_years_21 fX9_34 rfl rfl (by decide) ?_
  refine x_aload_n dX9_years_24 rfl rfl ?_
  refine x_getr dX9_years_25 fX9_37 rfl rfl (by decide) ?_
  refine x_bipush (v := nI 31) dX9_years_28 (by decide) ?_
  refine x_callSv dX9_years_30 msX9_copyRow kX9_123 (c_copyRow E d M 49 50 31 31 31 rfl rfl (by decide) (by decide) (by decide) (by decide) (by decide) (by decide) (by decide)) (by omega) rfl rfl (Nat.le_of_ble_eq_true rfl) ?_
  rintro _ rfl
  refine x_iconst (v := nI 0) dX9_years_33 (by decide) ?_
  refine xis5_2 dX9_years_34 rfl ?_
  refine x_iconst (v := nI 0) dX9_years_35 (by decide) ?_
  refine xis5_3 dX9_years_36 rfl ?_
  have key : ∀ i, i ≤ m → ∀ N l4, (∀ c, c ∉ [50, 56, 57] → N.1 c = M.1 c) → N.2 = (sl M 40 (yrS i s0)).2 → Pg N 50 n (yrP n s0 q w i).1 (yrP n s0 q w i).2 → X E (d + 3) RX9 cX9_years 5 C 37 [some (.ref (ad E 40)), some (.int (nI m)), some (.int (nI (yrA n K s0 q w i))), some (.int (nI i)), l4] [] N := by
    refine up_loop m ?_ ?_
    · intro N l4 hN hs hP
      refine x_iload_n dX9_years_37 rfl rfl ?_
      refine x_iload_n dX9_years_38 rfl rfl ?_
      refine x_icmp_geN (tgt := 113) dX9_years_39 (by decide) (by omega) (by omega) (fun hc => ?_) (fun hc => ?_)
      · refine x_iload_n dX9_years_113 rfl rfl ?_
        exact hR _ _ _ _ dX9_years_114 (⟨rfl, hs, hN⟩)
      · exact absurd hc (by omega)
    · intro i hi ih N l4 hN hs hP
      rw [yrA_s, yrP_1, yrP_2, yrS_s] at ih
      have e40 : N.2 40 = yrS i s0 := by rw [hs]; exact sl_2
      obtain ⟨s', hs'⟩ : ∃ s', s' = sdn (yrS i s0) := ⟨_, rfl⟩
      rw [← hs'] at ih
      have hx16 := xn_lt s'
      refine x_iload_n dX9_years_37 rfl rfl ?_
      refine x_iload_n dX9_years_38 rfl rfl ?_
      refine x_icmp_geN (tgt := 113) dX9_years_39 (by decide) (by omega) (by omega) (fun hc => ?_) (fun hc => ?_)
      · exact absurd hc (by omega)
      refine x_aload_n dX9_years_42 rfl rfl ?_
      refine x_aload_n dX9_years_43 rfl rfl ?_
      refine x_getl dX9_years_44 fX9_242 rfl rfl (by decide) ?_
      refine x_ldc2 dX9_years_47 qX9_248 ?_
      refine x_lmul dX9_years_50 ?_
      refine x_ldc2 dX9_years_51 qX9_250 ?_
      refine x_ladd dX9_years_54 ?_
      rw [e40, show yrS i s0 * 6364136223846793005 + 1442695040888963407 = s' from hs'.symm]
      clear hs'
      refine x_putl dX9_years_55 pX9_242 rfl rfl seedOnly9 (by decide) ?_
      refine x_aload_n dX9_years_58 rfl rfl ?_
      refine x_getl dX9_years_59 fX9_242 rfl rfl (by decide) ?_
      refine x_bipush (v := nI 33) dX9_years_62 (by decide) ?_
      refine x_lushr dX9_years_64 ?_
      refine x_ldc2 dX9_years_65 qX9_252 ?_
      refine x_lrem dX9_years_68 (by decide) ?_
      rw [sl_2]
      refine x_l2i dX9_years_69 ?_
      rw [xn_raw]
      refine xis5_4 dX9_years_70 rfl ?_
      refine x_aload_n dX9_years_72 rfl rfl ?_
      refine x_bipush (v := nI 10) dX9_years_73 (by decide) ?_
      refine x_iload dX9_years_75 rfl ?_
      refine x_iconst (v := nI 5) dX9_years_77 (by decide) ?_
      refine x_idivN dX9_years_78 (by omega) (by omega) (by omega) ?_
      refine x_imulN dX9_years_79 ?_
      refine x_iload dX9_years_80 rfl ?_
      refine x_iconst (v := nI 5) dX9_years_82 (by decide) ?_
      refine x_iremN dX9_years_83 (by omega) (by omega) (by omega) ?_
      refine x_iaddN dX9_years_84 ?_
      have hf40 : ∀ k v, M.1 40 k = v → (sl N 40 s').1 40 k = v := fun k v h => by rw [sl_1, hN 40 (by decide)]; exact h
      refine x_callVi dX9_years_85 mvX9_does kX9_207 (c_does E d (sl N 40 s') n (xt s') (yrP n s0 q w i).1 (yrP n s0 q w i).2 (hf40 _ _ f1) (hP.to rfl) (by unfold xt; omega)) rfl (by decide) (by omega) rfl rfl (Nat.le_of_ble_eq_true rfl) ?_
      rintro _ N2 ⟨rfl, hN2, hP2⟩
      refine x_pop dX9_years_88 rfl ?_
      refine x_aload_n dX9_years_89 rfl rfl ?_
      refine x_aload_n dX9_years_90 rfl rfl ?_
      refine x_getr dX9_years_91 fX9_37 rfl rfl (by decide) ?_
      refine x_callVv dX9_years_94 mvX9_layHalves kX9_152 (c_layHalves E (d + 2) N2 50 n _ _ (hN2.v (by decide) (hf40 _ _ f1)) hP2) rfl (by decide) (by omega) rfl rfl (Nat.le_of_ble_eq_true rfl) ?_
      rintro N3 ⟨hN3, hl3⟩
      have hpl := parB_lt (doQ n (yrP n s0 q w i).1 (yrP n s0 q w i).2 (xt s')) (doW n (yrP n s0 q w i).2 (xt s')) n K
      have h2K := p2 f5
      refine x_iload_n dX9_years_97 rfl rfl ?_
      refine x_aload_n dX9_years_98 rfl rfl ?_
      refine x_callVi dX9_years_99 mvX9_partedLaid kX9_163 (c_partedLaid E (d + 2) N3 n K _ _ (hN3.v (by decide) (hN2.v (by decide) (hf40 _ _ f2))) f5 f4 hl3) rfl (by decide) (by omega) rfl rfl (Nat.le_of_ble_eq_true rfl) ?_
      rintro _ _ ⟨rfl, rfl⟩
      refine x_callSi dX9_years_102 msX9_many kX9_198 (c_many E (d + 2) N3 _ (by omega)) (by omega) rfl rfl (Nat.le_of_ble_eq_true rfl) ?_
      rintro _ _ ⟨rfl, rfl⟩
      refine x_iaddN dX9_years_105 ?_
      refine xis5_2 dX9_years_106 rfl ?_
      refine xinc5_3N dX9_years_107 rfl ?_
      refine x_goto (tgt := 37) dX9_years_110 (by decide) ?_
      refine ih N3 _ (fun c hc => ?_) ?_ (hP2.fr hN3 (by decide))
      · have h50 : c ∉ [50] := fun e => hc (by simp at e; simp [e])
        have h56 : c ∉ [56, 57] := fun e => hc (by simp at e; rcases e with e | e <;> simp [e])
        rw [hN3.2 c h56, hN2.2 c h50, sl_1]; exact hN c hc
      · rw [hN3.1, hN2.1]
        funext c
        show (if c = 40 then s' else N.2 c) = if c = 40 then s' else M.2 c
        by_cases e : c = 40
        · rw [if_pos e, if_pos e]
        · rw [if_neg e, if_neg e, hs]; show (if c = 40 then yrS i s0 else M.2 c) = _; rw [if_neg e]
  refine key 0 (by omega) _ _ (fun c hc => sa_ne (fun e => hc (by simp [e]))) ?_ hp.trial
  funext c
  show M.2 c = if c = 40 then s0 else M.2 c
  by_cases e : c = 40
  · rw [if_pos e, e, hs0]
  · rw [if_neg e]
/-- doings, one behind the other -/
def jdF (n : Nat) (ts : Nat → Nat) : Nat → Nat → (Nat → Nat) → (Nat → Nat) → Int32
  | 0, _, _, _ => -9
  | f + 1, k, q, w => if doR n w (ts k) = true then jdF n ts f (k + 1) (doQ n q w (ts k)) (doW n w (ts k)) else nI k
def jts (m row k : Nat) : Nat := row / 100 ^ (m - 1 - k) % 100
def jdOk (m row : Int32) : Prop := (1 ≤ m.toInt ∧ m.toInt ≤ 4) ∧ 0 ≤ row.toInt ∧ row.toInt < ((100 ^ tn m : Nat) : Int)
theorem p100 {m : Nat} (h : m ≤ 4) : 100 ^ m ≤ 100000000 := Nat.pow_le_pow_right (by decide) h
set_option maxHeartbeats 8000000 in
theorem cM_judge_no (E : Ev) (d : Nat) (M : PM) (m row : Int32) (hT : M.1 40 0 = nI 0) (hm : ¬ jdOk m row) : Ci E (d + 1) mX9_judge [.ref (ad E 40), .int m, .int row] M (fun v N => v = -2 ∧ M = N) := by
  refine Ct.ofi [some (.ref (ad E 40)), some (.int m), some (.int row), none] (own := RX9) rfl (by decide) (Nat.le_of_ble_eq_true rfl) rfl (fun C hR => ?_)
  refine x_aload_n dX9_judge_0 rfl rfl ?_
  refine x_iconst (v := nI 0) dX9_judge_1 (by decide) ?_
  refine x_put dX9_judge_2 pX9_68 rfl rfl (by decide) rfl rfl ?_
  rw [thr hT]
  refine x_iload_n dX9_judge_5 rfl rfl ?_
  refine x_i2l dX9_judge_6 ?_
  refine x_lconst (v := 1) dX9_judge_7 rfl ?_
  refine x_ldc2 dX9_judge_8 qX9_172 ?_
  refine x_callSi dX9_judge_11 msX9_in kX9_74 (c_in3 E d M m _ _ 1 4 rfl rfl) (by omega) rfl rfl (Nat.le_of_ble_eq_true rfl) ?_
  rintro _ _ ⟨rfl, rfl⟩
  refine x_if_eqB (tgt := 35) dX9_judge_14 (by decide) (fun hc => ?_) (fun hc => ?_)
  · refine x_bipush (v := -2) dX9_judge_35 (by decide) ?_
    exact hR _ _ _ _ dX9_judge_37 (⟨rfl, rfl⟩)
  have h1 := of_decide_eq_true hc
  rcases ixc m 5 (by decide) with ⟨j, hj, rfl, hjt⟩ | hj
  rotate_left
  · exact absurd h1 (by omega)
  have h100 := p100 (show j ≤ 4 by omega)
  refine x_iload_n dX9_judge_17 rfl rfl ?_
  refine x_i2l dX9_judge_18 ?_
  refine x_lconst (v := 0) dX9_judge_19 rfl ?_
  refine x_bipush (v := nI 100) dX9_judge_20 (by decide) ?_
  refine x_iload_n dX9_judge_22 rfl rfl ?_
  refine x_callSi dX9_judge_23 msX9_power kX9_142 (c_power E d M 100 j (by omega)) (by omega) rfl rfl (Nat.le_of_ble_eq_true rfl) ?_
  rintro _ _ ⟨rfl, rfl⟩
  refine x_iconst (v := nI 1) dX9_judge_26 (by decide) ?_
  refine x_isub dX9_judge_27 ?_
  have hb : ((nI (100 ^ j) - nI 1).toInt64).toInt = ((100 ^ j : Nat) : Int) - 1 := by
    rw [Int32.toInt_toInt64, pk_sub_toInt (by omega) (by omega)]; rfl
  refine x_i2l dX9_judge_28 ?_
  refine x_callSi dX9_judge_29 msX9_in kX9_74 (c_in3 E d M row _ _ 0 _ rfl hb) (by omega) rfl rfl (Nat.le_of_ble_eq_true rfl) ?_
  rintro _ _ ⟨rfl, rfl⟩
  refine x_if_neB (tgt := 38) dX9_judge_32 (by decide) (fun hc => ?_) (fun hc => ?_)
  · have h2 := of_decide_eq_true hc
    exact absurd ⟨h1, h2.1, by rw [tn_nI (by omega)]; omega⟩ hm
  · refine x_bipush (v := -2) dX9_judge_35 (by decide) ?_
    exact hR _ _ _ _ dX9_judge_37 (⟨rfl, rfl⟩)
set_option maxHeartbeats 8000000 in
theorem cM_judge (E : Ev) (d : Nat) (M : PM) (n m row : Nat) (q w : Nat → Nat) (hT : M.1 40 0 = nI 0) (hn : M.1 40 4 = nI n) (hp : Pg M 49 n q w) (hm1 : 1 ≤ m) (hm4 : m ≤ 4) (hrow : row < 100 ^ m) : Ci E (d + 3) mX9_judge [.ref (ad E 40), .int (nI m), .int (nI row)] M (fun v N => v = jdF n (jts m row) m 0 q w ∧ Fr M N [50]) := by
  have h100 := p100 hm4
  have hmt : (nI m).toInt = (m : Int) := nI_toInt (by omega)
  have hrt : (nI row).toInt = (row : Int) := nI_toInt (by omega)
  refine Ct.ofi [some (.ref (ad E 40)), some (.int (nI m)), some (.int (nI row)), none] (own := RX9) rfl (by decide) (Nat.le_of_ble_eq_true rfl) rfl (fun C hR => ?_)
  refine x_aload_n dX9_judge_0 rfl rfl ?_
  refine x_iconst (v := nI 0) dX9_judge_1 (by decide) ?_
  refine x_put dX9_judge_2 pX9_68 rfl rfl (by decide) rfl rfl ?_
  rw [thr hT]
  refine x_iload_n dX9_judge_5 rfl rfl ?_
  refine x_i2l dX9_judge_6 ?_
  refine x_lconst (v := 1) dX9_judge_7 rfl ?_
  refine x_ldc2 dX9_judge_8 qX9_172 ?_
  refine x_callSi dX9_judge_11 msX9_in kX9_74 (c_in3 E d M _ _ _ 1 4 rfl rfl) (by omega) rfl rfl (Nat.le_of_ble_eq_true rfl) ?_
  rintro _ _ ⟨rfl, rfl⟩
  refine x_if_eqB (tgt := 35) dX9_judge_14 (by decide) (fun hc => ?_) (fun hc => ?_)
  · exact absurd (of_decide_eq_false hc) (by omega)
  refine x_iload_n dX9_judge_17 rfl rfl ?_
  refine x_i2l dX9_judge_18 ?_
  refine x_lconst (v := 0) dX9_judge_19 rfl ?_
  refine x_bipush (v := nI 100) dX9_judge_20 (by decide) ?_
  refine x_iload_n dX9_judge_22 rfl rfl ?_
  refine x_callSi dX9_judge_23 msX9_power kX9_142 (c_power E d M 100 m (by omega)) (by omega) rfl rfl (Nat.le_of_ble_eq_true rfl) ?_
  rintro _ _ ⟨rfl, rfl⟩
  refine x_iconst (v := nI 1) dX9_judge_26 (by decide) ?_
  refine x_isub dX9_judge_27 ?_
  have hb : ((nI (100 ^ m) - nI 1).toInt64).toInt = ((100 ^ m : Nat) : Int) - 1 := by
    rw [Int32.toInt_toInt64, pk_sub_toInt (by omega) (by omega)]; rfl
  refine x_i2l dX9_judge_28 ?_
  refine x_callSi dX9_judge_29 msX9_in kX9_74 (c_in3 E d M _ _ _ 0 _ rfl hb) (by omega) rfl rfl (Nat.le_of_ble_eq_true rfl) ?_
  rintro _ _ ⟨rfl, rfl⟩
  refine x_if_neB (tgt := 38) dX9_judge_32 (by decide) (fun hc => ?_) (fun hc => ?_)
  rotate_left
  · exact absurd (of_decide_eq_false hc) (by omega)
  refine x_aload_n dX9_judge_38 rfl rfl ?_
  refine x_getr dX9_judge_39 fX9_34 rfl rfl (by decide) ?_
  refine x_aload_n dX9_judge_42 rfl rfl ?_
  refine x_getr dX9_judge_43 fX9_37 rfl rfl (by decide) ?_
  refine x_bipush (v := nI 31) dX9_judge_46 (by decide) ?_
  refine x_callSv dX9_judge_48 msX9_copyRow kX9_123 (c_copyRow E d M 49 50 31 31 31 rfl rfl (by decide) (by decide) (by decide) (by decide) (by decide) (by decide) (by decide)) (by omega) rfl rfl (Nat.le_of_ble_eq_true rfl) ?_
  rintro _ rfl
  refine x_iconst (v := nI 0) dX9_judge_51 (by decide) ?_
  refine xis4_3 dX9_judge_52 rfl ?_
  have key : ∀ i, i ≤ m → ∀ N q' w', Fr M N [50] → Pg N 50 n q' w' → jdF n (jts m row) (m - i) i q' w' = jdF n (jts m row) m 0 q w → X E (d + 3) RX9 cX9_judge 4 C 53 [some (.ref (ad E 40)), some (.int (nI m)), some (.int (nI row)), some (.int (nI i))] [] N := by
    refine up_loop m ?_ ?_
    · intro N q' w' hN hP hJ
      rw [Nat.sub_self] at hJ
      refine x_iload_n dX9_judge_53 rfl rfl ?_
      refine x_iload_n dX9_judge_54 rfl rfl ?_
      refine x_icmp_geN (tgt := 88) dX9_judge_55 (by decide) (by omega) (by omega) (fun hc => ?_) (fun hc => ?_)
      · refine x_bipush (v := -9) dX9_judge_88 (by decide) ?_
        exact hR _ _ _ _ dX9_judge_90 (⟨hJ, hN⟩)
      · exact absurd hc (by omega)
    · intro i hi ih N q' w' hN hP hJ
      rw [show m - i = (m - (i + 1)) + 1 by omega] at hJ
      have hpw : 0 < 100 ^ (m - 1 - i) := Nat.pow_pos (by decide)
      have hpw2 : 100 ^ (m - 1 - i) ≤ 100000000 := p100 (by omega)
      have hdv := Nat.div_le_self row (100 ^ (m - 1 - i))
      have hlt : jts m row i < 100 := Nat.mod_lt _ (by decide)
      refine x_iload_n dX9_judge_53 rfl rfl ?_
      refine x_iload_n dX9_judge_54 rfl rfl ?_
      refine x_icmp_geN (tgt := 88) dX9_judge_55 (by decide) (by omega) (by omega) (fun hc => ?_) (fun hc => ?_)
      · exact absurd hc (by omega)
      refine x_aload_n dX9_judge_58 rfl rfl ?_
      refine x_iload_n dX9_judge_59 rfl rfl ?_
      refine x_bipush (v := nI 100) dX9_judge_60 (by decide) ?_
      refine x_iload_n dX9_judge_62 rfl rfl ?_
      refine x_iconst (v := nI 1) dX9_judge_63 (by decide) ?_
      refine x_isubN dX9_judge_64 (by omega) ?_
      refine x_iload_n dX9_judge_65 rfl rfl ?_
      refine x_isubN dX9_judge_66 (by omega) ?_
      refine x_callSi dX9_judge_67 msX9_power kX9_142 (c_power E (d + 2) N 100 (m - 1 - i) (by omega)) (by omega) rfl rfl (Nat.le_of_ble_eq_true rfl) ?_
      rintro _ _ ⟨rfl, rfl⟩
      refine x_idivN dX9_judge_70 (by omega) (by omega) (by omega) ?_
      refine x_bipush (v := nI 100) dX9_judge_71 (by decide) ?_
      refine x_iremN dX9_judge_73 (by omega) (by omega) (by omega) ?_
      refine x_callVi dX9_judge_74 mvX9_does kX9_207 (c_does E d N n (jts m row i) q' w' (hN.v (by decide) hn) hP hlt) rfl (by decide) (by omega) rfl rfl (Nat.le_of_ble_eq_true rfl) ?_
      rintro _ N2 ⟨rfl, hN2, hP2⟩
      refine x_if_neB (tgt := 82) dX9_judge_77 (by decide) (fun hc => ?_) (fun hc => ?_)
      · rw [jdF, if_pos hc] at hJ
        refine xinc4_3N dX9_judge_82 rfl ?_
        refine x_goto (tgt := 53) dX9_judge_85 (by decide) ?_
        exact ih N2 _ _ (hN.tr hN2 (fun _ h => h)) hP2 hJ
      · rw [jdF, if_neg (by rw [hc]; decide)] at hJ
        refine x_iload_n dX9_judge_80 rfl rfl ?_
        exact hR _ _ _ _ dX9_judge_81 (⟨hJ, hN.tr hN2 (fun _ h => h)⟩)
  exact key 0 (by omega) _ q w (Fr.rf.sa (by decide)) hp.trial rfl
