-- ===== the component: slots, what was seen, the seed =====
def KpC (M : PM) (n : Nat) (kp : Nat → Nat) (Q W : Nat → Nat → Nat) (G : Nat → Int32) : Prop := ∀ s, s < 2 → M.1 26 s = nI (kp s) ∧ kp s < 2 ∧ (kp s ≠ 0 → Tb M (20 + 3 * s) n (Q s) (W s) ∧ M.1 (20 + 3 * s) 3 = G s)
set_option maxHeartbeats 8000000 in
theorem k_keep_no (E : Ev) (d : Nat) (M : PM) (s : Int32) (hs : ¬ inR s 2) : Ci E d mX8_keep [.ref (ad E 0), .int s] M (fun v N => v = -1 ∧ M = N) := by
  have e2 : (nI 2).toInt = 2 := by decide
  refine Ct.ofi [some (.ref (ad E 0)), some (.int s)] (own := RX8) rfl (by decide) (Nat.le_of_ble_eq_true rfl) rfl (fun C hR => ?_)
  have bad : X E d RX8 cX8_keep 2 C 9 [some (.ref (ad E 0)), some (.int s)] [] M := by
    refine x_iconst (v := -1) dX8_keep_9 (by decide) ?_
    exact hR _ _ _ _ dX8_keep_10 (⟨rfl, rfl⟩)
  refine x_iload_n dX8_keep_0 rfl rfl ?_
  refine x_if_lt (tgt := 9) dX8_keep_1 (by decide) (fun hc => ?_) (fun hc => ?_)
  · exact bad
  rw [Int32.lt_iff_toInt_lt, Int32.toInt_zero] at hc
  have g := hc
  refine x_iload_n dX8_keep_4 rfl rfl ?_
  refine x_iconst (v := nI 2) dX8_keep_5 (by decide) ?_
  refine x_icmp_lt (tgt := 11) dX8_keep_6 (by decide) (fun hc => ?_) (fun hc => ?_)
  · rw [Int32.lt_iff_toInt_lt, e2] at hc
    exact absurd (by omega) hs
  · exact bad
set_option maxHeartbeats 8000000 in
theorem k_again_no (E : Ev) (d : Nat) (M : PM) (s : Int32) (hs : ¬ inR s 2) : Ci E d mX8_again [.ref (ad E 0), .int s] M (fun v N => v = -1 ∧ M = N) := by
  have e2 : (nI 2).toInt = 2 := by decide
  refine Ct.ofi [some (.ref (ad E 0)), some (.int s)] (own := RX8) rfl (by decide) (Nat.le_of_ble_eq_true rfl) rfl (fun C hR => ?_)
  have bad : X E d RX8 cX8_again 2 C 9 [some (.ref (ad E 0)), some (.int s)] [] M := by
    refine x_iconst (v := -1) dX8_again_9 (by decide) ?_
    exact hR _ _ _ _ dX8_again_10 (⟨rfl, rfl⟩)
  refine x_iload_n dX8_again_0 rfl rfl ?_
  refine x_if_lt (tgt := 9) dX8_again_1 (by decide) (fun hc => ?_) (fun hc => ?_)
  · exact bad
  rw [Int32.lt_iff_toInt_lt, Int32.toInt_zero] at hc
  have g := hc
  refine x_iload_n dX8_again_4 rfl rfl ?_
  refine x_iconst (v := nI 2) dX8_again_5 (by decide) ?_
  refine x_icmp_lt (tgt := 11) dX8_again_6 (by decide) (fun hc => ?_) (fun hc => ?_)
  · rw [Int32.lt_iff_toInt_lt, e2] at hc
    exact absurd (by omega) hs
  · exact bad
theorem aal_0 : 20 + 3 * (nI 0).toNatClampNeg = 20 := by decide
set_option maxHeartbeats 8000000 in
theorem k_keep_0 (E : Ev) (d : Nat) (M : PM) (n : Nat) (q w : Nat → Nat) (g : Int32) (kp : Nat → Nat) (Q W : Nat → Nat → Nat) (G : Nat → Int32) (hT : Tb M 13 n q w) (hg : M.1 13 3 = g) (hk : KpC M n kp Q W G) : Ci E (d + 2) mX8_keep [.ref (ad E 0), .int (nI 0)] M (fun v N => v = g ∧ Fr M N [20, 21, 22, 26] ∧ KpC N n (uf kp 0 1) (uf Q 0 q) (uf W 0 w) (uf G 0 g)) := by
  refine Ct.ofi [some (.ref (ad E 0)), some (.int (nI 0))] (own := RX8) rfl (by decide) (Nat.le_of_ble_eq_true rfl) rfl (fun C hR => ?_)
  refine x_iload_n dX8_keep_0 rfl rfl ?_
  refine x_if_ltN (tgt := 9) dX8_keep_1 (by decide) (by omega) ?_
  refine x_iload_n dX8_keep_4 rfl rfl ?_
  refine x_iconst (v := nI 2) dX8_keep_5 (by decide) ?_
  refine x_icmp_ltN (tgt := 11) dX8_keep_6 (by decide) (by omega) (by omega) (fun hc => ?_) (fun hc => ?_)
  rotate_left
  · exact absurd hc (by omega)
  refine x_aload_n dX8_keep_11 rfl rfl ?_
  refine x_getr dX8_keep_12 fX8_38 rfl rfl (by decide) ?_
  refine x_iload_n dX8_keep_15 rfl rfl ?_
  refine x_aald dX8_keep_16 (vp_in_nI (by decide) (by decide)) ?_
  rw [aal_0]
  refine x_aload_n dX8_keep_17 rfl rfl ?_
  refine x_getr dX8_keep_18 fX8_31 rfl rfl (by decide) ?_
  refine x_callVv dX8_keep_21 mvX4_copyOf kX8_249 (k_copyOf_20_13 E d M) rfl (by decide) (by omega) rfl rfl (Nat.le_of_ble_eq_true rfl) ?_
  rintro N ⟨hN, e1, e2, e3⟩
  refine x_aload_n dX8_keep_24 rfl rfl ?_
  refine x_getr dX8_keep_25 fX8_42 rfl rfl (by decide) ?_
  refine x_iload_n dX8_keep_28 rfl rfl ?_
  refine x_iconst (v := nI 1) dX8_keep_29 (by decide) ?_
  refine x_zastN dX8_keep_30 rfl (by decide) (by omega) (by decide) (by decide) ?_
  refine x_aload_n dX8_keep_31 rfl rfl ?_
  refine x_getr dX8_keep_32 fX8_31 rfl rfl (by decide) ?_
  refine x_getv (sa_v (by decide) (hN.v (by decide) hg)) dX8_keep_35 fX8_112 rfl rfl (by decide) ?_
  refine hR _ _ _ _ dX8_keep_38 ⟨rfl, (hN.wd (by decide) : Fr M N [20, 21, 22, 26]).sa (by decide), fun s hs => ?_⟩
  have hks := hk s hs
  rw [sa_1]
  by_cases e : s = 0
  · subst e
    rw [pk_us, uf_s, uf_s, uf_s, uf_s]
    refine ⟨rfl, by decide, fun _ => ⟨?_, ?_⟩⟩
    · exact (hT.of e1 e2).of (S := 20) (fun i _ => by rw [sa_ne (by decide)]) (fun i _ => by rw [sa_ne (by decide)])
    · exact sa_v (by decide) (e3.trans hg)
  · rw [pk_un e, uf_n e, uf_n e, uf_n e, uf_n e, hN.2 26 (by decide)]
    refine ⟨hks.1, hks.2.1, fun z => ?_⟩
    have es : s = 1 - 0 := by omega
    subst es
    obtain ⟨y1, y2⟩ := hks.2.2 z
    exact ⟨y1.of (fun i _ => by rw [sa_ne (by decide), hN.2 _ (by decide)]) (fun i _ => by rw [sa_ne (by decide), hN.2 _ (by decide)]), sa_v (by decide) (hN.v (by decide) y2)⟩
set_option maxHeartbeats 8000000 in
theorem k_again_0 (E : Ev) (d : Nat) (M : PM) (n : Nat) (kp : Nat → Nat) (Q W : Nat → Nat → Nat) (G : Nat → Int32) (hk : KpC M n kp Q W G) : Ci E (d + 2) mX8_again [.ref (ad E 0), .int (nI 0)] M (fun v N => (kp 0 = 0 → v = -3 ∧ M = N) ∧ (kp 0 ≠ 0 → v = G 0 ∧ Fr M N [13, 14, 15, 27] ∧ Tb N 13 n (Q 0) (W 0) ∧ N.1 13 3 = G 0 ∧ N.1 27 3 = nI 0)) := by
  obtain ⟨k1, k2, k3⟩ := hk 0 (by decide)
  refine Ct.ofi [some (.ref (ad E 0)), some (.int (nI 0))] (own := RX8) rfl (by decide) (Nat.le_of_ble_eq_true rfl) rfl (fun C hR => ?_)
  refine x_iload_n dX8_again_0 rfl rfl ?_
  refine x_if_ltN (tgt := 9) dX8_again_1 (by decide) (by omega) ?_
  refine x_iload_n dX8_again_4 rfl rfl ?_
  refine x_iconst (v := nI 2) dX8_again_5 (by decide) ?_
  refine x_icmp_ltN (tgt := 11) dX8_again_6 (by decide) (by omega) (by omega) (fun hc => ?_) (fun hc => ?_)
  rotate_left
  · exact absurd hc (by omega)
  refine x_aload_n dX8_again_11 rfl rfl ?_
  refine x_getr dX8_again_12 fX8_42 rfl rfl (by decide) ?_
  refine x_iload_n dX8_again_15 rfl rfl ?_
  refine x_zaldN dX8_again_16 rfl (by decide) (by omega) (by decide) (k1) ?_
  refine x_if_neN (tgt := 23) dX8_again_17 (by decide) (by omega) (fun hc => ?_) (fun hc => ?_)
  rotate_left
  · refine x_bipush (v := -3) dX8_again_20 (by decide) ?_
    exact hR _ _ _ _ dX8_again_22 ⟨fun _ => ⟨rfl, rfl⟩, fun z => absurd hc z⟩
  have hne := hc
  obtain ⟨y1, y2⟩ := k3 hne
  refine x_aload_n dX8_again_23 rfl rfl ?_
  refine x_getr dX8_again_24 fX8_31 rfl rfl (by decide) ?_
  refine x_aload_n dX8_again_27 rfl rfl ?_
  refine x_getr dX8_again_28 fX8_38 rfl rfl (by decide) ?_
  refine x_iload_n dX8_again_31 rfl rfl ?_
  refine x_aald dX8_again_32 (vp_in_nI (by decide) (by decide)) ?_
  rw [aal_0]
  refine x_callVv dX8_again_33 mvX4_copyOf kX8_249 (k_copyOf_13_20 E d M) rfl (by decide) (by omega) rfl rfl (Nat.le_of_ble_eq_true rfl) ?_
  rintro N ⟨hN, e1, e2, e3⟩
  refine x_aload_n dX8_again_36 rfl rfl ?_
  refine x_getr dX8_again_37 fX8_49 rfl rfl (by decide) ?_
  refine x_callVv dX8_again_40 mvX0_forget kX8_100 (k_forget E (d + 1) N) rfl (by decide) (by omega) rfl rfl (Nat.le_of_ble_eq_true rfl) ?_
  rintro N2 ⟨hN2, h0⟩
  have hg : N2.1 13 3 = G 0 := hN2.v (by decide) (e3.trans y2)
  refine x_aload_n dX8_again_43 rfl rfl ?_
  refine x_getr dX8_again_44 fX8_31 rfl rfl (by decide) ?_
  refine x_getv (hg) dX8_again_47 fX8_112 rfl rfl (by decide) ?_
  exact hR _ _ _ _ dX8_again_50 ⟨fun z => absurd z hne, fun _ => ⟨rfl, (hN.wd (by decide) : Fr M N [13, 14, 15, 27]).tr hN2 (by decide), (Tb.of (T := 20) y1 e1 e2 : Tb N 13 n (Q 0) (W 0)).fr hN2 (by decide) (by decide), hg, h0⟩⟩
theorem aal_1 : 20 + 3 * (nI 1).toNatClampNeg = 23 := by decide
set_option maxHeartbeats 8000000 in
theorem k_keep_1 (E : Ev) (d : Nat) (M : PM) (n : Nat) (q w : Nat → Nat) (g : Int32) (kp : Nat → Nat) (Q W : Nat → Nat → Nat) (G : Nat → Int32) (hT : Tb M 13 n q w) (hg : M.1 13 3 = g) (hk : KpC M n kp Q W G) : Ci E (d + 2) mX8_keep [.ref (ad E 0), .int (nI 1)] M (fun v N => v = g ∧ Fr M N [23, 24, 25, 26] ∧ KpC N n (uf kp 1 1) (uf Q 1 q) (uf W 1 w) (uf G 1 g)) := by
  refine Ct.ofi [some (.ref (ad E 0)), some (.int (nI 1))] (own := RX8) rfl (by decide) (Nat.le_of_ble_eq_true rfl) rfl (fun C hR => ?_)
  refine x_iload_n dX8_keep_0 rfl rfl ?_
  refine x_if_ltN (tgt := 9) dX8_keep_1 (by decide) (by omega) ?_
  refine x_iload_n dX8_keep_4 rfl rfl ?_
  refine x_iconst (v := nI 2) dX8_keep_5 (by decide) ?_
  refine x_icmp_ltN (tgt := 11) dX8_keep_6 (by decide) (by omega) (by omega) (fun hc => ?_) (fun hc => ?_)
  rotate_left
  · exact absurd hc (by omega)
  refine x_aload_n dX8_keep_11 rfl rfl ?_
  refine x_getr dX8_keep_12 fX8_38 rfl rfl (by decide) ?_
  refine x_iload_n dX8_keep_15 rfl rfl ?_
  refine x_aald dX8_keep_16 (vp_in_nI (by decide) (by decide)) ?_
  rw [aal_1]
  refine x_aload_n dX8_keep_17 rfl rfl ?_
  refine x_getr dX8_keep_18 fX8_31 rfl rfl (by decide) ?_
  refine x_callVv dX8_keep_21 mvX4_copyOf kX8_249 (k_copyOf_23_13 E d M) rfl (by decide) (by omega) rfl rfl (Nat.le_of_ble_eq_true rfl) ?_
  rintro N ⟨hN, e1, e2, e3⟩
  refine x_aload_n dX8_keep_24 rfl rfl ?_
  refine x_getr dX8_keep_25 fX8_42 rfl rfl (by decide) ?_
  refine x_iload_n dX8_keep_28 rfl rfl ?_
  refine x_iconst (v := nI 1) dX8_keep_29 (by decide) ?_
  refine x_zastN dX8_keep_30 rfl (by decide) (by omega) (by decide) (by decide) ?_
  refine x_aload_n dX8_keep_31 rfl rfl ?_
  refine x_getr dX8_keep_32 fX8_31 rfl rfl (by decide) ?_
  refine x_getv (sa_v (by decide) (hN.v (by decide) hg)) dX8_keep_35 fX8_112 rfl rfl (by decide) ?_
  refine hR _ _ _ _ dX8_keep_38 ⟨rfl, (hN.wd (by decide) : Fr M N [23, 24, 25, 26]).sa (by decide), fun s hs => ?_⟩
  have hks := hk s hs
  rw [sa_1]
  by_cases e : s = 1
  · subst e
    rw [pk_us, uf_s, uf_s, uf_s, uf_s]
    refine ⟨rfl, by decide, fun _ => ⟨?_, ?_⟩⟩
    · exact (hT.of e1 e2).of (S := 23) (fun i _ => by rw [sa_ne (by decide)]) (fun i _ => by rw [sa_ne (by decide)])
    · exact sa_v (by decide) (e3.trans hg)
  · rw [pk_un e, uf_n e, uf_n e, uf_n e, uf_n e, hN.2 26 (by decide)]
    refine ⟨hks.1, hks.2.1, fun z => ?_⟩
    have es : s = 1 - 1 := by omega
    subst es
    obtain ⟨y1, y2⟩ := hks.2.2 z
    exact ⟨y1.of (fun i _ => by rw [sa_ne (by decide), hN.2 _ (by decide)]) (fun i _ => by rw [sa_ne (by decide), hN.2 _ (by decide)]), sa_v (by decide) (hN.v (by decide) y2)⟩
set_option maxHeartbeats 8000000 in
theorem k_again_1 (E : Ev) (d : Nat) (M : PM) (n : Nat) (kp : Nat → Nat) (Q W : Nat → Nat → Nat) (G : Nat → Int32) (hk : KpC M n kp Q W G) : Ci E (d + 2) mX8_again [.ref (ad E 0), .int (nI 1)] M (fun v N => (kp 1 = 0 → v = -3 ∧ M = N) ∧ (kp 1 ≠ 0 → v = G 1 ∧ Fr M N [13, 14, 15, 27] ∧ Tb N 13 n (Q 1) (W 1) ∧ N.1 13 3 = G 1 ∧ N.1 27 3 = nI 0)) := by
  obtain ⟨k1, k2, k3⟩ := hk 1 (by decide)
  refine Ct.ofi [some (.ref (ad E 0)), some (.int (nI 1))] (own := RX8) rfl (by decide) (Nat.le_of_ble_eq_true rfl) rfl (fun C hR => ?_)
  refine x_iload_n dX8_again_0 rfl rfl ?_
  refine x_if_ltN (tgt := 9) dX8_again_1 (by decide) (by omega) ?_
  refine x_iload_n dX8_again_4 rfl rfl ?_
  refine x_iconst (v := nI 2) dX8_again_5 (by decide) ?_
  refine x_icmp_ltN (tgt := 11) dX8_again_6 (by decide) (by omega) (by omega) (fun hc => ?_) (fun hc => ?_)
  rotate_left
  · exact absurd hc (by omega)
  refine x_aload_n dX8_again_11 rfl rfl ?_
  refine x_getr dX8_again_12 fX8_42 rfl rfl (by decide) ?_
  refine x_iload_n dX8_again_15 rfl rfl ?_
  refine x_zaldN dX8_again_16 rfl (by decide) (by omega) (by decide) (k1) ?_
  refine x_if_neN (tgt := 23) dX8_again_17 (by decide) (by omega) (fun hc => ?_) (fun hc => ?_)
  rotate_left
  · refine x_bipush (v := -3) dX8_again_20 (by decide) ?_
    exact hR _ _ _ _ dX8_again_22 ⟨fun _ => ⟨rfl, rfl⟩, fun z => absurd hc z⟩
  have hne := hc
  obtain ⟨y1, y2⟩ := k3 hne
  refine x_aload_n dX8_again_23 rfl rfl ?_
  refine x_getr dX8_again_24 fX8_31 rfl rfl (by decide) ?_
  refine x_aload_n dX8_again_27 rfl rfl ?_
  refine x_getr dX8_again_28 fX8_38 rfl rfl (by decide) ?_
  refine x_iload_n dX8_again_31 rfl rfl ?_
  refine x_aald dX8_again_32 (vp_in_nI (by decide) (by decide)) ?_
  rw [aal_1]
  refine x_callVv dX8_again_33 mvX4_copyOf kX8_249 (k_copyOf_13_23 E d M) rfl (by decide) (by omega) rfl rfl (Nat.le_of_ble_eq_true rfl) ?_
  rintro N ⟨hN, e1, e2, e3⟩
  refine x_aload_n dX8_again_36 rfl rfl ?_
  refine x_getr dX8_again_37 fX8_49 rfl rfl (by decide) ?_
  refine x_callVv dX8_again_40 mvX0_forget kX8_100 (k_forget E (d + 1) N) rfl (by decide) (by omega) rfl rfl (Nat.le_of_ble_eq_true rfl) ?_
  rintro N2 ⟨hN2, h0⟩
  have hg : N2.1 13 3 = G 1 := hN2.v (by decide) (e3.trans y2)
  refine x_aload_n dX8_again_43 rfl rfl ?_
  refine x_getr dX8_again_44 fX8_31 rfl rfl (by decide) ?_
  refine x_getv (hg) dX8_again_47 fX8_112 rfl rfl (by decide) ?_
  exact hR _ _ _ _ dX8_again_50 ⟨fun z => absurd z hne, fun _ => ⟨rfl, (hN.wd (by decide) : Fr M N [13, 14, 15, 27]).tr hN2 (by decide), (Tb.of (T := 23) y1 e1 e2 : Tb N 13 n (Q 1) (W 1)).fr hN2 (by decide) (by decide), hg, h0⟩⟩
set_option maxHeartbeats 8000000 in
theorem k_see (E : Ev) (d : Nat) (M : PM) (K sn : Nat) (sk ss : Nat → Nat) (k s : Int32) (hK : M.1 3 4 = nI K) (hK5 : K ≤ 5) (hs : SnC M sn sk ss) : Ci E (d + 1) mX8_see [.ref (ad E 0), .int k, .int s] M (fun v N => v = aSee K sn k s ∧ (¬ seeOk K sn k s → M = N) ∧ (seeOk K sn k s → Fr M N [34, 35, 36] ∧ SnC N (sn + 1) (uf sk sn (tn k)) (uf ss sn (tn s)))) := by
  have e2 : (nI 2).toInt = 2 := by decide
  have h6 := hs.2.1
  refine Ct.ofi [some (.ref (ad E 0)), some (.int k), some (.int s)] (own := RX8) rfl (by decide) (Nat.le_of_ble_eq_true rfl) rfl (fun C hR => ?_)
  refine x_aload_n dX8_see_0 rfl rfl ?_
  refine x_iload_n dX8_see_1 rfl rfl ?_
  refine x_callVi dX8_see_2 mvX8_isKin kX8_160 (k_is_4 E d M k K hK hK5) rfl (by decide) (by omega) rfl rfl (Nat.le_of_ble_eq_true rfl) ?_
  rintro _ _ ⟨rfl, rfl⟩
  refine x_if_neB (tgt := 10) dX8_see_5 (by decide) (fun hc => ?_) (fun hc => ?_)
  rotate_left
  · have hk := of_decide_eq_false hc
    refine x_iconst (v := -1) dX8_see_8 (by decide) ?_
    exact hR _ _ _ _ dX8_see_9 ⟨by unfold aSee; rw [if_neg hk], fun _ => rfl, fun z => absurd z.1 hk⟩
  have hk0 := of_decide_eq_true hc
  rcases ixc k K (by omega) with ⟨k, hk, rfl, hkt⟩ | hk
  rotate_left
  · exact absurd hk0 hk
  rcases ixc s 3 (by decide) with ⟨s, hs3, rfl, hst⟩ | hs3
  rotate_left
  · have bad : X E (d + 1) RX8 cX8_see 3 C 19 [some (.ref (ad E 0)), some (.int (nI k)), some (.int s)] [] M := by
      refine x_bipush (v := -2) dX8_see_19 (by decide) ?_
      exact hR _ _ _ _ dX8_see_21 ⟨by unfold aSee; rw [if_pos hk0, if_neg hs3], fun _ => rfl, fun z => absurd z.2.1 hs3⟩
    refine x_iload_n dX8_see_10 rfl rfl ?_
    refine x_if_lt (tgt := 19) dX8_see_11 (by decide) (fun hc => ?_) (fun hc => ?_)
    · exact bad
    rw [Int32.lt_iff_toInt_lt, Int32.toInt_zero] at hc
    have g := hc
    refine x_iload_n dX8_see_14 rfl rfl ?_
    refine x_iconst (v := nI 2) dX8_see_15 (by decide) ?_
    refine x_icmp_le (tgt := 22) dX8_see_16 (by decide) (fun hc => ?_) (fun hc => ?_)
    · rw [Int32.le_iff_toInt_le, e2] at hc
      exact absurd (by omega) hs3
    · exact bad
  have hin : inR (nI s) 3 := inR_nI hs3 (by decide)
  refine x_iload_n dX8_see_10 rfl rfl ?_
  refine x_if_ltN (tgt := 19) dX8_see_11 (by decide) (by omega) ?_
  refine x_iload_n dX8_see_14 rfl rfl ?_
  refine x_iconst (v := nI 2) dX8_see_15 (by decide) ?_
  refine x_icmp_leN (tgt := 22) dX8_see_16 (by decide) (by omega) (by omega) (fun hc => ?_) (fun hc => ?_)
  rotate_left
  · exact absurd hc (by omega)
  rw [tn_nI (by omega), tn_nI (by omega), show aSee K sn (nI k) (nI s) = if sn = 6 then -4 else nI (sn + 1) by unfold aSee; rw [if_pos hk0, if_pos hin]] at hR
  by_cases z : sn = 6
  · refine x_aload_n dX8_see_22 rfl rfl ?_
    refine x_getr dX8_see_23 fX8_63 rfl rfl (by decide) ?_
    refine x_iload_n dX8_see_26 rfl rfl ?_
    refine x_iload_n dX8_see_27 rfl rfl ?_
    refine x_callVi dX8_see_28 mvX3_append kX8_270 (k_snAppend_no E d M (nI k) (nI s) (by rw [hs.1, z])) rfl (by decide) (by omega) rfl rfl (Nat.le_of_ble_eq_true rfl) ?_
    rintro _ _ ⟨rfl, rfl⟩
    refine x_if_eqB (tgt := 44) dX8_see_31 (by decide) (fun hc => ?_) (fun hc => ?_)
    rotate_left
    · cases hc
    refine x_bipush (v := -4) dX8_see_44 (by decide) ?_
    exact hR _ _ _ _ dX8_see_46 ⟨by rw [if_pos z], fun _ => rfl, fun y => absurd z y.2.2⟩
  · refine x_aload_n dX8_see_22 rfl rfl ?_
    refine x_getr dX8_see_23 fX8_63 rfl rfl (by decide) ?_
    refine x_iload_n dX8_see_26 rfl rfl ?_
    refine x_iload_n dX8_see_27 rfl rfl ?_
    refine x_callVi dX8_see_28 mvX3_append kX8_270 (k_snAppend E d M sn k s sk ss hs (by omega) (by omega) hs3) rfl (by decide) (by omega) rfl rfl (Nat.le_of_ble_eq_true rfl) ?_
    rintro _ N ⟨rfl, hN, hSN⟩
    refine x_if_eqB (tgt := 44) dX8_see_31 (by decide) (fun hc => ?_) (fun hc => ?_)
    · cases hc
    refine x_aload_n dX8_see_34 rfl rfl ?_
    refine x_getr dX8_see_35 fX8_63 rfl rfl (by decide) ?_
    refine x_getv (hSN.1) dX8_see_38 fX8_135 rfl rfl (by decide) ?_
    refine x_goto (tgt := 46) dX8_see_41 (by decide) ?_
    exact hR _ _ _ _ dX8_see_46 ⟨by rw [if_neg z], fun y => absurd ⟨hk0, hin, z⟩ y, fun _ => ⟨hN, hSN⟩⟩
