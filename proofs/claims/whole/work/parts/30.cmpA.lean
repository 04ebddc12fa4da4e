-- ===== the component: small helpers, the text, the house =====
/-- the component's family -/
def Hc (M : PM) (n K D : Nat) (kd pt nd : Nat → Nat) : Prop := M.1 3 5 = nI n ∧ M.1 3 4 = nI K ∧ M.1 3 6 = nI D ∧ n ≤ 5 ∧ K ≤ 5 ∧ D ≤ 4 ∧ (∀ k, k < K → M.1 4 k = nI (kd k) ∧ kd k < 4) ∧ (∀ d, d < D → M.1 6 d = nI (pt d) ∧ pt d < 4) ∧ ∀ d, d < D → M.1 7 d = nI (nd d) ∧ nd d < 10
theorem Hc.fr {M N : PM} {n K D : Nat} {kd pt nd : Nat → Nat} {cs : List Nat} (h : Hc M n K D kd pt nd) (hf : Fr M N cs) (h1 : 3 ∉ cs) (h2 : 4 ∉ cs) (h3 : 6 ∉ cs) (h4 : 7 ∉ cs) : Hc N n K D kd pt nd := by
  unfold Hc at *
  rw [hf.2 3 h1, hf.2 4 h2, hf.2 6 h3, hf.2 7 h4]
  exact h
set_option maxHeartbeats 8000000 in
theorem k_isHalf (E : Ev) (d : Nat) (M : PM) (x : Int32) : Ci E d mX8_isHalf [.int x] M (fun v N => v = bI (decide (inR x 2)) ∧ M = N) := by
  refine Ct.ofz [some (.int x)] (own := RX8) rfl (by decide) (Nat.le_of_ble_eq_true rfl) rfl (fun C hR => ?_)
  refine x_iload_n dX8_isHalf_0 rfl rfl ?_
  refine x_if_eq (tgt := 9) dX8_isHalf_1 (by decide) (fun hc => ?_) (fun hc => ?_)
  · subst hc
    refine x_iconst (v := nI 1) dX8_isHalf_9 (by decide) ?_
    refine x_goto (tgt := 14) dX8_isHalf_10 (by decide) ?_
    exact hR _ _ _ _ dX8_isHalf_14 (by first | exact bI_n _ | decide) (⟨by decide, rfl⟩)
  have h0 : x.toInt ≠ 0 := fun e => hc (Int32.toInt_inj.mp e)
  refine x_iload_n dX8_isHalf_4 rfl rfl ?_
  refine x_iconst (v := nI 1) dX8_isHalf_5 (by decide) ?_
  refine x_icmp_ne (tgt := 13) dX8_isHalf_6 (by decide) (fun hc => ?_) (fun hc => ?_)
  · have h1 : x.toInt ≠ 1 := fun e => hc (Int32.toInt_inj.mp e)
    refine x_iconst (v := nI 0) dX8_isHalf_13 (by decide) ?_
    exact hR _ _ _ _ dX8_isHalf_14 (by first | exact bI_n _ | decide) (⟨(dec_f (by omega)).symm, rfl⟩)
  · subst hc
    refine x_iconst (v := nI 1) dX8_isHalf_9 (by decide) ?_
    refine x_goto (tgt := 14) dX8_isHalf_10 (by decide) ?_
    exact hR _ _ _ _ dX8_isHalf_14 (by first | exact bI_n _ | decide) (⟨by decide, rfl⟩)
set_option maxHeartbeats 8000000 in
theorem k_isWorth (E : Ev) (d : Nat) (M : PM) (x : Int32) : Ci E d mX8_isWorth [.int x] M (fun v N => v = bI (decide (inR x 10000)) ∧ M = N) := by
  have e99 : (nI 9999).toInt = 9999 := by decide
  refine Ct.ofz [some (.int x)] (own := RX8) rfl (by decide) (Nat.le_of_ble_eq_true rfl) rfl (fun C hR => ?_)
  refine x_iload_n dX8_isWorth_0 rfl rfl ?_
  refine x_if_lt (tgt := 15) dX8_isWorth_1 (by decide) (fun hc => ?_) (fun hc => ?_)
  · rw [Int32.lt_iff_toInt_lt, Int32.toInt_zero] at hc
    refine x_iconst (v := nI 0) dX8_isWorth_15 (by decide) ?_
    exact hR _ _ _ _ dX8_isWorth_16 (by first | exact bI_n _ | decide) (⟨(dec_f (by omega)).symm, rfl⟩)
  rw [Int32.lt_iff_toInt_lt, Int32.toInt_zero] at hc
  refine x_iload_n dX8_isWorth_4 rfl rfl ?_
  refine x_sipush (v := nI 9999) dX8_isWorth_5 (by decide) ?_
  have h0 := hc
  refine x_icmp_gt (tgt := 15) dX8_isWorth_8 (by decide) (fun hc => ?_) (fun hc => ?_)
  · rw [Int32.lt_iff_toInt_lt, e99] at hc
    refine x_iconst (v := nI 0) dX8_isWorth_15 (by decide) ?_
    exact hR _ _ _ _ dX8_isWorth_16 (by first | exact bI_n _ | decide) (⟨(dec_f (by omega)).symm, rfl⟩)
  · rw [Int32.lt_iff_toInt_lt, e99] at hc
    refine x_iconst (v := nI 1) dX8_isWorth_11 (by decide) ?_
    refine x_goto (tgt := 16) dX8_isWorth_12 (by decide) ?_
    exact hR _ _ _ _ dX8_isWorth_16 (by first | exact bI_n _ | decide) (⟨(dec_t (by omega)).symm, rfl⟩)
set_option maxHeartbeats 8000000 in
theorem k_is_5 (E : Ev) (d : Nat) (M : PM) (x : Int32) (n : Nat) (hn : M.1 3 5 = nI n) (hn5 : n ≤ 5) : Ci E d mX8_isRow [.ref (ad E 0), .int x] M (fun v N => v = bI (decide (inR x n)) ∧ M = N) := by
  have en : (nI n).toInt = (n : Int) := nI_toInt (by omega)
  refine Ct.ofz [some (.ref (ad E 0)), some (.int x)] (own := RX8) rfl (by decide) (Nat.le_of_ble_eq_true rfl) rfl (fun C hR => ?_)
  refine x_iload_n dX8_isRow_0 rfl rfl ?_
  refine x_if_lt (tgt := 19) dX8_isRow_1 (by decide) (fun hc => ?_) (fun hc => ?_)
  · rw [Int32.lt_iff_toInt_lt, Int32.toInt_zero] at hc
    refine x_iconst (v := nI 0) dX8_isRow_19 (by decide) ?_
    exact hR _ _ _ _ dX8_isRow_20 (by first | exact bI_n _ | decide) (⟨(dec_f (by omega)).symm, rfl⟩)
  rw [Int32.lt_iff_toInt_lt, Int32.toInt_zero] at hc
  have h0 := hc
  refine x_iload_n dX8_isRow_4 rfl rfl ?_
  refine x_aload_n dX8_isRow_5 rfl rfl ?_
  refine x_getr dX8_isRow_6 fX8_19 rfl rfl (by decide) ?_
  refine x_getv (hn) dX8_isRow_9 fX8_103 rfl rfl (by decide) ?_
  refine x_icmp_ge (tgt := 19) dX8_isRow_12 (by decide) (fun hc => ?_) (fun hc => ?_)
  · rw [Int32.le_iff_toInt_le, en] at hc
    refine x_iconst (v := nI 0) dX8_isRow_19 (by decide) ?_
    exact hR _ _ _ _ dX8_isRow_20 (by first | exact bI_n _ | decide) (⟨(dec_f (by omega)).symm, rfl⟩)
  · rw [Int32.le_iff_toInt_le, en] at hc
    refine x_iconst (v := nI 1) dX8_isRow_15 (by decide) ?_
    refine x_goto (tgt := 20) dX8_isRow_16 (by decide) ?_
    exact hR _ _ _ _ dX8_isRow_20 (by first | exact bI_n _ | decide) (⟨(dec_t (by omega)).symm, rfl⟩)
set_option maxHeartbeats 8000000 in
theorem k_is_4 (E : Ev) (d : Nat) (M : PM) (x : Int32) (n : Nat) (hn : M.1 3 4 = nI n) (hn5 : n ≤ 5) : Ci E d mX8_isKin [.ref (ad E 0), .int x] M (fun v N => v = bI (decide (inR x n)) ∧ M = N) := by
  have en : (nI n).toInt = (n : Int) := nI_toInt (by omega)
  refine Ct.ofz [some (.ref (ad E 0)), some (.int x)] (own := RX8) rfl (by decide) (Nat.le_of_ble_eq_true rfl) rfl (fun C hR => ?_)
  refine x_iload_n dX8_isKin_0 rfl rfl ?_
  refine x_if_lt (tgt := 19) dX8_isKin_1 (by decide) (fun hc => ?_) (fun hc => ?_)
  · rw [Int32.lt_iff_toInt_lt, Int32.toInt_zero] at hc
    refine x_iconst (v := nI 0) dX8_isKin_19 (by decide) ?_
    exact hR _ _ _ _ dX8_isKin_20 (by first | exact bI_n _ | decide) (⟨(dec_f (by omega)).symm, rfl⟩)
  rw [Int32.lt_iff_toInt_lt, Int32.toInt_zero] at hc
  have h0 := hc
  refine x_iload_n dX8_isKin_4 rfl rfl ?_
  refine x_aload_n dX8_isKin_5 rfl rfl ?_
  refine x_getr dX8_isKin_6 fX8_19 rfl rfl (by decide) ?_
  refine x_getv (hn) dX8_isKin_9 fX8_106 rfl rfl (by decide) ?_
  refine x_icmp_ge (tgt := 19) dX8_isKin_12 (by decide) (fun hc => ?_) (fun hc => ?_)
  · rw [Int32.le_iff_toInt_le, en] at hc
    refine x_iconst (v := nI 0) dX8_isKin_19 (by decide) ?_
    exact hR _ _ _ _ dX8_isKin_20 (by first | exact bI_n _ | decide) (⟨(dec_f (by omega)).symm, rfl⟩)
  · rw [Int32.le_iff_toInt_le, en] at hc
    refine x_iconst (v := nI 1) dX8_isKin_15 (by decide) ?_
    refine x_goto (tgt := 20) dX8_isKin_16 (by decide) ?_
    exact hR _ _ _ _ dX8_isKin_20 (by first | exact bI_n _ | decide) (⟨(dec_t (by omega)).symm, rfl⟩)
set_option maxHeartbeats 8000000 in
theorem k_is_6 (E : Ev) (d : Nat) (M : PM) (x : Int32) (n : Nat) (hn : M.1 3 6 = nI n) (hn5 : n ≤ 5) : Ci E d mX8_isDeed [.ref (ad E 0), .int x] M (fun v N => v = bI (decide (inR x n)) ∧ M = N) := by
  have en : (nI n).toInt = (n : Int) := nI_toInt (by omega)
  refine Ct.ofz [some (.ref (ad E 0)), some (.int x)] (own := RX8) rfl (by decide) (Nat.le_of_ble_eq_true rfl) rfl (fun C hR => ?_)
  refine x_iload_n dX8_isDeed_0 rfl rfl ?_
  refine x_if_lt (tgt := 19) dX8_isDeed_1 (by decide) (fun hc => ?_) (fun hc => ?_)
  · rw [Int32.lt_iff_toInt_lt, Int32.toInt_zero] at hc
    refine x_iconst (v := nI 0) dX8_isDeed_19 (by decide) ?_
    exact hR _ _ _ _ dX8_isDeed_20 (by first | exact bI_n _ | decide) (⟨(dec_f (by omega)).symm, rfl⟩)
  rw [Int32.lt_iff_toInt_lt, Int32.toInt_zero] at hc
  have h0 := hc
  refine x_iload_n dX8_isDeed_4 rfl rfl ?_
  refine x_aload_n dX8_isDeed_5 rfl rfl ?_
  refine x_getr dX8_isDeed_6 fX8_19 rfl rfl (by decide) ?_
  refine x_getv (hn) dX8_isDeed_9 fX8_109 rfl rfl (by decide) ?_
  refine x_icmp_ge (tgt := 19) dX8_isDeed_12 (by decide) (fun hc => ?_) (fun hc => ?_)
  · rw [Int32.le_iff_toInt_le, en] at hc
    refine x_iconst (v := nI 0) dX8_isDeed_19 (by decide) ?_
    exact hR _ _ _ _ dX8_isDeed_20 (by first | exact bI_n _ | decide) (⟨(dec_f (by omega)).symm, rfl⟩)
  · rw [Int32.le_iff_toInt_le, en] at hc
    refine x_iconst (v := nI 1) dX8_isDeed_15 (by decide) ?_
    refine x_goto (tgt := 20) dX8_isDeed_16 (by decide) ?_
    exact hR _ _ _ _ dX8_isDeed_20 (by first | exact bI_n _ | decide) (⟨(dec_t (by omega)).symm, rfl⟩)
set_option maxHeartbeats 8000000 in
theorem k_kinOf (E : Ev) (d : Nat) (M : PM) (x : Nat) (hx : x < 1000) : Ci E d mX8_kinOf [.int (nI x)] M (fun v N => v = nI (x / 4) ∧ M = N) := by
  refine Ct.ofi [some (.int (nI x))] (own := RX8) rfl (by decide) (Nat.le_of_ble_eq_true rfl) rfl (fun C hR => ?_)
  refine x_iload_n dX8_kinOf_0 rfl rfl ?_
  refine x_iconst (v := nI 4) dX8_kinOf_1 (by decide) ?_
  refine x_idivN dX8_kinOf_2 (by omega) (by omega) (by omega) ?_
  exact hR _ _ _ _ dX8_kinOf_3 (⟨rfl, rfl⟩)
set_option maxHeartbeats 8000000 in
theorem k_partOf (E : Ev) (d : Nat) (M : PM) (x : Nat) (hx : x < 1000) : Ci E d mX8_partOf [.int (nI x)] M (fun v N => v = nI (x % 4) ∧ M = N) := by
  refine Ct.ofi [some (.int (nI x))] (own := RX8) rfl (by decide) (Nat.le_of_ble_eq_true rfl) rfl (fun C hR => ?_)
  refine x_iload_n dX8_partOf_0 rfl rfl ?_
  refine x_iconst (v := nI 4) dX8_partOf_1 (by decide) ?_
  refine x_iremN dX8_partOf_2 (by omega) (by omega) (by omega) ?_
  exact hR _ _ _ _ dX8_partOf_3 (⟨rfl, rfl⟩)
set_option maxHeartbeats 8000000 in
theorem k_halfOf (E : Ev) (d : Nat) (M : PM) (c : Nat) (w : Nat → Nat) (r : Nat) (hc5 : c < 1000) (hw : w r < 1000) : Ci E d mX8_halfOf [.int (nI c), .int (nI (w r))] M (fun v N => v = nI (hf w r c) ∧ M = N) := by
  refine Ct.ofi [some (.int (nI c)), some (.int (nI (w r)))] (own := RX8) rfl (by decide) (Nat.le_of_ble_eq_true rfl) rfl (fun C hR => ?_)
  refine x_iload_n dX8_halfOf_0 rfl rfl ?_
  refine x_iload_n dX8_halfOf_1 rfl rfl ?_
  refine x_icmp_geN (tgt := 9) dX8_halfOf_2 (by decide) (by omega) (by omega) (fun hc => ?_) (fun hc => ?_)
  · refine x_iconst (v := nI 1) dX8_halfOf_9 (by decide) ?_
    exact hR _ _ _ _ dX8_halfOf_10 (⟨by unfold hf; rw [if_neg (by omega)], rfl⟩)
  · refine x_iconst (v := nI 0) dX8_halfOf_5 (by decide) ?_
    refine x_goto (tgt := 10) dX8_halfOf_6 (by decide) ?_
    exact hR _ _ _ _ dX8_halfOf_10 (⟨by unfold hf; rw [if_pos hc], rfl⟩)
set_option maxHeartbeats 8000000 in
theorem k_figuresOf (E : Ev) (d : Nat) (M : PM) (c n : Nat) (w : Nat → Nat) (hl : lay c = .inl (0, 5)) (hcK : c < cK) (hn5 : n ≤ 5) (hw : ∀ r, r < n → M.1 c r = nI (w r)) : Ci E d mX8_figuresOf [.ref (ad E c), .int (nI n)] M (fun v N => v = nI (fig w n) ∧ M = N) := by
  refine Ct.ofi [some (.ref (ad E c)), some (.int (nI n)), none, none] (own := RX8) rfl (by decide) (Nat.le_of_ble_eq_true rfl) rfl (fun C hR => ?_)
  refine x_iconst (v := nI 1) dX8_figuresOf_0 (by decide) ?_
  refine xis4_2 dX8_figuresOf_1 rfl ?_
  refine x_iconst (v := nI 0) dX8_figuresOf_2 (by decide) ?_
  refine xis4_3 dX8_figuresOf_3 rfl ?_
  have key : ∀ r, r ≤ n → X E d RX8 cX8_figuresOf 4 C 4 [some (.ref (ad E c)), some (.int (nI n)), some (.int (nI (fig w r))), some (.int (nI r))] [] M := by
    refine up_loop n ?_ ?_
    · refine x_iload_n dX8_figuresOf_4 rfl rfl ?_
      refine x_iload_n dX8_figuresOf_5 rfl rfl ?_
      refine x_icmp_geN (tgt := 24) dX8_figuresOf_6 (by decide) (by omega) (by omega) (fun hc => ?_) (fun hc => ?_)
      · refine x_iload_n dX8_figuresOf_24 rfl rfl ?_
        exact hR _ _ _ _ dX8_figuresOf_25 (⟨rfl, rfl⟩)
      · exact absurd hc (by omega)
    · intro r hr ih
      refine x_iload_n dX8_figuresOf_4 rfl rfl ?_
      refine x_iload_n dX8_figuresOf_5 rfl rfl ?_
      refine x_icmp_geN (tgt := 24) dX8_figuresOf_6 (by decide) (by omega) (by omega) (fun hc => ?_) (fun hc => ?_)
      · exact absurd hc (by omega)
      refine x_bipush (v := nI 10) dX8_figuresOf_9 (by decide) ?_
      refine x_iload_n dX8_figuresOf_11 rfl rfl ?_
      refine x_imulN dX8_figuresOf_12 ?_
      refine x_aload_n dX8_figuresOf_13 rfl rfl ?_
      refine x_iload_n dX8_figuresOf_14 rfl rfl ?_
      refine x_ialdN dX8_figuresOf_15 hl hcK (by omega) (by decide) (hw r hr) ?_
      refine x_iaddN dX8_figuresOf_16 ?_
      refine xis4_2 dX8_figuresOf_17 rfl ?_
      refine xinc4_3N dX8_figuresOf_18 rfl ?_
      refine x_goto (tgt := 4) dX8_figuresOf_21 (by decide) ?_
      exact ih
  exact key 0 (by omega)
def TxC (M : PM) (t : Nat) (tx : Nat → Nat) : Prop := M.1 1 1 = nI t ∧ t ≤ 56 ∧ ∀ i, i < t → M.1 2 i = nI (tx i) ∧ tx i < 256
theorem TxC.fr {M N : PM} {t : Nat} {tx : Nat → Nat} {cs : List Nat} (h : TxC M t tx) (hf : Fr M N cs) (h1 : 1 ∉ cs) (h2 : 2 ∉ cs) : TxC N t tx := by
  unfold TxC
  rw [hf.2 1 h1, hf.2 2 h2]
  exact h
set_option maxHeartbeats 8000000 in
theorem k_append (E : Ev) (d : Nat) (M : PM) (t x : Nat) (tx : Nat → Nat) (ht : TxC M t tx) (hx : x < 256) : Ci E d mX6_append [.ref (ad E 1), .int (nI x)] M (fun v N => (t = 56 → v = bI false ∧ M = N) ∧ (t ≠ 56 → v = bI true ∧ Fr M N [1, 2] ∧ TxC N (t + 1) (uf tx t x))) := by
  obtain ⟨t1, t2, t3⟩ := ht
  refine Ct.ofz [some (.ref (ad E 1)), some (.int (nI x))] (own := RX6) rfl (by decide) (Nat.le_of_ble_eq_true rfl) rfl (fun C hR => ?_)
  refine x_aload_n dX6_append_0 rfl rfl ?_
  refine x_getv (t1) dX6_append_1 fX6_15 rfl rfl (by decide) ?_
  refine x_bipush (v := nI 56) dX6_append_4 (by decide) ?_
  refine x_icmp_ltN (tgt := 11) dX6_append_6 (by decide) (by omega) (by omega) (fun hc => ?_) (fun hc => ?_)
  rotate_left
  · refine x_iconst (v := nI 0) dX6_append_9 (by decide) ?_
    exact hR _ _ _ _ dX6_append_10 (by first | exact bI_n _ | decide) (⟨fun _ => ⟨rfl, rfl⟩, fun e => absurd (by omega) e⟩)
  refine x_aload_n dX6_append_11 rfl rfl ?_
  refine x_getr dX6_append_12 fX6_9 rfl rfl (by decide) ?_
  refine x_aload_n dX6_append_15 rfl rfl ?_
  refine x_getv (t1) dX6_append_16 fX6_15 rfl rfl (by decide) ?_
  refine x_iload_n dX6_append_19 rfl rfl ?_
  refine x_iastN dX6_append_20 rfl (by decide) (by omega) (by decide) ?_
  refine x_aload_n dX6_append_21 rfl rfl ?_
  refine x_dup dX6_append_22 rfl ?_
  refine x_getv (sa_v (by decide) t1) dX6_append_23 fX6_15 rfl rfl (by decide) ?_
  refine x_iconst (v := nI 1) dX6_append_26 (by decide) ?_
  refine x_iaddN dX6_append_27 ?_
  refine x_put dX6_append_28 pX6_15 rfl rfl (by decide) rfl rfl ?_
  refine x_iconst (v := nI 1) dX6_append_31 (by decide) ?_
  refine hR _ _ _ _ dX6_append_32 (by decide) ⟨fun e => absurd e (by omega), fun _ => ⟨rfl, (Fr.rf.sa (by decide)).sa (by decide), by rw [sa_1, pk_us], by omega, fun i hi => ⟨sa_v (by decide) (sau_f (fun e => (t3 i (by omega)).1)), ?_⟩⟩⟩
  by_cases e : i = t
  · subst e; rw [uf_s]; exact hx
  · rw [uf_n e]; exact (t3 i (by omega)).2
/-- how far a house has read -/
def HsC (M : PM) (h : Nat) : PS → Prop
  | (aw, col, K, n, D, kd, cl, pt, nd) => M.1 h 4 = nI K ∧ M.1 h 5 = nI n ∧ M.1 h 6 = nI D ∧ M.1 h 7 = nI aw ∧ M.1 h 8 = nI col ∧ (∀ k, k < K → M.1 (h + 1) k = nI (kd k)) ∧ (∀ i, i < 5 * n + (if aw = 3 then col else 0) → M.1 (h + 2) i = nI (cl i)) ∧ (∀ x, x < D → M.1 (h + 3) x = nI (pt x) ∧ M.1 (h + 4) x = nI (nd x)) ∧ (aw = 5 → M.1 (h + 3) D = nI (pt D))
def okC : PS → Prop
  | (aw, col, K, n, D, _, _, _, _) => K ≤ 5 ∧ n ≤ 5 ∧ D ≤ 4 ∧ (aw = 2 → K < 5) ∧ (aw = 3 → n < 5 ∧ col < 5) ∧ (aw = 4 ∨ aw = 5 → D < 4) ∧ aw ≤ 5
set_option maxHeartbeats 8000000 in
theorem k_hbegin_3 (E : Ev) (d : Nat) (M : PM) : Cv E d mX1_begin [.ref (ad E 3)] M (fun N => Fr M N [3] ∧ HsC N 3 ps0) := by
  refine Ct.ofv [some (.ref (ad E 3))] (own := RX1) rfl (by decide) (Nat.le_of_ble_eq_true rfl) rfl (fun C hR => ?_)
  refine x_aload_n dX1_begin_0 rfl rfl ?_
  refine x_iconst (v := nI 0) dX1_begin_1 (by decide) ?_
  refine x_put dX1_begin_2 pX1_24 rfl rfl (by decide) rfl rfl ?_
  refine x_aload_n dX1_begin_5 rfl rfl ?_
  refine x_iconst (v := nI 0) dX1_begin_6 (by decide) ?_
  refine x_put dX1_begin_7 pX1_28 rfl rfl (by decide) rfl rfl ?_
  refine x_aload_n dX1_begin_10 rfl rfl ?_
  refine x_iconst (v := nI 0) dX1_begin_11 (by decide) ?_
  refine x_put dX1_begin_12 pX1_31 rfl rfl (by decide) rfl rfl ?_
  refine x_aload_n dX1_begin_15 rfl rfl ?_
  refine x_iconst (v := nI 0) dX1_begin_16 (by decide) ?_
  refine x_put dX1_begin_17 pX1_34 rfl rfl (by decide) rfl rfl ?_
  refine x_aload_n dX1_begin_20 rfl rfl ?_
  refine x_iconst (v := nI 0) dX1_begin_21 (by decide) ?_
  refine x_put dX1_begin_22 pX1_37 rfl rfl (by decide) rfl rfl ?_
  refine hR _ _ _ dX1_begin_25 ⟨((((Fr.rf.sa (by decide)).sa (by decide)).sa (by decide)).sa (by decide)).sa (by decide), ?_, ?_, ?_, ?_, ?_, fun k h => absurd h (by omega), fun k h => absurd h (by simp), fun k h => absurd h (by omega), fun h => absurd h (by decide)⟩
  · exact sau_v (by decide) (sau_v (by decide) (sau_v (by decide) (sau_v (by decide) (by rw [sa_1, pk_us]))))
  · exact sau_v (by decide) (sau_v (by decide) (sau_v (by decide) (by rw [sa_1, pk_us])))
  · exact sau_v (by decide) (sau_v (by decide) (by rw [sa_1, pk_us]))
  · rw [sa_1, pk_us]
  · exact sau_v (by decide) (by rw [sa_1, pk_us])
set_option maxHeartbeats 8000000 in
theorem k_isWhole_3 (E : Ev) (d : Nat) (M : PM) (a : Nat) (ha : a ≤ 5) (h : M.1 3 7 = nI a) : Ci E d mX1_isWhole [.ref (ad E 3)] M (fun v N => v = bI (decide (a = 1)) ∧ M = N) := by
  refine Ct.ofz [some (.ref (ad E 3))] (own := RX1) rfl (by decide) (Nat.le_of_ble_eq_true rfl) rfl (fun C hR => ?_)
  refine x_aload_n dX1_isWhole_0 rfl rfl ?_
  refine x_getv (h) dX1_isWhole_1 fX1_37 rfl rfl (by decide) ?_
  refine x_iconst (v := nI 1) dX1_isWhole_4 (by decide) ?_
  refine x_icmp_neN (tgt := 12) dX1_isWhole_5 (by decide) (by omega) (by omega) (fun hc => ?_) (fun hc => ?_)
  · refine x_iconst (v := nI 0) dX1_isWhole_12 (by decide) ?_
    exact hR _ _ _ _ dX1_isWhole_13 (by first | exact bI_n _ | decide) (⟨(dec_f hc).symm, rfl⟩)
  · refine x_iconst (v := nI 1) dX1_isWhole_8 (by decide) ?_
    refine x_goto (tgt := 13) dX1_isWhole_9 (by decide) ?_
    exact hR _ _ _ _ dX1_isWhole_13 (by first | exact bI_n _ | decide) (⟨(dec_t hc).symm, rfl⟩)
/-- one byte: what a call that takes it says -/
def tkP_3 (M N : PM) (b : Nat) (s : PS) (v : Int32) : Prop := Fr M N [3, 4, 5, 6, 7] ∧ ((v = bI false ∧ pstep b s = none) ∨ (v = bI true ∧ ∃ s', pstep b s = some s' ∧ HsC N 3 s' ∧ okC s'))
set_option maxHeartbeats 8000000 in
theorem k_takeStart_3 (E : Ev) (d : Nat) (M : PM) (b col K n D : Nat) (kd cl pt nd : Nat → Nat) (hb : b < 256) (h : HsC M 3 (0, col, K, n, D, kd, cl, pt, nd)) (ho : okC (0, col, K, n, D, kd, cl, pt, nd)) : Ci E d mX1_takeStart [.ref (ad E 3), .int (nI b)] M (fun v N => tkP_3 M N b (0, col, K, n, D, kd, cl, pt, nd) v) := by
  obtain ⟨h1, h2, h3, h4, h5, h6, h7, h8, h9⟩ := h
  obtain ⟨o1, o2, o3, o4, o5, o6, o7⟩ := ho
  refine Ct.ofz [some (.ref (ad E 3)), some (.int (nI b))] (own := RX1) rfl (by decide) (Nat.le_of_ble_eq_true rfl) rfl (fun C hR => ?_)
  refine x_iload_n dX1_takeStart_0 rfl rfl ?_
  refine x_bipush (v := nI 70) dX1_takeStart_1 (by decide) ?_
  refine x_icmp_eqN (tgt := 8) dX1_takeStart_3 (by decide) (by omega) (by omega) (fun hc => ?_) (fun hc => ?_)
  · refine x_aload_n dX1_takeStart_8 rfl rfl ?_
    refine x_iconst (v := nI 1) dX1_takeStart_9 (by decide) ?_
    refine x_put dX1_takeStart_10 pX1_37 rfl rfl (by decide) rfl rfl ?_
    refine x_iconst (v := nI 1) dX1_takeStart_13 (by decide) ?_
    refine hR _ _ _ _ dX1_takeStart_14 (by decide) ⟨Fr.rf.sa (by decide), Or.inr ⟨rfl, _, show (if b = 70 then some _ else none) = some _ from if_pos hc, ⟨sau_v (by decide) h1, sau_v (by decide) h2, sau_v (by decide) h3, by rw [sa_1, pk_us], sau_v (by decide) h5, fun k hk => sa_v (by decide) (h6 k hk), fun i hi => sa_v (by decide) (h7 i (by simpa using hi)), fun x hx => ⟨sa_v (by decide) (h8 x hx).1, sa_v (by decide) (h8 x hx).2⟩, fun e => absurd e (by decide)⟩, ⟨o1, o2, o3, fun e => absurd e (by decide), fun e => absurd e (by decide), fun e => absurd e (by decide), by decide⟩⟩⟩
  · refine x_iconst (v := nI 0) dX1_takeStart_6 (by decide) ?_
    exact hR _ _ _ _ dX1_takeStart_7 (by decide) ⟨Fr.rf, Or.inl ⟨rfl, show (if b = 70 then some _ else none) = none from if_neg hc⟩⟩
set_option maxHeartbeats 8000000 in
theorem k_takeThing_3 (E : Ev) (d : Nat) (M : PM) (b col K n D : Nat) (kd cl pt nd : Nat → Nat) (hb : b < 256) (h : HsC M 3 (1, col, K, n, D, kd, cl, pt, nd)) (ho : okC (1, col, K, n, D, kd, cl, pt, nd)) : Ci E d mX1_takeThing [.ref (ad E 3), .int (nI b)] M (fun v N => tkP_3 M N b (1, col, K, n, D, kd, cl, pt, nd) v) := by
  obtain ⟨h1, h2, h3, h4, h5, h6, h7, h8, h9⟩ := h
  obtain ⟨o1, o2, o3, o4, o5, o6, o7⟩ := ho
  have hps : pstep b (1, col, K, n, D, kd, cl, pt, nd) = if b = 75 ∧ K < 5 then some (2, col, K, n, D, kd, cl, pt, nd) else if b = 82 ∧ n < 5 ∧ 0 < K then some (3, 0, K, n, D, kd, cl, pt, nd) else if b = 68 ∧ D < 4 then some (4, col, K, n, D, kd, cl, pt, nd) else none := rfl
  refine Ct.ofz [some (.ref (ad E 3)), some (.int (nI b))] (own := RX1) rfl (by decide) (Nat.le_of_ble_eq_true rfl) rfl (fun C hR => ?_)
  have deed : ¬ (b = 75 ∧ K < 5) → ¬ (b = 82 ∧ n < 5 ∧ 0 < K) → X E d RX1 cX1_takeThing 2 C 54 [some (.ref (ad E 3)), some (.int (nI b))] [] M := by
    intro e1 e2
    rw [if_neg e1, if_neg e2] at hps
    have bad : ¬ (b = 68 ∧ D < 4) → X E d RX1 cX1_takeThing 2 C 75 [some (.ref (ad E 3)), some (.int (nI b))] [] M := by
      intro e3
      refine x_iconst (v := nI 0) dX1_takeThing_75 (by decide) ?_
      exact hR _ _ _ _ dX1_takeThing_76 (by decide) ⟨Fr.rf, Or.inl ⟨rfl, by rw [hps, if_neg e3]⟩⟩
    refine x_iload_n dX1_takeThing_54 rfl rfl ?_
    refine x_bipush (v := nI 68) dX1_takeThing_55 (by decide) ?_
    refine x_icmp_neN (tgt := 75) dX1_takeThing_57 (by decide) (by omega) (by omega) (fun hc => ?_) (fun hc => ?_)
    · exact bad (by omega)
    have e68 : b = 68 := hc
    refine x_aload_n dX1_takeThing_60 rfl rfl ?_
    refine x_getv (h3) dX1_takeThing_61 fX1_31 rfl rfl (by decide) ?_
    refine x_iconst (v := nI 4) dX1_takeThing_64 (by decide) ?_
    refine x_icmp_geN (tgt := 75) dX1_takeThing_65 (by decide) (by omega) (by omega) (fun hc => ?_) (fun hc => ?_)
    · exact bad (by omega)
    · rw [if_pos ⟨e68, hc⟩] at hps
      refine x_aload_n dX1_takeThing_68 rfl rfl ?_
      refine x_iconst (v := nI 4) dX1_takeThing_69 (by decide) ?_
      refine x_put dX1_takeThing_70 pX1_37 rfl rfl (by decide) rfl rfl ?_
      refine x_iconst (v := nI 1) dX1_takeThing_73 (by decide) ?_
      exact hR _ _ _ _ dX1_takeThing_74 (by decide) ⟨Fr.rf.sa (by decide), Or.inr ⟨rfl, _, hps, ⟨sau_v (by decide) h1, sau_v (by decide) h2, sau_v (by decide) h3, by rw [sa_1, pk_us], sau_v (by decide) h5, fun k hk => sa_v (by decide) (h6 k hk), fun i hi => sa_v (by decide) (h7 i (by simpa using hi)), fun x hx => ⟨sa_v (by decide) (h8 x hx).1, sa_v (by decide) (h8 x hx).2⟩, fun e => absurd e (by decide)⟩, ⟨o1, o2, o3, fun e => absurd e (by decide), fun e => absurd e (by decide), fun _ => hc, by decide⟩⟩⟩
  have rowT : ¬ (b = 75 ∧ K < 5) → X E d RX1 cX1_takeThing 2 C 21 [some (.ref (ad E 3)), some (.int (nI b))] [] M := by
    intro e1
    refine x_iload_n dX1_takeThing_21 rfl rfl ?_
    refine x_bipush (v := nI 82) dX1_takeThing_22 (by decide) ?_
    refine x_icmp_neN (tgt := 54) dX1_takeThing_24 (by decide) (by omega) (by omega) (fun hc => ?_) (fun hc => ?_)
    · exact deed e1 (by omega)
    have e82 : b = 82 := hc
    refine x_aload_n dX1_takeThing_27 rfl rfl ?_
    refine x_getv (h2) dX1_takeThing_28 fX1_28 rfl rfl (by decide) ?_
    refine x_iconst (v := nI 5) dX1_takeThing_31 (by decide) ?_
    refine x_icmp_geN (tgt := 54) dX1_takeThing_32 (by decide) (by omega) (by omega) (fun hc => ?_) (fun hc => ?_)
    · exact deed e1 (by omega)
    have hn5 := hc
    refine x_aload_n dX1_takeThing_35 rfl rfl ?_
    refine x_getv (h1) dX1_takeThing_36 fX1_24 rfl rfl (by decide) ?_
    refine x_if_leN (tgt := 54) dX1_takeThing_39 (by decide) (by omega) (fun hc => ?_) (fun hc => ?_)
    · exact deed e1 (by omega)
    · rw [if_neg e1, if_pos ⟨e82, hn5, hc⟩] at hps
      refine x_aload_n dX1_takeThing_42 rfl rfl ?_
      refine x_iconst (v := nI 3) dX1_takeThing_43 (by decide) ?_
      refine x_put dX1_takeThing_44 pX1_37 rfl rfl (by decide) rfl rfl ?_
      refine x_aload_n dX1_takeThing_47 rfl rfl ?_
      refine x_iconst (v := nI 0) dX1_takeThing_48 (by decide) ?_
      refine x_put dX1_takeThing_49 pX1_34 rfl rfl (by decide) rfl rfl ?_
      refine x_iconst (v := nI 1) dX1_takeThing_52 (by decide) ?_
      exact hR _ _ _ _ dX1_takeThing_53 (by decide) ⟨(Fr.rf.sa (by decide)).sa (by decide), Or.inr ⟨rfl, _, hps, ⟨sau_v (by decide) (sau_v (by decide) h1), sau_v (by decide) (sau_v (by decide) h2), sau_v (by decide) (sau_v (by decide) h3), sau_v (by decide) (by rw [sa_1, pk_us]), by rw [sa_1, pk_us], fun k hk => sa_v (by decide) (sa_v (by decide) (h6 k hk)), fun i hi => sa_v (by decide) (sa_v (by decide) (h7 i (by simpa using hi))), fun x hx => ⟨sa_v (by decide) (sa_v (by decide) (h8 x hx).1), sa_v (by decide) (sa_v (by decide) (h8 x hx).2)⟩, fun e => absurd e (by decide)⟩, ⟨o1, o2, o3, fun e => absurd e (by decide), fun _ => ⟨hn5, by decide⟩, fun e => absurd e (by decide), by decide⟩⟩⟩
  refine x_iload_n dX1_takeThing_0 rfl rfl ?_
  refine x_bipush (v := nI 75) dX1_takeThing_1 (by decide) ?_
  refine x_icmp_neN (tgt := 21) dX1_takeThing_3 (by decide) (by omega) (by omega) (fun hc => ?_) (fun hc => ?_)
  · exact rowT (by omega)
  have e75 : b = 75 := hc
  refine x_aload_n dX1_takeThing_6 rfl rfl ?_
  refine x_getv (h1) dX1_takeThing_7 fX1_24 rfl rfl (by decide) ?_
  refine x_iconst (v := nI 5) dX1_takeThing_10 (by decide) ?_
  refine x_icmp_geN (tgt := 21) dX1_takeThing_11 (by decide) (by omega) (by omega) (fun hc => ?_) (fun hc => ?_)
  · exact rowT (by omega)
  · rw [if_pos ⟨e75, hc⟩] at hps
    refine x_aload_n dX1_takeThing_14 rfl rfl ?_
    refine x_iconst (v := nI 2) dX1_takeThing_15 (by decide) ?_
    refine x_put dX1_takeThing_16 pX1_37 rfl rfl (by decide) rfl rfl ?_
    refine x_iconst (v := nI 1) dX1_takeThing_19 (by decide) ?_
    exact hR _ _ _ _ dX1_takeThing_20 (by decide) ⟨Fr.rf.sa (by decide), Or.inr ⟨rfl, _, hps, ⟨sau_v (by decide) h1, sau_v (by decide) h2, sau_v (by decide) h3, by rw [sa_1, pk_us], sau_v (by decide) h5, fun k hk => sa_v (by decide) (h6 k hk), fun i hi => sa_v (by decide) (h7 i (by simpa using hi)), fun x hx => ⟨sa_v (by decide) (h8 x hx).1, sa_v (by decide) (h8 x hx).2⟩, fun e => absurd e (by decide)⟩, ⟨o1, o2, o3, fun _ => hc, fun e => absurd e (by decide), fun e => absurd e (by decide), by decide⟩⟩⟩
set_option maxHeartbeats 8000000 in
theorem k_takeKind_3 (E : Ev) (d : Nat) (M : PM) (b col K n D : Nat) (kd cl pt nd : Nat → Nat) (hb : b < 256) (h : HsC M 3 (2, col, K, n, D, kd, cl, pt, nd)) (ho : okC (2, col, K, n, D, kd, cl, pt, nd)) : Ci E d mX1_takeKind [.ref (ad E 3), .int (nI b - nI 48)] M (fun v N => tkP_3 M N b (2, col, K, n, D, kd, cl, pt, nd) v) := by
  obtain ⟨h1, h2, h3, h4, h5, h6, h7, h8, h9⟩ := h
  obtain ⟨o1, o2, o3, o4, o5, o6, o7⟩ := ho
  have hK5 := o4 rfl
  have hx := pk_sub_toInt (a := b) (b := 48) (by omega) (by omega)
  have e4 : (nI 4).toInt = 4 := by decide
  have hps : pstep b (2, col, K, n, D, kd, cl, pt, nd) = if 48 ≤ b ∧ b ≤ 51 then some (1, col, K + 1, n, D, uf kd K (b - 48), cl, pt, nd) else none := rfl
  refine Ct.ofz [some (.ref (ad E 3)), some (.int (nI b - nI 48))] (own := RX1) rfl (by decide) (Nat.le_of_ble_eq_true rfl) rfl (fun C hR => ?_)
  have bad : ¬ (48 ≤ b ∧ b ≤ 51) → X E d RX1 cX1_takeKind 2 C 17 [some (.ref (ad E 3)), some (.int (nI b - nI 48))] [] M := by
    intro e
    refine x_iconst (v := nI 0) dX1_takeKind_17 (by decide) ?_
    exact hR _ _ _ _ dX1_takeKind_18 (by decide) ⟨Fr.rf, Or.inl ⟨rfl, by rw [hps, if_neg e]⟩⟩
  refine x_iload_n dX1_takeKind_0 rfl rfl ?_
  refine x_if_lt (tgt := 17) dX1_takeKind_1 (by decide) (fun hc => ?_) (fun hc => ?_)
  · rw [Int32.lt_iff_toInt_lt, Int32.toInt_zero] at hc
    exact bad (by omega)
  rw [Int32.lt_iff_toInt_lt, Int32.toInt_zero] at hc
  have hlo := hc
  refine x_iload_n dX1_takeKind_4 rfl rfl ?_
  refine x_iconst (v := nI 4) dX1_takeKind_5 (by decide) ?_
  refine x_icmp_ge (tgt := 17) dX1_takeKind_6 (by decide) (fun hc => ?_) (fun hc => ?_)
  · rw [Int32.le_iff_toInt_le, e4] at hc
    exact bad (by omega)
  rw [Int32.le_iff_toInt_le, e4] at hc
  have hin : 48 ≤ b ∧ b ≤ 51 := by omega
  refine x_aload_n dX1_takeKind_9 rfl rfl ?_
  refine x_getv (h1) dX1_takeKind_10 fX1_24 rfl rfl (by decide) ?_
  refine x_iconst (v := nI 5) dX1_takeKind_13 (by decide) ?_
  refine x_icmp_ltN (tgt := 19) dX1_takeKind_14 (by decide) (by omega) (by omega) (fun hc => ?_) (fun hc => ?_)
  rotate_left
  · exact absurd hc (by omega)
  rw [if_pos hin] at hps
  rw [pk_sub hin.1]
  refine x_aload_n dX1_takeKind_19 rfl rfl ?_
  refine x_getr dX1_takeKind_20 fX1_9 rfl rfl (by decide) ?_
  refine x_aload_n dX1_takeKind_23 rfl rfl ?_
  refine x_getv (h1) dX1_takeKind_24 fX1_24 rfl rfl (by decide) ?_
  refine x_iload_n dX1_takeKind_27 rfl rfl ?_
  refine x_iastN dX1_takeKind_28 rfl (by decide) (by omega) (by decide) ?_
  refine x_aload_n dX1_takeKind_29 rfl rfl ?_
  refine x_dup dX1_takeKind_30 rfl ?_
  refine x_getv (sa_v (by decide) h1) dX1_takeKind_31 fX1_24 rfl rfl (by decide) ?_
  refine x_iconst (v := nI 1) dX1_takeKind_34 (by decide) ?_
  refine x_iaddN dX1_takeKind_35 ?_
  refine x_put dX1_takeKind_36 pX1_24 rfl rfl (by decide) rfl rfl ?_
  refine x_aload_n dX1_takeKind_39 rfl rfl ?_
  refine x_iconst (v := nI 1) dX1_takeKind_40 (by decide) ?_
  refine x_put dX1_takeKind_41 pX1_37 rfl rfl (by decide) rfl rfl ?_
  refine x_iconst (v := nI 1) dX1_takeKind_44 (by decide) ?_
  exact hR _ _ _ _ dX1_takeKind_45 (by decide) ⟨((Fr.rf.sa (by decide)).sa (by decide)).sa (by decide), Or.inr ⟨rfl, _, hps, ⟨sau_v (by decide) (by rw [sa_1, pk_us]), sau_v (by decide) (sau_v (by decide) (sa_v (by decide) h2)), sau_v (by decide) (sau_v (by decide) (sa_v (by decide) h3)), by rw [sa_1, pk_us], sau_v (by decide) (sau_v (by decide) (sa_v (by decide) h5)), fun k hk => sa_v (by decide) (sa_v (by decide) (sau_f (fun e => h6 k (by omega)))), fun i hi => sa_v (by decide) (sa_v (by decide) (sa_v (by decide) (h7 i (by simpa using hi)))), fun x hx => ⟨sa_v (by decide) (sa_v (by decide) (sa_v (by decide) (h8 x hx).1)), sa_v (by decide) (sa_v (by decide) (sa_v (by decide) (h8 x hx).2))⟩, fun e => absurd e (by decide)⟩, ⟨by omega, o2, o3, fun e => absurd e (by decide), fun e => absurd e (by decide), fun e => absurd e (by decide), by decide⟩⟩⟩
set_option maxHeartbeats 8000000 in
theorem k_takePart_3 (E : Ev) (d : Nat) (M : PM) (b col K n D : Nat) (kd cl pt nd : Nat → Nat) (hb : b < 256) (h : HsC M 3 (4, col, K, n, D, kd, cl, pt, nd)) (ho : okC (4, col, K, n, D, kd, cl, pt, nd)) : Ci E d mX1_takePart [.ref (ad E 3), .int (nI b - nI 48)] M (fun v N => tkP_3 M N b (4, col, K, n, D, kd, cl, pt, nd) v) := by
  obtain ⟨h1, h2, h3, h4, h5, h6, h7, h8, h9⟩ := h
  obtain ⟨o1, o2, o3, o4, o5, o6, o7⟩ := ho
  have hD4 := o6 (Or.inl rfl)
  have hx := pk_sub_toInt (a := b) (b := 48) (by omega) (by omega)
  have e4 : (nI 4).toInt = 4 := by decide
  have hps : pstep b (4, col, K, n, D, kd, cl, pt, nd) = if 48 ≤ b ∧ b ≤ 51 then some (5, col, K, n, D, kd, cl, uf pt D (b - 48), nd) else none := rfl
  refine Ct.ofz [some (.ref (ad E 3)), some (.int (nI b - nI 48))] (own := RX1) rfl (by decide) (Nat.le_of_ble_eq_true rfl) rfl (fun C hR => ?_)
  have bad : ¬ (48 ≤ b ∧ b ≤ 51) → X E d RX1 cX1_takePart 2 C 17 [some (.ref (ad E 3)), some (.int (nI b - nI 48))] [] M := by
    intro e
    refine x_iconst (v := nI 0) dX1_takePart_17 (by decide) ?_
    exact hR _ _ _ _ dX1_takePart_18 (by decide) ⟨Fr.rf, Or.inl ⟨rfl, by rw [hps, if_neg e]⟩⟩
  refine x_iload_n dX1_takePart_0 rfl rfl ?_
  refine x_if_lt (tgt := 17) dX1_takePart_1 (by decide) (fun hc => ?_) (fun hc => ?_)
  · rw [Int32.lt_iff_toInt_lt, Int32.toInt_zero] at hc
    exact bad (by omega)
  rw [Int32.lt_iff_toInt_lt, Int32.toInt_zero] at hc
  have hlo := hc
  refine x_iload_n dX1_takePart_4 rfl rfl ?_
  refine x_iconst (v := nI 4) dX1_takePart_5 (by decide) ?_
  refine x_icmp_ge (tgt := 17) dX1_takePart_6 (by decide) (fun hc => ?_) (fun hc => ?_)
  · rw [Int32.le_iff_toInt_le, e4] at hc
    exact bad (by omega)
  rw [Int32.le_iff_toInt_le, e4] at hc
  have hin : 48 ≤ b ∧ b ≤ 51 := by omega
  refine x_aload_n dX1_takePart_9 rfl rfl ?_
  refine x_getv (h3) dX1_takePart_10 fX1_31 rfl rfl (by decide) ?_
  refine x_iconst (v := nI 4) dX1_takePart_13 (by decide) ?_
  refine x_icmp_ltN (tgt := 19) dX1_takePart_14 (by decide) (by omega) (by omega) (fun hc => ?_) (fun hc => ?_)
  rotate_left
  · exact absurd hc (by omega)
  rw [if_pos hin] at hps
  rw [pk_sub hin.1]
  refine x_aload_n dX1_takePart_19 rfl rfl ?_
  refine x_getr dX1_takePart_20 fX1_18 rfl rfl (by decide) ?_
  refine x_aload_n dX1_takePart_23 rfl rfl ?_
  refine x_getv (h3) dX1_takePart_24 fX1_31 rfl rfl (by decide) ?_
  refine x_iload_n dX1_takePart_27 rfl rfl ?_
  refine x_iastN dX1_takePart_28 rfl (by decide) (by omega) (by decide) ?_
  refine x_aload_n dX1_takePart_29 rfl rfl ?_
  refine x_iconst (v := nI 5) dX1_takePart_30 (by decide) ?_
  refine x_put dX1_takePart_31 pX1_37 rfl rfl (by decide) rfl rfl ?_
  refine x_iconst (v := nI 1) dX1_takePart_34 (by decide) ?_
  exact hR _ _ _ _ dX1_takePart_35 (by decide) ⟨(Fr.rf.sa (by decide)).sa (by decide), Or.inr ⟨rfl, _, hps, ⟨sau_v (by decide) (sa_v (by decide) h1), sau_v (by decide) (sa_v (by decide) h2), sau_v (by decide) (sa_v (by decide) h3), by rw [sa_1, pk_us], sau_v (by decide) (sa_v (by decide) h5), fun k hk => sa_v (by decide) (sa_v (by decide) (h6 k hk)), fun i hi => sa_v (by decide) (sa_v (by decide) (h7 i (by simpa using hi))), fun x hx => ⟨sa_v (by decide) (sau_f (fun e => (h8 x hx).1)), sa_v (by decide) (sa_v (by decide) (h8 x hx).2)⟩, fun _ => sa_v (by decide) (sau_f (fun e => absurd rfl e))⟩, ⟨o1, o2, o3, fun e => absurd e (by decide), fun e => absurd e (by decide), fun _ => hD4, by decide⟩⟩⟩
set_option maxHeartbeats 8000000 in
theorem k_takeNeed_3 (E : Ev) (d : Nat) (M : PM) (b col K n D : Nat) (kd cl pt nd : Nat → Nat) (hb : b < 256) (h : HsC M 3 (5, col, K, n, D, kd, cl, pt, nd)) (ho : okC (5, col, K, n, D, kd, cl, pt, nd)) : Ci E d mX1_takeNeed [.ref (ad E 3), .int (nI b - nI 48)] M (fun v N => tkP_3 M N b (5, col, K, n, D, kd, cl, pt, nd) v) := by
  obtain ⟨h1, h2, h3, h4, h5, h6, h7, h8, h9⟩ := h
  obtain ⟨o1, o2, o3, o4, o5, o6, o7⟩ := ho
  have hD4 := o6 (Or.inr rfl)
  have hx := pk_sub_toInt (a := b) (b := 48) (by omega) (by omega)
  have e1 : (nI 1).toInt = 1 := by decide
  have e9 : (nI 9).toInt = 9 := by decide
  have hps : pstep b (5, col, K, n, D, kd, cl, pt, nd) = if 49 ≤ b ∧ b ≤ 57 then some (1, col, K, n, D + 1, kd, cl, pt, uf nd D (b - 48)) else none := rfl
  refine Ct.ofz [some (.ref (ad E 3)), some (.int (nI b - nI 48))] (own := RX1) rfl (by decide) (Nat.le_of_ble_eq_true rfl) rfl (fun C hR => ?_)
  have bad : ¬ (49 ≤ b ∧ b ≤ 57) → X E d RX1 cX1_takeNeed 2 C 19 [some (.ref (ad E 3)), some (.int (nI b - nI 48))] [] M := by
    intro e
    refine x_iconst (v := nI 0) dX1_takeNeed_19 (by decide) ?_
    exact hR _ _ _ _ dX1_takeNeed_20 (by decide) ⟨Fr.rf, Or.inl ⟨rfl, by rw [hps, if_neg e]⟩⟩
  refine x_iload_n dX1_takeNeed_0 rfl rfl ?_
  refine x_iconst (v := nI 1) dX1_takeNeed_1 (by decide) ?_
  refine x_icmp_lt (tgt := 19) dX1_takeNeed_2 (by decide) (fun hc => ?_) (fun hc => ?_)
  · rw [Int32.lt_iff_toInt_lt, e1] at hc
    exact bad (by omega)
  rw [Int32.lt_iff_toInt_lt, e1] at hc
  have hlo := hc
  refine x_iload_n dX1_takeNeed_5 rfl rfl ?_
  refine x_bipush (v := nI 9) dX1_takeNeed_6 (by decide) ?_
  refine x_icmp_gt (tgt := 19) dX1_takeNeed_8 (by decide) (fun hc => ?_) (fun hc => ?_)
  · rw [Int32.lt_iff_toInt_lt, e9] at hc
    exact bad (by omega)
  rw [Int32.lt_iff_toInt_lt, e9] at hc
  have hin : 49 ≤ b ∧ b ≤ 57 := by omega
  refine x_aload_n dX1_takeNeed_11 rfl rfl ?_
  refine x_getv (h3) dX1_takeNeed_12 fX1_31 rfl rfl (by decide) ?_
  refine x_iconst (v := nI 4) dX1_takeNeed_15 (by decide) ?_
  refine x_icmp_ltN (tgt := 21) dX1_takeNeed_16 (by decide) (by omega) (by omega) (fun hc => ?_) (fun hc => ?_)
  rotate_left
  · exact absurd hc (by omega)
  rw [if_pos hin] at hps
  rw [pk_sub (show 48 ≤ b by omega)]
  refine x_aload_n dX1_takeNeed_21 rfl rfl ?_
  refine x_getr dX1_takeNeed_22 fX1_21 rfl rfl (by decide) ?_
  refine x_aload_n dX1_takeNeed_25 rfl rfl ?_
  refine x_getv (h3) dX1_takeNeed_26 fX1_31 rfl rfl (by decide) ?_
  refine x_iload_n dX1_takeNeed_29 rfl rfl ?_
  refine x_iastN dX1_takeNeed_30 rfl (by decide) (by omega) (by decide) ?_
  refine x_aload_n dX1_takeNeed_31 rfl rfl ?_
  refine x_dup dX1_takeNeed_32 rfl ?_
  refine x_getv (sa_v (by decide) h3) dX1_takeNeed_33 fX1_31 rfl rfl (by decide) ?_
  refine x_iconst (v := nI 1) dX1_takeNeed_36 (by decide) ?_
  refine x_iaddN dX1_takeNeed_37 ?_
  refine x_put dX1_takeNeed_38 pX1_31 rfl rfl (by decide) rfl rfl ?_
  refine x_aload_n dX1_takeNeed_41 rfl rfl ?_
  refine x_iconst (v := nI 1) dX1_takeNeed_42 (by decide) ?_
  refine x_put dX1_takeNeed_43 pX1_37 rfl rfl (by decide) rfl rfl ?_
  refine x_iconst (v := nI 1) dX1_takeNeed_46 (by decide) ?_
  refine hR _ _ _ _ dX1_takeNeed_47 (by decide) ⟨((Fr.rf.sa (by decide)).sa (by decide)).sa (by decide), Or.inr ⟨rfl, _, hps, ⟨sau_v (by decide) (sau_v (by decide) (sa_v (by decide) h1)), sau_v (by decide) (sau_v (by decide) (sa_v (by decide) h2)), sau_v (by decide) (by rw [sa_1, pk_us]), by rw [sa_1, pk_us], sau_v (by decide) (sau_v (by decide) (sa_v (by decide) h5)), fun k hk => sa_v (by decide) (sa_v (by decide) (sa_v (by decide) (h6 k hk))), fun i hi => sa_v (by decide) (sa_v (by decide) (sa_v (by decide) (h7 i (by simpa using hi)))), fun x hx => ⟨sa_v (by decide) (sa_v (by decide) (sa_v (by decide) ?_)), sa_v (by decide) (sa_v (by decide) (sau_f (fun e => (h8 x (by omega)).2)))⟩, fun e => absurd e (by decide)⟩, ⟨o1, o2, by omega, fun e => absurd e (by decide), fun e => absurd e (by decide), fun e => absurd e (by decide), by decide⟩⟩⟩
  by_cases e : x = D
  · rw [e]; exact h9 rfl
  · exact (h8 x (by omega)).1
set_option maxHeartbeats 8000000 in
theorem k_takeCell_3 (E : Ev) (d : Nat) (M : PM) (b col K n D : Nat) (kd cl pt nd : Nat → Nat) (hb : b < 256) (h : HsC M 3 (3, col, K, n, D, kd, cl, pt, nd)) (ho : okC (3, col, K, n, D, kd, cl, pt, nd)) : Ci E d mX1_takeCell [.ref (ad E 3), .int (nI b - nI 97)] M (fun v N => tkP_3 M N b (3, col, K, n, D, kd, cl, pt, nd) v) := by
  obtain ⟨h1, h2, h3, h4, h5, h6, h7, h8, h9⟩ := h
  obtain ⟨o1, o2, o3, o4, o5, o6, o7⟩ := ho
  obtain ⟨hn5, hcol⟩ := o5 rfl
  have hx := pk_sub_toInt (a := b) (b := 97) (by omega) (by omega)
  have e4 : (nI (K * 4)).toInt = ((K * 4 : Nat) : Int) := nI_toInt (by omega)
  have hps : pstep b (3, col, K, n, D, kd, cl, pt, nd) = if 97 ≤ b ∧ b < 97 + 4 * K then some (if col = 4 then (1, 5, K, n + 1, D, kd, uf cl (5 * n + col) (b - 97), pt, nd) else (3, col + 1, K, n, D, kd, uf cl (5 * n + col) (b - 97), pt, nd)) else none := rfl
  refine Ct.ofz [some (.ref (ad E 3)), some (.int (nI b - nI 97))] (own := RX1) rfl (by decide) (Nat.le_of_ble_eq_true rfl) rfl (fun C hR => ?_)
  have bad : ¬ (97 ≤ b ∧ b < 97 + 4 * K) → X E d RX1 cX1_takeCell 2 C 30 [some (.ref (ad E 3)), some (.int (nI b - nI 97))] [] M := by
    intro e
    refine x_iconst (v := nI 0) dX1_takeCell_30 (by decide) ?_
    exact hR _ _ _ _ dX1_takeCell_31 (by decide) ⟨Fr.rf, Or.inl ⟨rfl, by rw [hps, if_neg e]⟩⟩
  refine x_iload_n dX1_takeCell_0 rfl rfl ?_
  refine x_if_lt (tgt := 30) dX1_takeCell_1 (by decide) (fun hc => ?_) (fun hc => ?_)
  · rw [Int32.lt_iff_toInt_lt, Int32.toInt_zero] at hc
    exact bad (by omega)
  rw [Int32.lt_iff_toInt_lt, Int32.toInt_zero] at hc
  have hlo := hc
  refine x_iload_n dX1_takeCell_4 rfl rfl ?_
  refine x_aload_n dX1_takeCell_5 rfl rfl ?_
  refine x_getv (h1) dX1_takeCell_6 fX1_24 rfl rfl (by decide) ?_
  refine x_iconst (v := nI 4) dX1_takeCell_9 (by decide) ?_
  refine x_imulN dX1_takeCell_10 ?_
  refine x_icmp_ge (tgt := 30) dX1_takeCell_11 (by decide) (fun hc => ?_) (fun hc => ?_)
  · rw [Int32.le_iff_toInt_le, e4] at hc
    exact bad (by omega)
  rw [Int32.le_iff_toInt_le, e4] at hc
  have hin : 97 ≤ b ∧ b < 97 + 4 * K := by omega
  rw [if_pos hin] at hps
  refine x_aload_n dX1_takeCell_14 rfl rfl ?_
  refine x_getv (h2) dX1_takeCell_15 fX1_28 rfl rfl (by decide) ?_
  refine x_iconst (v := nI 5) dX1_takeCell_18 (by decide) ?_
  refine x_icmp_geN (tgt := 30) dX1_takeCell_19 (by decide) (by omega) (by omega) (fun hc => ?_) (fun hc => ?_)
  · exact absurd hc (by omega)
  refine x_aload_n dX1_takeCell_22 rfl rfl ?_
  refine x_getv (h5) dX1_takeCell_23 fX1_34 rfl rfl (by decide) ?_
  refine x_iconst (v := nI 5) dX1_takeCell_26 (by decide) ?_
  refine x_icmp_ltN (tgt := 32) dX1_takeCell_27 (by decide) (by omega) (by omega) (fun hc => ?_) (fun hc => ?_)
  rotate_left
  · exact absurd hc (by omega)
  rw [pk_sub hin.1]
  refine x_aload_n dX1_takeCell_32 rfl rfl ?_
  refine x_getr dX1_takeCell_33 fX1_15 rfl rfl (by decide) ?_
  refine x_aload_n dX1_takeCell_36 rfl rfl ?_
  refine x_getv (h2) dX1_takeCell_37 fX1_28 rfl rfl (by decide) ?_
  refine x_iconst (v := nI 5) dX1_takeCell_40 (by decide) ?_
  refine x_imulN dX1_takeCell_41 ?_
  refine x_aload_n dX1_takeCell_42 rfl rfl ?_
  refine x_getv (h5) dX1_takeCell_43 fX1_34 rfl rfl (by decide) ?_
  refine x_iaddN dX1_takeCell_46 ?_
  refine x_iload_n dX1_takeCell_47 rfl rfl ?_
  refine x_iastN dX1_takeCell_48 rfl (by decide) (by omega) (by decide) ?_
  refine x_aload_n dX1_takeCell_49 rfl rfl ?_
  refine x_dup dX1_takeCell_50 rfl ?_
  refine x_getv (sa_v (by decide) h5) dX1_takeCell_51 fX1_34 rfl rfl (by decide) ?_
  refine x_iconst (v := nI 1) dX1_takeCell_54 (by decide) ?_
  refine x_iaddN dX1_takeCell_55 ?_
  refine x_put dX1_takeCell_56 pX1_34 rfl rfl (by decide) rfl rfl ?_
  have hcell : ∀ i, i < 5 * n + (col + 1) → (sa (sa M 5 (upd (M.1 5) (n * 5 + col) (nI (b - 97)))) 3 (upd ((sa M 5 (upd (M.1 5) (n * 5 + col) (nI (b - 97)))).1 3) 8 (nI (col + 1)))).1 5 i = nI (uf cl (5 * n + col) (b - 97) i) := by
    intro i hi
    rw [show 5 * n + col = n * 5 + col by omega]
    exact sa_v (by decide) (sau_f (fun e => h7 i (by rw [if_pos rfl]; omega)))
  have hF : Fr M (sa (sa M 5 (upd (M.1 5) (n * 5 + col) (nI (b - 97)))) 3 (upd ((sa M 5 (upd (M.1 5) (n * 5 + col) (nI (b - 97)))).1 3) 8 (nI (col + 1)))) [3, 4, 5, 6, 7] := (Fr.rf.sa (by decide)).sa (by decide)
  have g1 : (sa (sa M 5 (upd (M.1 5) (n * 5 + col) (nI (b - 97)))) 3 (upd ((sa M 5 (upd (M.1 5) (n * 5 + col) (nI (b - 97)))).1 3) 8 (nI (col + 1)))).1 3 4 = nI K := sau_v (by decide) (sa_v (by decide) h1)
  have g2 : (sa (sa M 5 (upd (M.1 5) (n * 5 + col) (nI (b - 97)))) 3 (upd ((sa M 5 (upd (M.1 5) (n * 5 + col) (nI (b - 97)))).1 3) 8 (nI (col + 1)))).1 3 5 = nI n := sau_v (by decide) (sa_v (by decide) h2)
  have g3 : (sa (sa M 5 (upd (M.1 5) (n * 5 + col) (nI (b - 97)))) 3 (upd ((sa M 5 (upd (M.1 5) (n * 5 + col) (nI (b - 97)))).1 3) 8 (nI (col + 1)))).1 3 6 = nI D := sau_v (by decide) (sa_v (by decide) h3)
  have g4 : (sa (sa M 5 (upd (M.1 5) (n * 5 + col) (nI (b - 97)))) 3 (upd ((sa M 5 (upd (M.1 5) (n * 5 + col) (nI (b - 97)))).1 3) 8 (nI (col + 1)))).1 3 7 = nI 3 := sau_v (by decide) (sa_v (by decide) h4)
  have g5 : (sa (sa M 5 (upd (M.1 5) (n * 5 + col) (nI (b - 97)))) 3 (upd ((sa M 5 (upd (M.1 5) (n * 5 + col) (nI (b - 97)))).1 3) 8 (nI (col + 1)))).1 3 8 = nI (col + 1) := by rw [sa_1, pk_us]
  have g6 : ∀ k, k < K → (sa (sa M 5 (upd (M.1 5) (n * 5 + col) (nI (b - 97)))) 3 (upd ((sa M 5 (upd (M.1 5) (n * 5 + col) (nI (b - 97)))).1 3) 8 (nI (col + 1)))).1 4 k = nI (kd k) := fun k hk => sa_v (by decide) (sa_v (by decide) (h6 k hk))
  have g8 : ∀ x, x < D → (sa (sa M 5 (upd (M.1 5) (n * 5 + col) (nI (b - 97)))) 3 (upd ((sa M 5 (upd (M.1 5) (n * 5 + col) (nI (b - 97)))).1 3) 8 (nI (col + 1)))).1 6 x = nI (pt x) ∧ (sa (sa M 5 (upd (M.1 5) (n * 5 + col) (nI (b - 97)))) 3 (upd ((sa M 5 (upd (M.1 5) (n * 5 + col) (nI (b - 97)))).1 3) 8 (nI (col + 1)))).1 7 x = nI (nd x) := fun x hx => ⟨sa_v (by decide) (sa_v (by decide) (h8 x hx).1), sa_v (by decide) (sa_v (by decide) (h8 x hx).2)⟩
  revert hcell hF g1 g2 g3 g4 g5 g6 g8
  generalize sa (sa M 5 _) 3 _ = N
  intro hcell hF g1 g2 g3 g4 g5 g6 g8
  refine x_aload_n dX1_takeCell_59 rfl rfl ?_
  refine x_getv (g5) dX1_takeCell_60 fX1_34 rfl rfl (by decide) ?_
  refine x_iconst (v := nI 5) dX1_takeCell_63 (by decide) ?_
  refine x_icmp_neN (tgt := 82) dX1_takeCell_64 (by decide) (by omega) (by omega) (fun hc => ?_) (fun hc => ?_)
  · rw [if_neg (show ¬ col = 4 by omega)] at hps
    refine x_iconst (v := nI 1) dX1_takeCell_82 (by decide) ?_
    exact hR _ _ _ _ dX1_takeCell_83 (by decide) ⟨hF, Or.inr ⟨rfl, _, hps, ⟨g1, g2, g3, g4, g5, g6, fun i hi => hcell i (by simpa using hi), g8, fun e => absurd e (by decide)⟩, ⟨o1, o2, o3, fun e => absurd e (by decide), fun _ => ⟨hn5, by omega⟩, fun e => absurd e (by decide), by decide⟩⟩⟩
  · have hcol4 : col = 4 := by omega
    rw [if_pos hcol4] at hps
    refine x_aload_n dX1_takeCell_67 rfl rfl ?_
    refine x_dup dX1_takeCell_68 rfl ?_
    refine x_getv (g2) dX1_takeCell_69 fX1_28 rfl rfl (by decide) ?_
    refine x_iconst (v := nI 1) dX1_takeCell_72 (by decide) ?_
    refine x_iaddN dX1_takeCell_73 ?_
    refine x_put dX1_takeCell_74 pX1_28 rfl rfl (by decide) rfl rfl ?_
    refine x_aload_n dX1_takeCell_77 rfl rfl ?_
    refine x_iconst (v := nI 1) dX1_takeCell_78 (by decide) ?_
    refine x_put dX1_takeCell_79 pX1_37 rfl rfl (by decide) rfl rfl ?_
    refine x_iconst (v := nI 1) dX1_takeCell_82 (by decide) ?_
    exact hR _ _ _ _ dX1_takeCell_83 (by decide) ⟨(hF.sa (by decide)).sa (by decide), Or.inr ⟨rfl, _, hps, ⟨sau_v (by decide) (sau_v (by decide) g1), sau_v (by decide) (by rw [sa_1, pk_us]), sau_v (by decide) (sau_v (by decide) g3), by rw [sa_1, pk_us], sau_v (by decide) (sau_v (by decide) (by rw [g5, hcol4])), fun k hk => sa_v (by decide) (sa_v (by decide) (g6 k hk)), fun i hi => sa_v (by decide) (sa_v (by decide) (hcell i (by simp at hi; omega))), fun x hx => ⟨sa_v (by decide) (sa_v (by decide) (g8 x hx).1), sa_v (by decide) (sa_v (by decide) (g8 x hx).2)⟩, fun e => absurd e (by decide)⟩, ⟨o1, by omega, o3, fun e => absurd e (by decide), fun e => absurd e (by decide), fun e => absurd e (by decide), by decide⟩⟩⟩
set_option maxHeartbeats 8000000 in
theorem k_take_3 (E : Ev) (d : Nat) (M : PM) (b : Nat) (s : PS) (hb : b < 256) (h : HsC M 3 s) (ho : okC s) : Ci E (d + 1) mX1_take [.ref (ad E 3), .int (nI b)] M (fun v N => tkP_3 M N b s v) := by
  obtain ⟨aw, col, K, n, D, kd, cl, pt, nd⟩ := s
  have h7 := h.2.2.2.1
  have ho7 := ho.2.2.2.2.2.2
  refine Ct.ofz [some (.ref (ad E 3)), some (.int (nI b))] (own := RX1) rfl (by decide) (Nat.le_of_ble_eq_true rfl) rfl (fun C hR => ?_)
  refine x_aload_n dX1_take_0 rfl rfl ?_
  refine x_getv (h7) dX1_take_1 fX1_37 rfl rfl (by decide) ?_
  match aw, h, ho, ho7 with
  | 0, h, ho, _ =>
    refine x_tableIn (off := 36) (tgt := 40) dX1_take_4 (by decide) (by decide) (by decide) (by decide) ?_
    refine x_aload_n dX1_take_40 rfl rfl ?_
    refine x_iload_n dX1_take_41 rfl rfl ?_
    refine x_callVi dX1_take_42 mvX1_takeStart kX1_40 (k_takeStart_3 E d M b col K n D kd cl pt nd hb h ho) rfl (by decide) (by omega) rfl rfl (Nat.le_of_ble_eq_true rfl) ?_
    rintro v N hP
    refine hR _ _ _ _ dX1_take_45 ?_ hP
    rcases hP.2 with ⟨e, _⟩ | ⟨e, _⟩ <;> rw [e] <;> exact bI_n _
  | 1, h, ho, _ =>
    refine x_tableIn (off := 42) (tgt := 46) dX1_take_4 (by decide) (by decide) (by decide) (by decide) ?_
    refine x_aload_n dX1_take_46 rfl rfl ?_
    refine x_iload_n dX1_take_47 rfl rfl ?_
    refine x_callVi dX1_take_48 mvX1_takeThing kX1_44 (k_takeThing_3 E d M b col K n D kd cl pt nd hb h ho) rfl (by decide) (by omega) rfl rfl (Nat.le_of_ble_eq_true rfl) ?_
    rintro v N hP
    refine hR _ _ _ _ dX1_take_51 ?_ hP
    rcases hP.2 with ⟨e, _⟩ | ⟨e, _⟩ <;> rw [e] <;> exact bI_n _
  | 2, h, ho, _ =>
    refine x_tableIn (off := 48) (tgt := 52) dX1_take_4 (by decide) (by decide) (by decide) (by decide) ?_
    refine x_aload_n dX1_take_52 rfl rfl ?_
    refine x_iload_n dX1_take_53 rfl rfl ?_
    refine x_bipush (v := nI 48) dX1_take_54 (by decide) ?_
    refine x_isub dX1_take_56 ?_
    refine x_callVi dX1_take_57 mvX1_takeKind kX1_47 (k_takeKind_3 E d M b col K n D kd cl pt nd hb h ho) rfl (by decide) (by omega) rfl rfl (Nat.le_of_ble_eq_true rfl) ?_
    rintro v N hP
    refine hR _ _ _ _ dX1_take_60 ?_ hP
    rcases hP.2 with ⟨e, _⟩ | ⟨e, _⟩ <;> rw [e] <;> exact bI_n _
  | 3, h, ho, _ =>
    refine x_tableIn (off := 57) (tgt := 61) dX1_take_4 (by decide) (by decide) (by decide) (by decide) ?_
    refine x_aload_n dX1_take_61 rfl rfl ?_
    refine x_iload_n dX1_take_62 rfl rfl ?_
    refine x_bipush (v := nI 97) dX1_take_63 (by decide) ?_
    refine x_isub dX1_take_65 ?_
    refine x_callVi dX1_take_66 mvX1_takeCell kX1_50 (k_takeCell_3 E d M b col K n D kd cl pt nd hb h ho) rfl (by decide) (by omega) rfl rfl (Nat.le_of_ble_eq_true rfl) ?_
    rintro v N hP
    refine hR _ _ _ _ dX1_take_69 ?_ hP
    rcases hP.2 with ⟨e, _⟩ | ⟨e, _⟩ <;> rw [e] <;> exact bI_n _
  | 4, h, ho, _ =>
    refine x_tableIn (off := 66) (tgt := 70) dX1_take_4 (by decide) (by decide) (by decide) (by decide) ?_
    refine x_aload_n dX1_take_70 rfl rfl ?_
    refine x_iload_n dX1_take_71 rfl rfl ?_
    refine x_bipush (v := nI 48) dX1_take_72 (by decide) ?_
    refine x_isub dX1_take_74 ?_
    refine x_callVi dX1_take_75 mvX1_takePart kX1_53 (k_takePart_3 E d M b col K n D kd cl pt nd hb h ho) rfl (by decide) (by omega) rfl rfl (Nat.le_of_ble_eq_true rfl) ?_
    rintro v N hP
    refine hR _ _ _ _ dX1_take_78 ?_ hP
    rcases hP.2 with ⟨e, _⟩ | ⟨e, _⟩ <;> rw [e] <;> exact bI_n _
  | 5, h, ho, _ =>
    have e5 : (nI 5).toInt = 5 := by decide
    refine x_tableOut (tgt := 79) dX1_take_4 (by omega) (by decide) ?_
    refine x_aload_n dX1_take_79 rfl rfl ?_
    refine x_iload_n dX1_take_80 rfl rfl ?_
    refine x_bipush (v := nI 48) dX1_take_81 (by decide) ?_
    refine x_isub dX1_take_83 ?_
    refine x_callVi dX1_take_84 mvX1_takeNeed kX1_56 (k_takeNeed_3 E d M b col K n D kd cl pt nd hb h ho) rfl (by decide) (by omega) rfl rfl (Nat.le_of_ble_eq_true rfl) ?_
    rintro v N hP
    refine hR _ _ _ _ dX1_take_87 ?_ hP
    rcases hP.2 with ⟨e, _⟩ | ⟨e, _⟩ <;> rw [e] <;> exact bI_n _
  | k + 6, _, _, h => exact absurd h (by omega)
set_option maxHeartbeats 8000000 in
theorem k_readInto_3 (E : Ev) (d : Nat) (M : PM) (t : Nat) (tx : Nat → Nat) (ht : TxC M t tx) : Ci E (d + 2) mX6_readInto [.ref (ad E 1), .ref (ad E 3)] M (fun v N => v = fltA t tx ∧ Fr M N [3, 4, 5, 6, 7] ∧ (fltA t tx = -9 → HsC N 3 (fnA t tx) ∧ okC (fnA t tx) ∧ (fnA t tx).1 = 1)) := by
  have t56 := ht.2.1
  refine Ct.ofi [some (.ref (ad E 1)), some (.ref (ad E 3)), none] (own := RX6) rfl (by decide) (Nat.le_of_ble_eq_true rfl) rfl (fun C hR => ?_)
  refine x_aload_n dX6_readInto_0 rfl rfl ?_
  refine x_callVv dX6_readInto_1 mvX1_begin kX6_19 (k_hbegin_3 E (d + 1) M) rfl (by decide) (by omega) rfl rfl (Nat.le_of_ble_eq_true rfl) ?_
  rintro N0 ⟨hN0, hs0⟩
  refine x_iconst (v := nI 0) dX6_readInto_4 (by decide) ?_
  refine xis3_2 dX6_readInto_5 rfl ?_
  have key : ∀ i, i ≤ t → ∀ N s, Fr M N [3, 4, 5, 6, 7] → HsC N 3 s → okC s → fltA t tx = flt tx (t - i) i s → fnA t tx = fnS tx (t - i) i s → X E (d + 2) RX6 cX6_readInto 3 C 6 [some (.ref (ad E 1)), some (.ref (ad E 3)), some (.int (nI i))] [] N := by
    refine up_loop t ?_ ?_
    · intro N s hN hs ho hfl hfn
      obtain ⟨aw, col, K, n, D, kd, cl, pt, nd⟩ := s
      have ho7 := ho.2.2.2.2.2.2
      have h7 := hs.2.2.2.1
      refine x_iload_n dX6_readInto_6 rfl rfl ?_
      refine x_aload_n dX6_readInto_7 rfl rfl ?_
      refine x_getv (hN.v (by decide) ht.1) dX6_readInto_8 fX6_15 rfl rfl (by decide) ?_
      refine x_icmp_geN (tgt := 35) dX6_readInto_11 (by decide) (by omega) (by omega) (fun hc => ?_) (fun hc => ?_)
      rotate_left
      · exact absurd hc (by omega)
      refine x_aload_n dX6_readInto_35 rfl rfl ?_
      refine x_callVi dX6_readInto_36 mvX1_isWhole kX6_28 (k_isWhole_3 E (d + 1) N aw ho7 h7) rfl (by decide) (by omega) rfl rfl (Nat.le_of_ble_eq_true rfl) ?_
      rintro _ _ ⟨rfl, rfl⟩
      refine x_if_eqB (tgt := 47) dX6_readInto_39 (by decide) (fun hc => ?_) (fun hc => ?_)
      · have ha := of_decide_eq_false hc
        rw [flt_e ha] at hfl
        refine x_aload_n dX6_readInto_47 rfl rfl ?_
        refine x_getv (hN.v (by decide) ht.1) dX6_readInto_48 fX6_15 rfl rfl (by decide) ?_
        exact hR _ _ _ _ dX6_readInto_51 (⟨hfl.symm, hN, fun e => absurd (hfl.symm.trans e) (nI_n9 (by omega))⟩)
      · have ha := of_decide_eq_true hc
        rw [flt_w ha] at hfl
        rw [Nat.sub_self] at hfn
        refine x_bipush (v := -9) dX6_readInto_42 (by decide) ?_
        refine x_goto (tgt := 51) dX6_readInto_44 (by decide) ?_
        refine hR _ _ _ _ dX6_readInto_51 ⟨hfl.symm, hN, fun _ => ?_⟩
        rw [hfn]
        exact ⟨hs, ho, ha⟩
    · intro i hi ih N s hN hs ho hfl hfn
      obtain ⟨b1, b2⟩ := ht.2.2 i hi
      refine x_iload_n dX6_readInto_6 rfl rfl ?_
      refine x_aload_n dX6_readInto_7 rfl rfl ?_
      refine x_getv (hN.v (by decide) ht.1) dX6_readInto_8 fX6_15 rfl rfl (by decide) ?_
      refine x_icmp_geN (tgt := 35) dX6_readInto_11 (by decide) (by omega) (by omega) (fun hc => ?_) (fun hc => ?_)
      · exact absurd hc (by omega)
      refine x_aload_n dX6_readInto_14 rfl rfl ?_
      refine x_aload_n dX6_readInto_15 rfl rfl ?_
      refine x_getr dX6_readInto_16 fX6_9 rfl rfl (by decide) ?_
      refine x_iload_n dX6_readInto_19 rfl rfl ?_
      refine x_ialdN dX6_readInto_20 rfl (by decide) (by omega) (by decide) (hN.v (by decide) b1) ?_
      refine x_callVi dX6_readInto_21 mvX1_take kX6_24 (k_take_3 E d N (tx i) s b2 hs ho) rfl (by decide) (by omega) rfl rfl (Nat.le_of_ble_eq_true rfl) ?_
      rintro v N2 ⟨hN2, hP⟩
      have hN2' : Fr M N2 [3, 4, 5, 6, 7] := hN.tr hN2 (fun _ h => h)
      rcases hP with ⟨rfl, hp⟩ | ⟨rfl, s', hp, hs', ho'⟩
      · rw [flt_n hi hp] at hfl
        refine x_if_neB (tgt := 29) dX6_readInto_24 (by decide) (fun hc => ?_) (fun hc => ?_)
        · cases hc
        · refine x_iload_n dX6_readInto_27 rfl rfl ?_
          exact hR _ _ _ _ dX6_readInto_28 (⟨hfl.symm, hN2', fun e => absurd (hfl.symm.trans e) (nI_n9 (by omega))⟩)
      · refine x_if_neB (tgt := 29) dX6_readInto_24 (by decide) (fun hc => ?_) (fun hc => ?_)
        · refine xinc3_2N dX6_readInto_29 rfl ?_
          refine x_goto (tgt := 6) dX6_readInto_32 (by decide) ?_
          exact ih N2 s' hN2' hs' ho' (hfl.trans (flt_y hi hp)) (hfn.trans (fnS_y hi hp))
        · cases hc
  exact key 0 (by omega) N0 ps0 (hN0.wd (by decide)) hs0 ⟨by decide, by decide, by decide, fun e => absurd e (by decide), fun e => absurd e (by decide), fun e => absurd e (by decide), by decide⟩ rfl rfl
set_option maxHeartbeats 8000000 in
theorem k_hbegin_8 (E : Ev) (d : Nat) (M : PM) : Cv E d mX1_begin [.ref (ad E 8)] M (fun N => Fr M N [8] ∧ HsC N 8 ps0) := by
  refine Ct.ofv [some (.ref (ad E 8))] (own := RX1) rfl (by decide) (Nat.le_of_ble_eq_true rfl) rfl (fun C hR => ?_)
  refine x_aload_n dX1_begin_0 rfl rfl ?_
  refine x_iconst (v := nI 0) dX1_begin_1 (by decide) ?_
  refine x_put dX1_begin_2 pX1_24 rfl rfl (by decide) rfl rfl ?_
  refine x_aload_n dX1_begin_5 rfl rfl ?_
  refine x_iconst (v := nI 0) dX1_begin_6 (by decide) ?_
  refine x_put dX1_begin_7 pX1_28 rfl rfl (by decide) rfl rfl ?_
  refine x_aload_n dX1_begin_10 rfl rfl ?_
  refine x_iconst (v := nI 0) dX1_begin_11 (by decide) ?_
  refine x_put dX1_begin_12 pX1_31 rfl rfl (by decide) rfl rfl ?_
  refine x_aload_n dX1_begin_15 rfl rfl ?_
  refine x_iconst (v := nI 0) dX1_begin_16 (by decide) ?_
  refine x_put dX1_begin_17 pX1_34 rfl rfl (by decide) rfl rfl ?_
  refine x_aload_n dX1_begin_20 rfl rfl ?_
  refine x_iconst (v := nI 0) dX1_begin_21 (by decide) ?_
  refine x_put dX1_begin_22 pX1_37 rfl rfl (by decide) rfl rfl ?_
  refine hR _ _ _ dX1_begin_25 ⟨((((Fr.rf.sa (by decide)).sa (by decide)).sa (by decide)).sa (by decide)).sa (by decide), ?_, ?_, ?_, ?_, ?_, fun k h => absurd h (by omega), fun k h => absurd h (by simp), fun k h => absurd h (by omega), fun h => absurd h (by decide)⟩
  · exact sau_v (by decide) (sau_v (by decide) (sau_v (by decide) (sau_v (by decide) (by rw [sa_1, pk_us]))))
  · exact sau_v (by decide) (sau_v (by decide) (sau_v (by decide) (by rw [sa_1, pk_us])))
  · exact sau_v (by decide) (sau_v (by decide) (by rw [sa_1, pk_us]))
  · rw [sa_1, pk_us]
  · exact sau_v (by decide) (by rw [sa_1, pk_us])
set_option maxHeartbeats 8000000 in
theorem k_isWhole_8 (E : Ev) (d : Nat) (M : PM) (a : Nat) (ha : a ≤ 5) (h : M.1 8 7 = nI a) : Ci E d mX1_isWhole [.ref (ad E 8)] M (fun v N => v = bI (decide (a = 1)) ∧ M = N) := by
  refine Ct.ofz [some (.ref (ad E 8))] (own := RX1) rfl (by decide) (Nat.le_of_ble_eq_true rfl) rfl (fun C hR => ?_)
  refine x_aload_n dX1_isWhole_0 rfl rfl ?_
  refine x_getv (h) dX1_isWhole_1 fX1_37 rfl rfl (by decide) ?_
  refine x_iconst (v := nI 1) dX1_isWhole_4 (by decide) ?_
  refine x_icmp_neN (tgt := 12) dX1_isWhole_5 (by decide) (by omega) (by omega) (fun hc => ?_) (fun hc => ?_)
  · refine x_iconst (v := nI 0) dX1_isWhole_12 (by decide) ?_
    exact hR _ _ _ _ dX1_isWhole_13 (by first | exact bI_n _ | decide) (⟨(dec_f hc).symm, rfl⟩)
  · refine x_iconst (v := nI 1) dX1_isWhole_8 (by decide) ?_
    refine x_goto (tgt := 13) dX1_isWhole_9 (by decide) ?_
    exact hR _ _ _ _ dX1_isWhole_13 (by first | exact bI_n _ | decide) (⟨(dec_t hc).symm, rfl⟩)
/-- one byte: what a call that takes it says -/
def tkP_8 (M N : PM) (b : Nat) (s : PS) (v : Int32) : Prop := Fr M N [8, 9, 10, 11, 12] ∧ ((v = bI false ∧ pstep b s = none) ∨ (v = bI true ∧ ∃ s', pstep b s = some s' ∧ HsC N 8 s' ∧ okC s'))
set_option maxHeartbeats 8000000 in
theorem k_takeStart_8 (E : Ev) (d : Nat) (M : PM) (b col K n D : Nat) (kd cl pt nd : Nat → Nat) (hb : b < 256) (h : HsC M 8 (0, col, K, n, D, kd, cl, pt, nd)) (ho : okC (0, col, K, n, D, kd, cl, pt, nd)) : Ci E d mX1_takeStart [.ref (ad E 8), .int (nI b)] M (fun v N => tkP_8 M N b (0, col, K, n, D, kd, cl, pt, nd) v) := by
  obtain ⟨h1, h2, h3, h4, h5, h6, h7, h8, h9⟩ := h
  obtain ⟨o1, o2, o3, o4, o5, o6, o7⟩ := ho
  refine Ct.ofz [some (.ref (ad E 8)), some (.int (nI b))] (own := RX1) rfl (by decide) (Nat.le_of_ble_eq_true rfl) rfl (fun C hR => ?_)
  refine x_iload_n dX1_takeStart_0 rfl rfl ?_
  refine x_bipush (v := nI 70) dX1_takeStart_1 (by decide) ?_
  refine x_icmp_eqN (tgt := 8) dX1_takeStart_3 (by decide) (by omega) (by omega) (fun hc => ?_) (fun hc => ?_)
  · refine x_aload_n dX1_takeStart_8 rfl rfl ?_
    refine x_iconst (v := nI 1) dX1_takeStart_9 (by decide) ?_
    refine x_put dX1_takeStart_10 pX1_37 rfl rfl (by decide) rfl rfl ?_
    refine x_iconst (v := nI 1) dX1_takeStart_13 (by decide) ?_
    refine hR _ _ _ _ dX1_takeStart_14 (by decide) ⟨Fr.rf.sa (by decide), Or.inr ⟨rfl, _, show (if b = 70 then some _ else none) = some _ from if_pos hc, ⟨sau_v (by decide) h1, sau_v (by decide) h2, sau_v (by decide) h3, by rw [sa_1, pk_us], sau_v (by decide) h5, fun k hk => sa_v (by decide) (h6 k hk), fun i hi => sa_v (by decide) (h7 i (by simpa using hi)), fun x hx => ⟨sa_v (by decide) (h8 x hx).1, sa_v (by decide) (h8 x hx).2⟩, fun e => absurd e (by decide)⟩, ⟨o1, o2, o3, fun e => absurd e (by decide), fun e => absurd e (by decide), fun e => absurd e (by decide), by decide⟩⟩⟩
  · refine x_iconst (v := nI 0) dX1_takeStart_6 (by decide) ?_
    exact hR _ _ _ _ dX1_takeStart_7 (by decide) ⟨Fr.rf, Or.inl ⟨rfl, show (if b = 70 then some _ else none) = none from if_neg hc⟩⟩
set_option maxHeartbeats 8000000 in
theorem k_takeThing_8 (E : Ev) (d : Nat) (M : PM) (b col K n D : Nat) (kd cl pt nd : Nat → Nat) (hb : b < 256) (h : HsC M 8 (1, col, K, n, D, kd, cl, pt, nd)) (ho : okC (1, col, K, n, D, kd, cl, pt, nd)) : Ci E d mX1_takeThing [.ref (ad E 8), .int (nI b)] M (fun v N => tkP_8 M N b (1, col, K, n, D, kd, cl, pt, nd) v) := by
  obtain ⟨h1, h2, h3, h4, h5, h6, h7, h8, h9⟩ := h
  obtain ⟨o1, o2, o3, o4, o5, o6, o7⟩ := ho
  have hps : pstep b (1, col, K, n, D, kd, cl, pt, nd) = if b = 75 ∧ K < 5 then some (2, col, K, n, D, kd, cl, pt, nd) else if b = 82 ∧ n < 5 ∧ 0 < K then some (3, 0, K, n, D, kd, cl, pt, nd) else if b = 68 ∧ D < 4 then some (4, col, K, n, D, kd, cl, pt, nd) else none := rfl
  refine Ct.ofz [some (.ref (ad E 8)), some (.int (nI b))] (own := RX1) rfl (by decide) (Nat.le_of_ble_eq_true rfl) rfl (fun C hR => ?_)
  have deed : ¬ (b = 75 ∧ K < 5) → ¬ (b = 82 ∧ n < 5 ∧ 0 < K) → X E d RX1 cX1_takeThing 2 C 54 [some (.ref (ad E 8)), some (.int (nI b))] [] M := by
    intro e1 e2
    rw [if_neg e1, if_neg e2] at hps
    have bad : ¬ (b = 68 ∧ D < 4) → X E d RX1 cX1_takeThing 2 C 75 [some (.ref (ad E 8)), some (.int (nI b))] [] M := by
      intro e3
      refine x_iconst (v := nI 0) dX1_takeThing_75 (by decide) ?_
      exact hR _ _ _ _ dX1_takeThing_76 (by decide) ⟨Fr.rf, Or.inl ⟨rfl, by rw [hps, if_neg e3]⟩⟩
    refine x_iload_n dX1_takeThing_54 rfl rfl ?_
    refine x_bipush (v := nI 68) dX1_takeThing_55 (by decide) ?_
    refine x_icmp_neN (tgt := 75) dX1_takeThing_57 (by decide) (by omega) (by omega) (fun hc => ?_) (fun hc => ?_)
    · exact bad (by omega)
    have e68 : b = 68 := hc
    refine x_aload_n dX1_takeThing_60 rfl rfl ?_
    refine x_getv (h3) dX1_takeThing_61 fX1_31 rfl rfl (by decide) ?_
    refine x_iconst (v := nI 4) dX1_takeThing_64 (by decide) ?_
    refine x_icmp_geN (tgt := 75) dX1_takeThing_65 (by decide) (by omega) (by omega) (fun hc => ?_) (fun hc => ?_)
    · exact bad (by omega)
    · rw [if_pos ⟨e68, hc⟩] at hps
      refine x_aload_n dX1_takeThing_68 rfl rfl ?_
      refine x_iconst (v := nI 4) dX1_takeThing_69 (by decide) ?_
      refine x_put dX1_takeThing_70 pX1_37 rfl rfl (by decide) rfl rfl ?_
      refine x_iconst (v := nI 1) dX1_takeThing_73 (by decide) ?_
      exact hR _ _ _ _ dX1_takeThing_74 (by decide) ⟨Fr.rf.sa (by decide), Or.inr ⟨rfl, _, hps, ⟨sau_v (by decide) h1, sau_v (by decide) h2, sau_v (by decide) h3, by rw [sa_1, pk_us], sau_v (by decide) h5, fun k hk => sa_v (by decide) (h6 k hk), fun i hi => sa_v (by decide) (h7 i (by simpa using hi)), fun x hx => ⟨sa_v (by decide) (h8 x hx).1, sa_v (by decide) (h8 x hx).2⟩, fun e => absurd e (by decide)⟩, ⟨o1, o2, o3, fun e => absurd e (by decide), fun e => absurd e (by decide), fun _ => hc, by decide⟩⟩⟩
  have rowT : ¬ (b = 75 ∧ K < 5) → X E d RX1 cX1_takeThing 2 C 21 [some (.ref (ad E 8)), some (.int (nI b))] [] M := by
    intro e1
    refine x_iload_n dX1_takeThing_21 rfl rfl ?_
    refine x_bipush (v := nI 82) dX1_takeThing_22 (by decide) ?_
    refine x_icmp_neN (tgt := 54) dX1_takeThing_24 (by decide) (by omega) (by omega) (fun hc => ?_) (fun hc => ?_)
    · exact deed e1 (by omega)
    have e82 : b = 82 := hc
    refine x_aload_n dX1_takeThing_27 rfl rfl ?_
    refine x_getv (h2) dX1_takeThing_28 fX1_28 rfl rfl (by decide) ?_
    refine x_iconst (v := nI 5) dX1_takeThing_31 (by decide) ?_
    refine x_icmp_geN (tgt := 54) dX1_takeThing_32 (by decide) (by omega) (by omega) (fun hc => ?_) (fun hc => ?_)
    · exact deed e1 (by omega)
    have hn5 := hc
    refine x_aload_n dX1_takeThing_35 rfl rfl ?_
    refine x_getv (h1) dX1_takeThing_36 fX1_24 rfl rfl (by decide) ?_
    refine x_if_leN (tgt := 54) dX1_takeThing_39 (by decide) (by omega) (fun hc => ?_) (fun hc => ?_)
    · exact deed e1 (by omega)
    · rw [if_neg e1, if_pos ⟨e82, hn5, hc⟩] at hps
      refine x_aload_n dX1_takeThing_42 rfl rfl ?_
      refine x_iconst (v := nI 3) dX1_takeThing_43 (by decide) ?_
      refine x_put dX1_takeThing_44 pX1_37 rfl rfl (by decide) rfl rfl ?_
      refine x_aload_n dX1_takeThing_47 rfl rfl ?_
      refine x_iconst (v := nI 0) dX1_takeThing_48 (by decide) ?_
      refine x_put dX1_takeThing_49 pX1_34 rfl rfl (by decide) rfl rfl ?_
      refine x_iconst (v := nI 1) dX1_takeThing_52 (by decide) ?_
      exact hR _ _ _ _ dX1_takeThing_53 (by decide) ⟨(Fr.rf.sa (by decide)).sa (by decide), Or.inr ⟨rfl, _, hps, ⟨sau_v (by decide) (sau_v (by decide) h1), sau_v (by decide) (sau_v (by decide) h2), sau_v (by decide) (sau_v (by decide) h3), sau_v (by decide) (by rw [sa_1, pk_us]), by rw [sa_1, pk_us], fun k hk => sa_v (by decide) (sa_v (by decide) (h6 k hk)), fun i hi => sa_v (by decide) (sa_v (by decide) (h7 i (by simpa using hi))), fun x hx => ⟨sa_v (by decide) (sa_v (by decide) (h8 x hx).1), sa_v (by decide) (sa_v (by decide) (h8 x hx).2)⟩, fun e => absurd e (by decide)⟩, ⟨o1, o2, o3, fun e => absurd e (by decide), fun _ => ⟨hn5, by decide⟩, fun e => absurd e (by decide), by decide⟩⟩⟩
  refine x_iload_n dX1_takeThing_0 rfl rfl ?_
  refine x_bipush (v := nI 75) dX1_takeThing_1 (by decide) ?_
  refine x_icmp_neN (tgt := 21) dX1_takeThing_3 (by decide) (by omega) (by omega) (fun hc => ?_) (fun hc => ?_)
  · exact rowT (by omega)
  have e75 : b = 75 := hc
  refine x_aload_n dX1_takeThing_6 rfl rfl ?_
  refine x_getv (h1) dX1_takeThing_7 fX1_24 rfl rfl (by decide) ?_
  refine x_iconst (v := nI 5) dX1_takeThing_10 (by decide) ?_
  refine x_icmp_geN (tgt := 21) dX1_takeThing_11 (by decide) (by omega) (by omega) (fun hc => ?_) (fun hc => ?_)
  · exact rowT (by omega)
  · rw [if_pos ⟨e75, hc⟩] at hps
    refine x_aload_n dX1_takeThing_14 rfl rfl ?_
    refine x_iconst (v := nI 2) dX1_takeThing_15 (by decide) ?_
    refine x_put dX1_takeThing_16 pX1_37 rfl rfl (by decide) rfl rfl ?_
    refine x_iconst (v := nI 1) dX1_takeThing_19 (by decide) ?_
    exact hR _ _ _ _ dX1_takeThing_20 (by decide) ⟨Fr.rf.sa (by decide), Or.inr ⟨rfl, _, hps, ⟨sau_v (by decide) h1, sau_v (by decide) h2, sau_v (by decide) h3, by rw [sa_1, pk_us], sau_v (by decide) h5, fun k hk => sa_v (by decide) (h6 k hk), fun i hi => sa_v (by decide) (h7 i (by simpa using hi)), fun x hx => ⟨sa_v (by decide) (h8 x hx).1, sa_v (by decide) (h8 x hx).2⟩, fun e => absurd e (by decide)⟩, ⟨o1, o2, o3, fun _ => hc, fun e => absurd e (by decide), fun e => absurd e (by decide), by decide⟩⟩⟩
set_option maxHeartbeats 8000000 in
theorem k_takeKind_8 (E : Ev) (d : Nat) (M : PM) (b col K n D : Nat) (kd cl pt nd : Nat → Nat) (hb : b < 256) (h : HsC M 8 (2, col, K, n, D, kd, cl, pt, nd)) (ho : okC (2, col, K, n, D, kd, cl, pt, nd)) : Ci E d mX1_takeKind [.ref (ad E 8), .int (nI b - nI 48)] M (fun v N => tkP_8 M N b (2, col, K, n, D, kd, cl, pt, nd) v) := by
  obtain ⟨h1, h2, h3, h4, h5, h6, h7, h8, h9⟩ := h
  obtain ⟨o1, o2, o3, o4, o5, o6, o7⟩ := ho
  have hK5 := o4 rfl
  have hx := pk_sub_toInt (a := b) (b := 48) (by omega) (by omega)
  have e4 : (nI 4).toInt = 4 := by decide
  have hps : pstep b (2, col, K, n, D, kd, cl, pt, nd) = if 48 ≤ b ∧ b ≤ 51 then some (1, col, K + 1, n, D, uf kd K (b - 48), cl, pt, nd) else none := rfl
  refine Ct.ofz [some (.ref (ad E 8)), some (.int (nI b - nI 48))] (own := RX1) rfl (by decide) (Nat.le_of_ble_eq_true rfl) rfl (fun C hR => ?_)
  have bad : ¬ (48 ≤ b ∧ b ≤ 51) → X E d RX1 cX1_takeKind 2 C 17 [some (.ref (ad E 8)), some (.int (nI b - nI 48))] [] M := by
    intro e
    refine x_iconst (v := nI 0) dX1_takeKind_17 (by decide) ?_
    exact hR _ _ _ _ dX1_takeKind_18 (by decide) ⟨Fr.rf, Or.inl ⟨rfl, by rw [hps, if_neg e]⟩⟩
  refine x_iload_n dX1_takeKind_0 rfl rfl ?_
  refine x_if_lt (tgt := 17) dX1_takeKind_1 (by decide) (fun hc => ?_) (fun hc => ?_)
  · rw [Int32.lt_iff_toInt_lt, Int32.toInt_zero] at hc
    exact bad (by omega)
  rw [Int32.lt_iff_toInt_lt, Int32.toInt_zero] at hc
  have hlo := hc
  refine x_iload_n dX1_takeKind_4 rfl rfl ?_
  refine x_iconst (v := nI 4) dX1_takeKind_5 (by decide) ?_
  refine x_icmp_ge (tgt := 17) dX1_takeKind_6 (by decide) (fun hc => ?_) (fun hc => ?_)
  · rw [Int32.le_iff_toInt_le, e4] at hc
    exact bad (by omega)
  rw [Int32.le_iff_toInt_le, e4] at hc
  have hin : 48 ≤ b ∧ b ≤ 51 := by omega
  refine x_aload_n dX1_takeKind_9 rfl rfl ?_
  refine x_getv (h1) dX1_takeKind_10 fX1_24 rfl rfl (by decide) ?_
  refine x_iconst (v := nI 5) dX1_takeKind_13 (by decide) ?_
  refine x_icmp_ltN (tgt := 19) dX1_takeKind_14 (by decide) (by omega) (by omega) (fun hc => ?_) (fun hc => ?_)
  rotate_left
  · exact absurd hc (by omega)
  rw [if_pos hin] at hps
  rw [pk_sub hin.1]
  refine x_aload_n dX1_takeKind_19 rfl rfl ?_
  refine x_getr dX1_takeKind_20 fX1_9 rfl rfl (by decide) ?_
  refine x_aload_n dX1_takeKind_23 rfl rfl ?_
  refine x_getv (h1) dX1_takeKind_24 fX1_24 rfl rfl (by decide) ?_
  refine x_iload_n dX1_takeKind_27 rfl rfl ?_
  refine x_iastN dX1_takeKind_28 rfl (by decide) (by omega) (by decide) ?_
  refine x_aload_n dX1_takeKind_29 rfl rfl ?_
  refine x_dup dX1_takeKind_30 rfl ?_
  refine x_getv (sa_v (by decide) h1) dX1_takeKind_31 fX1_24 rfl rfl (by decide) ?_
  refine x_iconst (v := nI 1) dX1_takeKind_34 (by decide) ?_
  refine x_iaddN dX1_takeKind_35 ?_
  refine x_put dX1_takeKind_36 pX1_24 rfl rfl (by decide) rfl rfl ?_
  refine x_aload_n dX1_takeKind_39 rfl rfl ?_
  refine x_iconst (v := nI 1) dX1_takeKind_40 (by decide) ?_
  refine x_put dX1_takeKind_41 pX1_37 rfl rfl (by decide) rfl rfl ?_
  refine x_iconst (v := nI 1) dX1_takeKind_44 (by decide) ?_
  exact hR _ _ _ _ dX1_takeKind_45 (by decide) ⟨((Fr.rf.sa (by decide)).sa (by decide)).sa (by decide), Or.inr ⟨rfl, _, hps, ⟨sau_v (by decide) (by rw [sa_1, pk_us]), sau_v (by decide) (sau_v (by decide) (sa_v (by decide) h2)), sau_v (by decide) (sau_v (by decide) (sa_v (by decide) h3)), by rw [sa_1, pk_us], sau_v (by decide) (sau_v (by decide) (sa_v (by decide) h5)), fun k hk => sa_v (by decide) (sa_v (by decide) (sau_f (fun e => h6 k (by omega)))), fun i hi => sa_v (by decide) (sa_v (by decide) (sa_v (by decide) (h7 i (by simpa using hi)))), fun x hx => ⟨sa_v (by decide) (sa_v (by decide) (sa_v (by decide) (h8 x hx).1)), sa_v (by decide) (sa_v (by decide) (sa_v (by decide) (h8 x hx).2))⟩, fun e => absurd e (by decide)⟩, ⟨by omega, o2, o3, fun e => absurd e (by decide), fun e => absurd e (by decide), fun e => absurd e (by decide), by decide⟩⟩⟩
set_option maxHeartbeats 8000000 in
theorem k_takePart_8 (E : Ev) (d : Nat) (M : PM) (b col K n D : Nat) (kd cl pt nd : Nat → Nat) (hb : b < 256) (h : HsC M 8 (4, col, K, n, D, kd, cl, pt, nd)) (ho : okC (4, col, K, n, D, kd, cl, pt, nd)) : Ci E d mX1_takePart [.ref (ad E 8), .int (nI b - nI 48)] M (fun v N => tkP_8 M N b (4, col, K, n, D, kd, cl, pt, nd) v) := by
  obtain ⟨h1, h2, h3, h4, h5, h6, h7, h8, h9⟩ := h
  obtain ⟨o1, o2, o3, o4, o5, o6, o7⟩ := ho
  have hD4 := o6 (Or.inl rfl)
  have hx := pk_sub_toInt (a := b) (b := 48) (by omega) (by omega)
  have e4 : (nI 4).toInt = 4 := by decide
  have hps : pstep b (4, col, K, n, D, kd, cl, pt, nd) = if 48 ≤ b ∧ b ≤ 51 then some (5, col, K, n, D, kd, cl, uf pt D (b - 48), nd) else none := rfl
  refine Ct.ofz [some (.ref (ad E 8)), some (.int (nI b - nI 48))] (own := RX1) rfl (by decide) (Nat.le_of_ble_eq_true rfl) rfl (fun C hR => ?_)
  have bad : ¬ (48 ≤ b ∧ b ≤ 51) → X E d RX1 cX1_takePart 2 C 17 [some (.ref (ad E 8)), some (.int (nI b - nI 48))] [] M := by
    intro e
    refine x_iconst (v := nI 0) dX1_takePart_17 (by decide) ?_
    exact hR _ _ _ _ dX1_takePart_18 (by decide) ⟨Fr.rf, Or.inl ⟨rfl, by rw [hps, if_neg e]⟩⟩
  refine x_iload_n dX1_takePart_0 rfl rfl ?_
  refine x_if_lt (tgt := 17) dX1_takePart_1 (by decide) (fun hc => ?_) (fun hc => ?_)
  · rw [Int32.lt_iff_toInt_lt, Int32.toInt_zero] at hc
    exact bad (by omega)
  rw [Int32.lt_iff_toInt_lt, Int32.toInt_zero] at hc
  have hlo := hc
  refine x_iload_n dX1_takePart_4 rfl rfl ?_
  refine x_iconst (v := nI 4) dX1_takePart_5 (by decide) ?_
  refine x_icmp_ge (tgt := 17) dX1_takePart_6 (by decide) (fun hc => ?_) (fun hc => ?_)
  · rw [Int32.le_iff_toInt_le, e4] at hc
    exact bad (by omega)
  rw [Int32.le_iff_toInt_le, e4] at hc
  have hin : 48 ≤ b ∧ b ≤ 51 := by omega
  refine x_aload_n dX1_takePart_9 rfl rfl ?_
  refine x_getv (h3) dX1_takePart_10 fX1_31 rfl rfl (by decide) ?_
  refine x_iconst (v := nI 4) dX1_takePart_13 (by decide) ?_
  refine x_icmp_ltN (tgt := 19) dX1_takePart_14 (by decide) (by omega) (by omega) (fun hc => ?_) (fun hc => ?_)
  rotate_left
  · exact absurd hc (by omega)
  rw [if_pos hin] at hps
  rw [pk_sub hin.1]
  refine x_aload_n dX1_takePart_19 rfl rfl ?_
  refine x_getr dX1_takePart_20 fX1_18 rfl rfl (by decide) ?_
  refine x_aload_n dX1_takePart_23 rfl rfl ?_
  refine x_getv (h3) dX1_takePart_24 fX1_31 rfl rfl (by decide) ?_
  refine x_iload_n dX1_takePart_27 rfl rfl ?_
  refine x_iastN dX1_takePart_28 rfl (by decide) (by omega) (by decide) ?_
  refine x_aload_n dX1_takePart_29 rfl rfl ?_
  refine x_iconst (v := nI 5) dX1_takePart_30 (by decide) ?_
  refine x_put dX1_takePart_31 pX1_37 rfl rfl (by decide) rfl rfl ?_
  refine x_iconst (v := nI 1) dX1_takePart_34 (by decide) ?_
  exact hR _ _ _ _ dX1_takePart_35 (by decide) ⟨(Fr.rf.sa (by decide)).sa (by decide), Or.inr ⟨rfl, _, hps, ⟨sau_v (by decide) (sa_v (by decide) h1), sau_v (by decide) (sa_v (by decide) h2), sau_v (by decide) (sa_v (by decide) h3), by rw [sa_1, pk_us], sau_v (by decide) (sa_v (by decide) h5), fun k hk => sa_v (by decide) (sa_v (by decide) (h6 k hk)), fun i hi => sa_v (by decide) (sa_v (by decide) (h7 i (by simpa using hi))), fun x hx => ⟨sa_v (by decide) (sau_f (fun e => (h8 x hx).1)), sa_v (by decide) (sa_v (by decide) (h8 x hx).2)⟩, fun _ => sa_v (by decide) (sau_f (fun e => absurd rfl e))⟩, ⟨o1, o2, o3, fun e => absurd e (by decide), fun e => absurd e (by decide), fun _ => hD4, by decide⟩⟩⟩
set_option maxHeartbeats 8000000 in
theorem k_takeNeed_8 (E : Ev) (d : Nat) (M : PM) (b col K n D : Nat) (kd cl pt nd : Nat → Nat) (hb : b < 256) (h : HsC M 8 (5, col, K, n, D, kd, cl, pt, nd)) (ho : okC (5, col, K, n, D, kd, cl, pt, nd)) : Ci E d mX1_takeNeed [.ref (ad E 8), .int (nI b - nI 48)] M (fun v N => tkP_8 M N b (5, col, K, n, D, kd, cl, pt, nd) v) := by
  obtain ⟨h1, h2, h3, h4, h5, h6, h7, h8, h9⟩ := h
  obtain ⟨o1, o2, o3, o4, o5, o6, o7⟩ := ho
  have hD4 := o6 (Or.inr rfl)
  have hx := pk_sub_toInt (a := b) (b := 48) (by omega) (by omega)
  have e1 : (nI 1).toInt = 1 := by decide
  have e9 : (nI 9).toInt = 9 := by decide
  have hps : pstep b (5, col, K, n, D, kd, cl, pt, nd) = if 49 ≤ b ∧ b ≤ 57 then some (1, col, K, n, D + 1, kd, cl, pt, uf nd D (b - 48)) else none := rfl
  refine Ct.ofz [some (.ref (ad E 8)), some (.int (nI b - nI 48))] (own := RX1) rfl (by decide) (Nat.le_of_ble_eq_true rfl) rfl (fun C hR => ?_)
  have bad : ¬ (49 ≤ b ∧ b ≤ 57) → X E d RX1 cX1_takeNeed 2 C 19 [some (.ref (ad E 8)), some (.int (nI b - nI 48))] [] M := by
    intro e
    refine x_iconst (v := nI 0) dX1_takeNeed_19 (by decide) ?_
    exact hR _ _ _ _ dX1_takeNeed_20 (by decide) ⟨Fr.rf, Or.inl ⟨rfl, by rw [hps, if_neg e]⟩⟩
  refine x_iload_n dX1_takeNeed_0 rfl rfl ?_
  refine x_iconst (v := nI 1) dX1_takeNeed_1 (by decide) ?_
  refine x_icmp_lt (tgt := 19) dX1_takeNeed_2 (by decide) (fun hc => ?_) (fun hc => ?_)
  · rw [Int32.lt_iff_toInt_lt, e1] at hc
    exact bad (by omega)
  rw [Int32.lt_iff_toInt_lt, e1] at hc
  have hlo := hc
  refine x_iload_n dX1_takeNeed_5 rfl rfl ?_
  refine x_bipush (v := nI 9) dX1_takeNeed_6 (by decide) ?_
  refine x_icmp_gt (tgt := 19) dX1_takeNeed_8 (by decide) (fun hc => ?_) (fun hc => ?_)
  · rw [Int32.lt_iff_toInt_lt, e9] at hc
    exact bad (by omega)
  rw [Int32.lt_iff_toInt_lt, e9] at hc
  have hin : 49 ≤ b ∧ b ≤ 57 := by omega
  refine x_aload_n dX1_takeNeed_11 rfl rfl ?_
  refine x_getv (h3) dX1_takeNeed_12 fX1_31 rfl rfl (by decide) ?_
  refine x_iconst (v := nI 4) dX1_takeNeed_15 (by decide) ?_
  refine x_icmp_ltN (tgt := 21) dX1_takeNeed_16 (by decide) (by omega) (by omega) (fun hc => ?_) (fun hc => ?_)
  rotate_left
  · exact absurd hc (by omega)
  rw [if_pos hin] at hps
  rw [pk_sub (show 48 ≤ b by omega)]
  refine x_aload_n dX1_takeNeed_21 rfl rfl ?_
  refine x_getr dX1_takeNeed_22 fX1_21 rfl rfl (by decide) ?_
  refine x_aload_n dX1_takeNeed_25 rfl rfl ?_
  refine x_getv (h3) dX1_takeNeed_26 fX1_31 rfl rfl (by decide) ?_
  refine x_iload_n dX1_takeNeed_29 rfl rfl ?_
  refine x_iastN dX1_takeNeed_30 rfl (by decide) (by omega) (by decide) ?_
  refine x_aload_n dX1_takeNeed_31 rfl rfl ?_
  refine x_dup dX1_takeNeed_32 rfl ?_
  refine x_getv (sa_v (by decide) h3) dX1_takeNeed_33 fX1_31 rfl rfl (by decide) ?_
  refine x_iconst (v := nI 1) dX1_takeNeed_36 (by decide) ?_
  refine x_iaddN dX1_takeNeed_37 ?_
  refine x_put dX1_takeNeed_38 pX1_31 rfl rfl (by decide) rfl rfl ?_
  refine x_aload_n dX1_takeNeed_41 rfl rfl ?_
  refine x_iconst (v := nI 1) dX1_takeNeed_42 (by decide) ?_
  refine x_put dX1_takeNeed_43 pX1_37 rfl rfl (by decide) rfl rfl ?_
  refine x_iconst (v := nI 1) dX1_takeNeed_46 (by decide) ?_
  refine hR _ _ _ _ dX1_takeNeed_47 (by decide) ⟨((Fr.rf.sa (by decide)).sa (by decide)).sa (by decide), Or.inr ⟨rfl, _, hps, ⟨sau_v (by decide) (sau_v (by decide) (sa_v (by decide) h1)), sau_v (by decide) (sau_v (by decide) (sa_v (by decide) h2)), sau_v (by decide) (by rw [sa_1, pk_us]), by rw [sa_1, pk_us], sau_v (by decide) (sau_v (by decide) (sa_v (by decide) h5)), fun k hk => sa_v (by decide) (sa_v (by decide) (sa_v (by decide) (h6 k hk))), fun i hi => sa_v (by decide) (sa_v (by decide) (sa_v (by decide) (h7 i (by simpa using hi)))), fun x hx => ⟨sa_v (by decide) (sa_v (by decide) (sa_v (by decide) ?_)), sa_v (by decide) (sa_v (by decide) (sau_f (fun e => (h8 x (by omega)).2)))⟩, fun e => absurd e (by decide)⟩, ⟨o1, o2, by omega, fun e => absurd e (by decide), fun e => absurd e (by decide), fun e => absurd e (by decide), by decide⟩⟩⟩
  by_cases e : x = D
  · rw [e]; exact h9 rfl
  · exact (h8 x (by omega)).1
set_option maxHeartbeats 8000000 in
theorem k_takeCell_8 (E : Ev) (d : Nat) (M : PM) (b col K n D : Nat) (kd cl pt nd : Nat → Nat) (hb : b < 256) (h : HsC M 8 (3, col, K, n, D, kd, cl, pt, nd)) (ho : okC (3, col, K, n, D, kd, cl, pt, nd)) : Ci E d mX1_takeCell [.ref (ad E 8), .int (nI b - nI 97)] M (fun v N => tkP_8 M N b (3, col, K, n, D, kd, cl, pt, nd) v) := by
  obtain ⟨h1, h2, h3, h4, h5, h6, h7, h8, h9⟩ := h
  obtain ⟨o1, o2, o3, o4, o5, o6, o7⟩ := ho
  obtain ⟨hn5, hcol⟩ := o5 rfl
  have hx := pk_sub_toInt (a := b) (b := 97) (by omega) (by omega)
  have e4 : (nI (K * 4)).toInt = ((K * 4 : Nat) : Int) := nI_toInt (by omega)
  have hps : pstep b (3, col, K, n, D, kd, cl, pt, nd) = if 97 ≤ b ∧ b < 97 + 4 * K then some (if col = 4 then (1, 5, K, n + 1, D, kd, uf cl (5 * n + col) (b - 97), pt, nd) else (3, col + 1, K, n, D, kd, uf cl (5 * n + col) (b - 97), pt, nd)) else none := rfl
  refine Ct.ofz [some (.ref (ad E 8)), some (.int (nI b - nI 97))] (own := RX1) rfl (by decide) (Nat.le_of_ble_eq_true rfl) rfl (fun C hR => ?_)
  have bad : ¬ (97 ≤ b ∧ b < 97 + 4 * K) → X E d RX1 cX1_takeCell 2 C 30 [some (.ref (ad E 8)), some (.int (nI b - nI 97))] [] M := by
    intro e
    refine x_iconst (v := nI 0) dX1_takeCell_30 (by decide) ?_
    exact hR _ _ _ _ dX1_takeCell_31 (by decide) ⟨Fr.rf, Or.inl ⟨rfl, by rw [hps, if_neg e]⟩⟩
  refine x_iload_n dX1_takeCell_0 rfl rfl ?_
  refine x_if_lt (tgt := 30) dX1_takeCell_1 (by decide) (fun hc => ?_) (fun hc => ?_)
  · rw [Int32.lt_iff_toInt_lt, Int32.toInt_zero] at hc
    exact bad (by omega)
  rw [Int32.lt_iff_toInt_lt, Int32.toInt_zero] at hc
  have hlo := hc
  refine x_iload_n dX1_takeCell_4 rfl rfl ?_
  refine x_aload_n dX1_takeCell_5 rfl rfl ?_
  refine x_getv (h1) dX1_takeCell_6 fX1_24 rfl rfl (by decide) ?_
  refine x_iconst (v := nI 4) dX1_takeCell_9 (by decide) ?_
  refine x_imulN dX1_takeCell_10 ?_
  refine x_icmp_ge (tgt := 30) dX1_takeCell_11 (by decide) (fun hc => ?_) (fun hc => ?_)
  · rw [Int32.le_iff_toInt_le, e4] at hc
    exact bad (by omega)
  rw [Int32.le_iff_toInt_le, e4] at hc
  have hin : 97 ≤ b ∧ b < 97 + 4 * K := by omega
  rw [if_pos hin] at hps
  refine x_aload_n dX1_takeCell_14 rfl rfl ?_
  refine x_getv (h2) dX1_takeCell_15 fX1_28 rfl rfl (by decide) ?_
  refine x_iconst (v := nI 5) dX1_takeCell_18 (by decide) ?_
  refine x_icmp_geN (tgt := 30) dX1_takeCell_19 (by decide) (by omega) (by omega) (fun hc => ?_) (fun hc => ?_)
  · exact absurd hc (by omega)
  refine x_aload_n dX1_takeCell_22 rfl rfl ?_
  refine x_getv (h5) dX1_takeCell_23 fX1_34 rfl rfl (by decide) ?_
  refine x_iconst (v := nI 5) dX1_takeCell_26 (by decide) ?_
  refine x_icmp_ltN (tgt := 32) dX1_takeCell_27 (by decide) (by omega) (by omega) (fun hc => ?_) (fun hc => ?_)
  rotate_left
  · exact absurd hc (by omega)
  rw [pk_sub hin.1]
  refine x_aload_n dX1_takeCell_32 rfl rfl ?_
  refine x_getr dX1_takeCell_33 fX1_15 rfl rfl (by decide) ?_
  refine x_aload_n dX1_takeCell_36 rfl rfl ?_
  refine x_getv (h2) dX1_takeCell_37 fX1_28 rfl rfl (by decide) ?_
  refine x_iconst (v := nI 5) dX1_takeCell_40 (by decide) ?_
  refine x_imulN dX1_takeCell_41 ?_
  refine x_aload_n dX1_takeCell_42 rfl rfl ?_
  refine x_getv (h5) dX1_takeCell_43 fX1_34 rfl rfl (by decide) ?_
  refine x_iaddN dX1_takeCell_46 ?_
  refine x_iload_n dX1_takeCell_47 rfl rfl ?_
  refine x_iastN dX1_takeCell_48 rfl (by decide) (by omega) (by decide) ?_
  refine x_aload_n dX1_takeCell_49 rfl rfl ?_
  refine x_dup dX1_takeCell_50 rfl ?_
  refine x_getv (sa_v (by decide) h5) dX1_takeCell_51 fX1_34 rfl rfl (by decide) ?_
  refine x_iconst (v := nI 1) dX1_takeCell_54 (by decide) ?_
  refine x_iaddN dX1_takeCell_55 ?_
  refine x_put dX1_takeCell_56 pX1_34 rfl rfl (by decide) rfl rfl ?_
  have hcell : ∀ i, i < 5 * n + (col + 1) → (sa (sa M 10 (upd (M.1 10) (n * 5 + col) (nI (b - 97)))) 8 (upd ((sa M 10 (upd (M.1 10) (n * 5 + col) (nI (b - 97)))).1 8) 8 (nI (col + 1)))).1 10 i = nI (uf cl (5 * n + col) (b - 97) i) := by
    intro i hi
    rw [show 5 * n + col = n * 5 + col by omega]
    exact sa_v (by decide) (sau_f (fun e => h7 i (by rw [if_pos rfl]; omega)))
  have hF : Fr M (sa (sa M 10 (upd (M.1 10) (n * 5 + col) (nI (b - 97)))) 8 (upd ((sa M 10 (upd (M.1 10) (n * 5 + col) (nI (b - 97)))).1 8) 8 (nI (col + 1)))) [8, 9, 10, 11, 12] := (Fr.rf.sa (by decide)).sa (by decide)
  have g1 : (sa (sa M 10 (upd (M.1 10) (n * 5 + col) (nI (b - 97)))) 8 (upd ((sa M 10 (upd (M.1 10) (n * 5 + col) (nI (b - 97)))).1 8) 8 (nI (col + 1)))).1 8 4 = nI K := sau_v (by decide) (sa_v (by decide) h1)
  have g2 : (sa (sa M 10 (upd (M.1 10) (n * 5 + col) (nI (b - 97)))) 8 (upd ((sa M 10 (upd (M.1 10) (n * 5 + col) (nI (b - 97)))).1 8) 8 (nI (col + 1)))).1 8 5 = nI n := sau_v (by decide) (sa_v (by decide) h2)
  have g3 : (sa (sa M 10 (upd (M.1 10) (n * 5 + col) (nI (b - 97)))) 8 (upd ((sa M 10 (upd (M.1 10) (n * 5 + col) (nI (b - 97)))).1 8) 8 (nI (col + 1)))).1 8 6 = nI D := sau_v (by decide) (sa_v (by decide) h3)
  have g4 : (sa (sa M 10 (upd (M.1 10) (n * 5 + col) (nI (b - 97)))) 8 (upd ((sa M 10 (upd (M.1 10) (n * 5 + col) (nI (b - 97)))).1 8) 8 (nI (col + 1)))).1 8 7 = nI 3 := sau_v (by decide) (sa_v (by decide) h4)
  have g5 : (sa (sa M 10 (upd (M.1 10) (n * 5 + col) (nI (b - 97)))) 8 (upd ((sa M 10 (upd (M.1 10) (n * 5 + col) (nI (b - 97)))).1 8) 8 (nI (col + 1)))).1 8 8 = nI (col + 1) := by rw [sa_1, pk_us]
  have g6 : ∀ k, k < K → (sa (sa M 10 (upd (M.1 10) (n * 5 + col) (nI (b - 97)))) 8 (upd ((sa M 10 (upd (M.1 10) (n * 5 + col) (nI (b - 97)))).1 8) 8 (nI (col + 1)))).1 9 k = nI (kd k) := fun k hk => sa_v (by decide) (sa_v (by decide) (h6 k hk))
  have g8 : ∀ x, x < D → (sa (sa M 10 (upd (M.1 10) (n * 5 + col) (nI (b - 97)))) 8 (upd ((sa M 10 (upd (M.1 10) (n * 5 + col) (nI (b - 97)))).1 8) 8 (nI (col + 1)))).1 11 x = nI (pt x) ∧ (sa (sa M 10 (upd (M.1 10) (n * 5 + col) (nI (b - 97)))) 8 (upd ((sa M 10 (upd (M.1 10) (n * 5 + col) (nI (b - 97)))).1 8) 8 (nI (col + 1)))).1 12 x = nI (nd x) := fun x hx => ⟨sa_v (by decide) (sa_v (by decide) (h8 x hx).1), sa_v (by decide) (sa_v (by decide) (h8 x hx).2)⟩
  revert hcell hF g1 g2 g3 g4 g5 g6 g8
  generalize sa (sa M 10 _) 8 _ = N
  intro hcell hF g1 g2 g3 g4 g5 g6 g8
  refine x_aload_n dX1_takeCell_59 rfl rfl ?_
  refine x_getv (g5) dX1_takeCell_60 fX1_34 rfl rfl (by decide) ?_
  refine x_iconst (v := nI 5) dX1_takeCell_63 (by decide) ?_
  refine x_icmp_neN (tgt := 82) dX1_takeCell_64 (by decide) (by omega) (by omega) (fun hc => ?_) (fun hc => ?_)
  · rw [if_neg (show ¬ col = 4 by omega)] at hps
    refine x_iconst (v := nI 1) dX1_takeCell_82 (by decide) ?_
    exact hR _ _ _ _ dX1_takeCell_83 (by decide) ⟨hF, Or.inr ⟨rfl, _, hps, ⟨g1, g2, g3, g4, g5, g6, fun i hi => hcell i (by simpa using hi), g8, fun e => absurd e (by decide)⟩, ⟨o1, o2, o3, fun e => absurd e (by decide), fun _ => ⟨hn5, by omega⟩, fun e => absurd e (by decide), by decide⟩⟩⟩
  · have hcol4 : col = 4 := by omega
    rw [if_pos hcol4] at hps
    refine x_aload_n dX1_takeCell_67 rfl rfl ?_
    refine x_dup dX1_takeCell_68 rfl ?_
    refine x_getv (g2) dX1_takeCell_69 fX1_28 rfl rfl (by decide) ?_
    refine x_iconst (v := nI 1) dX1_takeCell_72 (by decide) ?_
    refine x_iaddN dX1_takeCell_73 ?_
    refine x_put dX1_takeCell_74 pX1_28 rfl rfl (by decide) rfl rfl ?_
    refine x_aload_n dX1_takeCell_77 rfl rfl ?_
    refine x_iconst (v := nI 1) dX1_takeCell_78 (by decide) ?_
    refine x_put dX1_takeCell_79 pX1_37 rfl rfl (by decide) rfl rfl ?_
    refine x_iconst (v := nI 1) dX1_takeCell_82 (by decide) ?_
    exact hR _ _ _ _ dX1_takeCell_83 (by decide) ⟨(hF.sa (by decide)).sa (by decide), Or.inr ⟨rfl, _, hps, ⟨sau_v (by decide) (sau_v (by decide) g1), sau_v (by decide) (by rw [sa_1, pk_us]), sau_v (by decide) (sau_v (by decide) g3), by rw [sa_1, pk_us], sau_v (by decide) (sau_v (by decide) (by rw [g5, hcol4])), fun k hk => sa_v (by decide) (sa_v (by decide) (g6 k hk)), fun i hi => sa_v (by decide) (sa_v (by decide) (hcell i (by simp at hi; omega))), fun x hx => ⟨sa_v (by decide) (sa_v (by decide) (g8 x hx).1), sa_v (by decide) (sa_v (by decide) (g8 x hx).2)⟩, fun e => absurd e (by decide)⟩, ⟨o1, by omega, o3, fun e => absurd e (by decide), fun e => absurd e (by decide), fun e => absurd e (by decide), by decide⟩⟩⟩
set_option maxHeartbeats 8000000 in
theorem k_take_8 (E : Ev) (d : Nat) (M : PM) (b : Nat) (s : PS) (hb : b < 256) (h : HsC M 8 s) (ho : okC s) : Ci E (d + 1) mX1_take [.ref (ad E 8), .int (nI b)] M (fun v N => tkP_8 M N b s v) := by
  obtain ⟨aw, col, K, n, D, kd, cl, pt, nd⟩ := s
  have h7 := h.2.2.2.1
  have ho7 := ho.2.2.2.2.2.2
  refine Ct.ofz [some (.ref (ad E 8)), some (.int (nI b))] (own := RX1) rfl (by decide) (Nat.le_of_ble_eq_true rfl) rfl (fun C hR => ?_)
  refine x_aload_n dX1_take_0 rfl rfl ?_
  refine x_getv (h7) dX1_take_1 fX1_37 rfl rfl (by decide) ?_
  match aw, h, ho, ho7 with
  | 0, h, ho, _ =>
    refine x_tableIn (off := 36) (tgt := 40) dX1_take_4 (by decide) (by decide) (by decide) (by decide) ?_
    refine x_aload_n dX1_take_40 rfl rfl ?_
    refine x_iload_n dX1_take_41 rfl rfl ?_
    refine x_callVi dX1_take_42 mvX1_takeStart kX1_40 (k_takeStart_8 E d M b col K n D kd cl pt nd hb h ho) rfl (by decide) (by omega) rfl rfl (Nat.le_of_ble_eq_true rfl) ?_
    rintro v N hP
    refine hR _ _ _ _ dX1_take_45 ?_ hP
    rcases hP.2 with ⟨e, _⟩ | ⟨e, _⟩ <;> rw [e] <;> exact bI_n _
  | 1, h, ho, _ =>
    refine x_tableIn (off := 42) (tgt := 46) dX1_take_4 (by decide) (by decide) (by decide) (by decide) ?_
    refine x_aload_n dX1_take_46 rfl rfl ?_
    refine x_iload_n dX1_take_47 rfl rfl ?_
    refine x_callVi dX1_take_48 mvX1_takeThing kX1_44 (k_takeThing_8 E d M b col K n D kd cl pt nd hb h ho) rfl (by decide) (by omega) rfl rfl (Nat.le_of_ble_eq_true rfl) ?_
    rintro v N hP
    refine hR _ _ _ _ dX1_take_51 ?_ hP
    rcases hP.2 with ⟨e, _⟩ | ⟨e, _⟩ <;> rw [e] <;> exact bI_n _
  | 2, h, ho, _ =>
    refine x_tableIn (off := 48) (tgt := 52) dX1_take_4 (by decide) (by decide) (by decide) (by decide) ?_
    refine x_aload_n dX1_take_52 rfl rfl ?_
    refine x_iload_n dX1_take_53 rfl rfl ?_
    refine x_bipush (v := nI 48) dX1_take_54 (by decide) ?_
    refine x_isub dX1_take_56 ?_
    refine x_callVi dX1_take_57 mvX1_takeKind kX1_47 (k_takeKind_8 E d M b col K n D kd cl pt nd hb h ho) rfl (by decide) (by omega) rfl rfl (Nat.le_of_ble_eq_true rfl) ?_
    rintro v N hP
    refine hR _ _ _ _ dX1_take_60 ?_ hP
    rcases hP.2 with ⟨e, _⟩ | ⟨e, _⟩ <;> rw [e] <;> exact bI_n _
  | 3, h, ho, _ =>
    refine x_tableIn (off := 57) (tgt := 61) dX1_take_4 (by decide) (by decide) (by decide) (by decide) ?_
    refine x_aload_n dX1_take_61 rfl rfl ?_
    refine x_iload_n dX1_take_62 rfl rfl ?_
    refine x_bipush (v := nI 97) dX1_take_63 (by decide) ?_
    refine x_isub dX1_take_65 ?_
    refine x_callVi dX1_take_66 mvX1_takeCell kX1_50 (k_takeCell_8 E d M b col K n D kd cl pt nd hb h ho) rfl (by decide) (by omega) rfl rfl (Nat.le_of_ble_eq_true rfl) ?_
    rintro v N hP
    refine hR _ _ _ _ dX1_take_69 ?_ hP
    rcases hP.2 with ⟨e, _⟩ | ⟨e, _⟩ <;> rw [e] <;> exact bI_n _
  | 4, h, ho, _ =>
    refine x_tableIn (off := 66) (tgt := 70) dX1_take_4 (by decide) (by decide) (by decide) (by decide) ?_
    refine x_aload_n dX1_take_70 rfl rfl ?_
    refine x_iload_n dX1_take_71 rfl rfl ?_
    refine x_bipush (v := nI 48) dX1_take_72 (by decide) ?_
    refine x_isub dX1_take_74 ?_
    refine x_callVi dX1_take_75 mvX1_takePart kX1_53 (k_takePart_8 E d M b col K n D kd cl pt nd hb h ho) rfl (by decide) (by omega) rfl rfl (Nat.le_of_ble_eq_true rfl) ?_
    rintro v N hP
    refine hR _ _ _ _ dX1_take_78 ?_ hP
    rcases hP.2 with ⟨e, _⟩ | ⟨e, _⟩ <;> rw [e] <;> exact bI_n _
  | 5, h, ho, _ =>
    have e5 : (nI 5).toInt = 5 := by decide
    refine x_tableOut (tgt := 79) dX1_take_4 (by omega) (by decide) ?_
    refine x_aload_n dX1_take_79 rfl rfl ?_
    refine x_iload_n dX1_take_80 rfl rfl ?_
    refine x_bipush (v := nI 48) dX1_take_81 (by decide) ?_
    refine x_isub dX1_take_83 ?_
    refine x_callVi dX1_take_84 mvX1_takeNeed kX1_56 (k_takeNeed_8 E d M b col K n D kd cl pt nd hb h ho) rfl (by decide) (by omega) rfl rfl (Nat.le_of_ble_eq_true rfl) ?_
    rintro v N hP
    refine hR _ _ _ _ dX1_take_87 ?_ hP
    rcases hP.2 with ⟨e, _⟩ | ⟨e, _⟩ <;> rw [e] <;> exact bI_n _
  | k + 6, _, _, h => exact absurd h (by omega)
set_option maxHeartbeats 8000000 in
theorem k_readInto_8 (E : Ev) (d : Nat) (M : PM) (t : Nat) (tx : Nat → Nat) (ht : TxC M t tx) : Ci E (d + 2) mX6_readInto [.ref (ad E 1), .ref (ad E 8)] M (fun v N => v = fltA t tx ∧ Fr M N [8, 9, 10, 11, 12] ∧ (fltA t tx = -9 → HsC N 8 (fnA t tx) ∧ okC (fnA t tx) ∧ (fnA t tx).1 = 1)) := by
  have t56 := ht.2.1
  refine Ct.ofi [some (.ref (ad E 1)), some (.ref (ad E 8)), none] (own := RX6) rfl (by decide) (Nat.le_of_ble_eq_true rfl) rfl (fun C hR => ?_)
  refine x_aload_n dX6_readInto_0 rfl rfl ?_
  refine x_callVv dX6_readInto_1 mvX1_begin kX6_19 (k_hbegin_8 E (d + 1) M) rfl (by decide) (by omega) rfl rfl (Nat.le_of_ble_eq_true rfl) ?_
  rintro N0 ⟨hN0, hs0⟩
  refine x_iconst (v := nI 0) dX6_readInto_4 (by decide) ?_
  refine xis3_2 dX6_readInto_5 rfl ?_
  have key : ∀ i, i ≤ t → ∀ N s, Fr M N [8, 9, 10, 11, 12] → HsC N 8 s → okC s → fltA t tx = flt tx (t - i) i s → fnA t tx = fnS tx (t - i) i s → X E (d + 2) RX6 cX6_readInto 3 C 6 [some (.ref (ad E 1)), some (.ref (ad E 8)), some (.int (nI i))] [] N := by
    refine up_loop t ?_ ?_
    · intro N s hN hs ho hfl hfn
      obtain ⟨aw, col, K, n, D, kd, cl, pt, nd⟩ := s
      have ho7 := ho.2.2.2.2.2.2
      have h7 := hs.2.2.2.1
      refine x_iload_n dX6_readInto_6 rfl rfl ?_
      refine x_aload_n dX6_readInto_7 rfl rfl ?_
      refine x_getv (hN.v (by decide) ht.1) dX6_readInto_8 fX6_15 rfl rfl (by decide) ?_
      refine x_icmp_geN (tgt := 35) dX6_readInto_11 (by decide) (by omega) (by omega) (fun hc => ?_) (fun hc => ?_)
      rotate_left
      · exact absurd hc (by omega)
      refine x_aload_n dX6_readInto_35 rfl rfl ?_
      refine x_callVi dX6_readInto_36 mvX1_isWhole kX6_28 (k_isWhole_8 E (d + 1) N aw ho7 h7) rfl (by decide) (by omega) rfl rfl (Nat.le_of_ble_eq_true rfl) ?_
      rintro _ _ ⟨rfl, rfl⟩
      refine x_if_eqB (tgt := 47) dX6_readInto_39 (by decide) (fun hc => ?_) (fun hc => ?_)
      · have ha := of_decide_eq_false hc
        rw [flt_e ha] at hfl
        refine x_aload_n dX6_readInto_47 rfl rfl ?_
        refine x_getv (hN.v (by decide) ht.1) dX6_readInto_48 fX6_15 rfl rfl (by decide) ?_
        exact hR _ _ _ _ dX6_readInto_51 (⟨hfl.symm, hN, fun e => absurd (hfl.symm.trans e) (nI_n9 (by omega))⟩)
      · have ha := of_decide_eq_true hc
        rw [flt_w ha] at hfl
        rw [Nat.sub_self] at hfn
        refine x_bipush (v := -9) dX6_readInto_42 (by decide) ?_
        refine x_goto (tgt := 51) dX6_readInto_44 (by decide) ?_
        refine hR _ _ _ _ dX6_readInto_51 ⟨hfl.symm, hN, fun _ => ?_⟩
        rw [hfn]
        exact ⟨hs, ho, ha⟩
    · intro i hi ih N s hN hs ho hfl hfn
      obtain ⟨b1, b2⟩ := ht.2.2 i hi
      refine x_iload_n dX6_readInto_6 rfl rfl ?_
      refine x_aload_n dX6_readInto_7 rfl rfl ?_
      refine x_getv (hN.v (by decide) ht.1) dX6_readInto_8 fX6_15 rfl rfl (by decide) ?_
      refine x_icmp_geN (tgt := 35) dX6_readInto_11 (by decide) (by omega) (by omega) (fun hc => ?_) (fun hc => ?_)
      · exact absurd hc (by omega)
      refine x_aload_n dX6_readInto_14 rfl rfl ?_
      refine x_aload_n dX6_readInto_15 rfl rfl ?_
      refine x_getr dX6_readInto_16 fX6_9 rfl rfl (by decide) ?_
      refine x_iload_n dX6_readInto_19 rfl rfl ?_
      refine x_ialdN dX6_readInto_20 rfl (by decide) (by omega) (by decide) (hN.v (by decide) b1) ?_
      refine x_callVi dX6_readInto_21 mvX1_take kX6_24 (k_take_8 E d N (tx i) s b2 hs ho) rfl (by decide) (by omega) rfl rfl (Nat.le_of_ble_eq_true rfl) ?_
      rintro v N2 ⟨hN2, hP⟩
      have hN2' : Fr M N2 [8, 9, 10, 11, 12] := hN.tr hN2 (fun _ h => h)
      rcases hP with ⟨rfl, hp⟩ | ⟨rfl, s', hp, hs', ho'⟩
      · rw [flt_n hi hp] at hfl
        refine x_if_neB (tgt := 29) dX6_readInto_24 (by decide) (fun hc => ?_) (fun hc => ?_)
        · cases hc
        · refine x_iload_n dX6_readInto_27 rfl rfl ?_
          exact hR _ _ _ _ dX6_readInto_28 (⟨hfl.symm, hN2', fun e => absurd (hfl.symm.trans e) (nI_n9 (by omega))⟩)
      · refine x_if_neB (tgt := 29) dX6_readInto_24 (by decide) (fun hc => ?_) (fun hc => ?_)
        · refine xinc3_2N dX6_readInto_29 rfl ?_
          refine x_goto (tgt := 6) dX6_readInto_32 (by decide) ?_
          exact ih N2 s' hN2' hs' ho' (hfl.trans (flt_y hi hp)) (hfn.trans (fnS_y hi hp))
        · cases hc
  exact key 0 (by omega) N0 ps0 (hN0.wd (by decide)) hs0 ⟨by decide, by decide, by decide, fun e => absurd e (by decide), fun e => absurd e (by decide), fun e => absurd e (by decide), by decide⟩ rfl rfl
