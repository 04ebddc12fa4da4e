-- ===== the component: a table =====
def Tb (M : PM) (T n : Nat) (q w : Nat → Nat) : Prop := n ≤ 5 ∧ (∀ r c, r < n → c < 5 → M.1 (T + 1) (r * 5 + c) = nI (q (5 * r + c)) ∧ q (5 * r + c) < 20) ∧ ∀ r, r < n → M.1 (T + 2) r = nI (w r) ∧ w r ≤ 5
theorem Tb.of {M N : PM} {T S n : Nat} {q w : Nat → Nat} (h : Tb M T n q w) (e1 : ∀ i, i < 25 → N.1 (S + 1) i = M.1 (T + 1) i) (e2 : ∀ i, i < 5 → N.1 (S + 2) i = M.1 (T + 2) i) : Tb N S n q w := by
  obtain ⟨h1, h2, h3⟩ := h
  refine ⟨h1, fun r c hr hc => ?_, fun r hr => ?_⟩
  · rw [e1 _ (by omega)]; exact h2 r c hr hc
  · rw [e2 _ (by omega)]; exact h3 r hr
theorem Tb.fr {M N : PM} {T n : Nat} {q w : Nat → Nat} {cs : List Nat} (h : Tb M T n q w) (hf : Fr M N cs) (h1 : T + 1 ∉ cs) (h2 : T + 2 ∉ cs) : Tb N T n q w :=
  h.of (fun i _ => by rw [hf.2 _ h1]) (fun i _ => by rw [hf.2 _ h2])
theorem fig_mod {w : Nat → Nat} {r : Nat} (h : w r ≤ 5) : fig w (r + 1) % 10 = w r := by
  show (10 * fig w r + w r) % 10 = w r
  omega
theorem fig_div {w : Nat → Nat} {r : Nat} (h : w r ≤ 5) : fig w (r + 1) / 10 = fig w r := by
  show (10 * fig w r + w r) / 10 = fig w r
  omega
theorem sub1 (j : Nat) : nI j + (-1) = nI j - nI 1 := by rw [Int32.sub_eq_add_neg]; rfl
set_option maxHeartbeats 8000000 in
theorem k_tbegin (E : Ev) (d : Nat) (M : PM) : Cv E (d + 1) mX4_begin [.ref (ad E 13)] M (fun N => Fr M N [13, 14, 15] ∧ (∀ i, i < 25 → N.1 14 i = M.1 5 i) ∧ (∀ r, r < 5 → N.1 15 r = nI 2) ∧ N.1 13 3 = nI 0) := by
  refine Ct.ofv [some (.ref (ad E 13))] (own := RX4) rfl (by decide) (Nat.le_of_ble_eq_true rfl) rfl (fun C hR => ?_)
  refine x_aload_n dX4_begin_0 rfl rfl ?_
  refine x_getr dX4_begin_1 fX4_18 rfl rfl (by decide) ?_
  refine x_getr dX4_begin_4 fX4_22 rfl rfl (by decide) ?_
  refine x_iconst (v := nI 0) dX4_begin_7 (by decide) ?_
  refine x_aload_n dX4_begin_8 rfl rfl ?_
  refine x_getr dX4_begin_9 fX4_9 rfl rfl (by decide) ?_
  refine x_iconst (v := nI 0) dX4_begin_12 (by decide) ?_
  refine x_bipush (v := nI 25) dX4_begin_13 (by decide) ?_
  refine x_copy dX4_begin_15 kX4_25 (by omega) rfl rfl rfl (by decide) (by decide) (by decide) (by decide) (by decide) (by decide) (by decide) (Nat.le_of_ble_eq_true rfl) ?_
  refine x_aload_n dX4_begin_18 rfl rfl ?_
  refine x_getr dX4_begin_19 fX4_15 rfl rfl (by decide) ?_
  refine x_iconst (v := nI 2) dX4_begin_22 (by decide) ?_
  refine x_callSv dX4_begin_23 msJ7_fill_53178 kX4_31 (c_fill E d _ 15 5 (nI 2) rfl (by decide) (by decide)) (by omega) rfl rfl (Nat.le_of_ble_eq_true rfl) ?_
  rintro _ rfl
  refine x_aload_n dX4_begin_26 rfl rfl ?_
  refine x_iconst (v := nI 0) dX4_begin_27 (by decide) ?_
  refine x_put dX4_begin_28 pX4_37 rfl rfl (by decide) rfl rfl ?_
  refine hR _ _ _ dX4_begin_31 ⟨((Fr.rf.sa (by decide)).sa (by decide)).sa (by decide), fun i hi => ?_, fun r hr => ?_, ?_⟩
  · rw [sa_ne (by decide), sa_ne (by decide), sa_1, pk_cpy_in (by rw [show (nI 0).toNatClampNeg = 0 from rfl]; omega) (by rw [show (nI 0).toNatClampNeg = 0 from rfl, show (nI 25).toNatClampNeg = 25 from rfl]; omega)]
    rw [show (nI 0).toNatClampNeg = 0 from rfl, Nat.zero_add, Nat.sub_zero]
  · rw [sa_ne (by decide), sa_1, fa_fill_in hr]
  · rw [sa_1, pk_us]
set_option maxHeartbeats 8000000 in
theorem k_copyOf_16_13 (E : Ev) (d : Nat) (M : PM) : Cv E (d + 1) mX4_copyOf [.ref (ad E 16), .ref (ad E 13)] M (fun N => Fr M N [16, 17, 18] ∧ (∀ i, i < 25 → N.1 17 i = M.1 14 i) ∧ (∀ r, r < 5 → N.1 18 r = M.1 15 r) ∧ N.1 16 3 = M.1 13 3) := by
  refine Ct.ofv [some (.ref (ad E 16)), some (.ref (ad E 13))] (own := RX4) rfl (by decide) (Nat.le_of_ble_eq_true rfl) rfl (fun C hR => ?_)
  refine x_aload_n dX4_copyOf_0 rfl rfl ?_
  refine x_getr dX4_copyOf_1 fX4_9 rfl rfl (by decide) ?_
  refine x_iconst (v := nI 0) dX4_copyOf_4 (by decide) ?_
  refine x_aload_n dX4_copyOf_5 rfl rfl ?_
  refine x_getr dX4_copyOf_6 fX4_9 rfl rfl (by decide) ?_
  refine x_iconst (v := nI 0) dX4_copyOf_9 (by decide) ?_
  refine x_bipush (v := nI 25) dX4_copyOf_10 (by decide) ?_
  refine x_copy dX4_copyOf_12 kX4_25 (by omega) rfl rfl rfl (by decide) (by decide) (by decide) (by decide) (by decide) (by decide) (by decide) (Nat.le_of_ble_eq_true rfl) ?_
  refine x_aload_n dX4_copyOf_15 rfl rfl ?_
  refine x_getr dX4_copyOf_16 fX4_15 rfl rfl (by decide) ?_
  refine x_iconst (v := nI 0) dX4_copyOf_19 (by decide) ?_
  refine x_aload_n dX4_copyOf_20 rfl rfl ?_
  refine x_getr dX4_copyOf_21 fX4_15 rfl rfl (by decide) ?_
  refine x_iconst (v := nI 0) dX4_copyOf_24 (by decide) ?_
  refine x_iconst (v := nI 5) dX4_copyOf_25 (by decide) ?_
  refine x_copy dX4_copyOf_26 kX4_25 (by omega) rfl rfl rfl (by decide) (by decide) (by decide) (by decide) (by decide) (by decide) (by decide) (Nat.le_of_ble_eq_true rfl) ?_
  refine x_aload_n dX4_copyOf_29 rfl rfl ?_
  refine x_aload_n dX4_copyOf_30 rfl rfl ?_
  refine x_geti dX4_copyOf_31 fX4_37 rfl rfl (by decide) ?_
  refine x_put dX4_copyOf_34 pX4_37 rfl rfl (by decide) rfl rfl ?_
  refine hR _ _ _ dX4_copyOf_37 ⟨((Fr.rf.sa (by decide)).sa (by decide)).sa (by decide), fun i hi => ?_, fun r hr => ?_, ?_⟩
  · rw [sa_ne (by decide), sa_ne (by decide), sa_1, pk_cpy_in (by rw [show (nI 0).toNatClampNeg = 0 from rfl]; omega) (by rw [show (nI 0).toNatClampNeg = 0 from rfl, show (nI 25).toNatClampNeg = 25 from rfl]; omega)]
    rw [show (nI 0).toNatClampNeg = 0 from rfl, Nat.zero_add, Nat.sub_zero]
  · rw [sa_ne (by decide), sa_1, pk_cpy_in (by rw [show (nI 0).toNatClampNeg = 0 from rfl]; omega) (by rw [show (nI 0).toNatClampNeg = 0 from rfl, show (nI 5).toNatClampNeg = 5 from rfl]; omega)]
    rw [show (nI 0).toNatClampNeg = 0 from rfl, Nat.zero_add, Nat.sub_zero, sa_ne (by decide)]
  · rw [sa_1, pk_us, sa_ne (by decide), sa_ne (by decide)]
set_option maxHeartbeats 8000000 in
theorem k_copyOf_20_13 (E : Ev) (d : Nat) (M : PM) : Cv E (d + 1) mX4_copyOf [.ref (ad E 20), .ref (ad E 13)] M (fun N => Fr M N [20, 21, 22] ∧ (∀ i, i < 25 → N.1 21 i = M.1 14 i) ∧ (∀ r, r < 5 → N.1 22 r = M.1 15 r) ∧ N.1 20 3 = M.1 13 3) := by
  refine Ct.ofv [some (.ref (ad E 20)), some (.ref (ad E 13))] (own := RX4) rfl (by decide) (Nat.le_of_ble_eq_true rfl) rfl (fun C hR => ?_)
  refine x_aload_n dX4_copyOf_0 rfl rfl ?_
  refine x_getr dX4_copyOf_1 fX4_9 rfl rfl (by decide) ?_
  refine x_iconst (v := nI 0) dX4_copyOf_4 (by decide) ?_
  refine x_aload_n dX4_copyOf_5 rfl rfl ?_
  refine x_getr dX4_copyOf_6 fX4_9 rfl rfl (by decide) ?_
  refine x_iconst (v := nI 0) dX4_copyOf_9 (by decide) ?_
  refine x_bipush (v := nI 25) dX4_copyOf_10 (by decide) ?_
  refine x_copy dX4_copyOf_12 kX4_25 (by omega) rfl rfl rfl (by decide) (by decide) (by decide) (by decide) (by decide) (by decide) (by decide) (Nat.le_of_ble_eq_true rfl) ?_
  refine x_aload_n dX4_copyOf_15 rfl rfl ?_
  refine x_getr dX4_copyOf_16 fX4_15 rfl rfl (by decide) ?_
  refine x_iconst (v := nI 0) dX4_copyOf_19 (by decide) ?_
  refine x_aload_n dX4_copyOf_20 rfl rfl ?_
  refine x_getr dX4_copyOf_21 fX4_15 rfl rfl (by decide) ?_
  refine x_iconst (v := nI 0) dX4_copyOf_24 (by decide) ?_
  refine x_iconst (v := nI 5) dX4_copyOf_25 (by decide) ?_
  refine x_copy dX4_copyOf_26 kX4_25 (by omega) rfl rfl rfl (by decide) (by decide) (by decide) (by decide) (by decide) (by decide) (by decide) (Nat.le_of_ble_eq_true rfl) ?_
  refine x_aload_n dX4_copyOf_29 rfl rfl ?_
  refine x_aload_n dX4_copyOf_30 rfl rfl ?_
  refine x_geti dX4_copyOf_31 fX4_37 rfl rfl (by decide) ?_
  refine x_put dX4_copyOf_34 pX4_37 rfl rfl (by decide) rfl rfl ?_
  refine hR _ _ _ dX4_copyOf_37 ⟨((Fr.rf.sa (by decide)).sa (by decide)).sa (by decide), fun i hi => ?_, fun r hr => ?_, ?_⟩
  · rw [sa_ne (by decide), sa_ne (by decide), sa_1, pk_cpy_in (by rw [show (nI 0).toNatClampNeg = 0 from rfl]; omega) (by rw [show (nI 0).toNatClampNeg = 0 from rfl, show (nI 25).toNatClampNeg = 25 from rfl]; omega)]
    rw [show (nI 0).toNatClampNeg = 0 from rfl, Nat.zero_add, Nat.sub_zero]
  · rw [sa_ne (by decide), sa_1, pk_cpy_in (by rw [show (nI 0).toNatClampNeg = 0 from rfl]; omega) (by rw [show (nI 0).toNatClampNeg = 0 from rfl, show (nI 5).toNatClampNeg = 5 from rfl]; omega)]
    rw [show (nI 0).toNatClampNeg = 0 from rfl, Nat.zero_add, Nat.sub_zero, sa_ne (by decide)]
  · rw [sa_1, pk_us, sa_ne (by decide), sa_ne (by decide)]
set_option maxHeartbeats 8000000 in
theorem k_copyOf_23_13 (E : Ev) (d : Nat) (M : PM) : Cv E (d + 1) mX4_copyOf [.ref (ad E 23), .ref (ad E 13)] M (fun N => Fr M N [23, 24, 25] ∧ (∀ i, i < 25 → N.1 24 i = M.1 14 i) ∧ (∀ r, r < 5 → N.1 25 r = M.1 15 r) ∧ N.1 23 3 = M.1 13 3) := by
  refine Ct.ofv [some (.ref (ad E 23)), some (.ref (ad E 13))] (own := RX4) rfl (by decide) (Nat.le_of_ble_eq_true rfl) rfl (fun C hR => ?_)
  refine x_aload_n dX4_copyOf_0 rfl rfl ?_
  refine x_getr dX4_copyOf_1 fX4_9 rfl rfl (by decide) ?_
  refine x_iconst (v := nI 0) dX4_copyOf_4 (by decide) ?_
  refine x_aload_n dX4_copyOf_5 rfl rfl ?_
  refine x_getr dX4_copyOf_6 fX4_9 rfl rfl (by decide) ?_
  refine x_iconst (v := nI 0) dX4_copyOf_9 (by decide) ?_
  refine x_bipush (v := nI 25) dX4_copyOf_10 (by decide) ?_
  refine x_copy dX4_copyOf_12 kX4_25 (by omega) rfl rfl rfl (by decide) (by decide) (by decide) (by decide) (by decide) (by decide) (by decide) (Nat.le_of_ble_eq_true rfl) ?_
  refine x_aload_n dX4_copyOf_15 rfl rfl ?_
  refine x_getr dX4_copyOf_16 fX4_15 rfl rfl (by decide) ?_
  refine x_iconst (v := nI 0) dX4_copyOf_19 (by decide) ?_
  refine x_aload_n dX4_copyOf_20 rfl rfl ?_
  refine x_getr dX4_copyOf_21 fX4_15 rfl rfl (by decide) ?_
  refine x_iconst (v := nI 0) dX4_copyOf_24 (by decide) ?_
  refine x_iconst (v := nI 5) dX4_copyOf_25 (by decide) ?_
  refine x_copy dX4_copyOf_26 kX4_25 (by omega) rfl rfl rfl (by decide) (by decide) (by decide) (by decide) (by decide) (by decide) (by decide) (Nat.le_of_ble_eq_true rfl) ?_
  refine x_aload_n dX4_copyOf_29 rfl rfl ?_
  refine x_aload_n dX4_copyOf_30 rfl rfl ?_
  refine x_geti dX4_copyOf_31 fX4_37 rfl rfl (by decide) ?_
  refine x_put dX4_copyOf_34 pX4_37 rfl rfl (by decide) rfl rfl ?_
  refine hR _ _ _ dX4_copyOf_37 ⟨((Fr.rf.sa (by decide)).sa (by decide)).sa (by decide), fun i hi => ?_, fun r hr => ?_, ?_⟩
  · rw [sa_ne (by decide), sa_ne (by decide), sa_1, pk_cpy_in (by rw [show (nI 0).toNatClampNeg = 0 from rfl]; omega) (by rw [show (nI 0).toNatClampNeg = 0 from rfl, show (nI 25).toNatClampNeg = 25 from rfl]; omega)]
    rw [show (nI 0).toNatClampNeg = 0 from rfl, Nat.zero_add, Nat.sub_zero]
  · rw [sa_ne (by decide), sa_1, pk_cpy_in (by rw [show (nI 0).toNatClampNeg = 0 from rfl]; omega) (by rw [show (nI 0).toNatClampNeg = 0 from rfl, show (nI 5).toNatClampNeg = 5 from rfl]; omega)]
    rw [show (nI 0).toNatClampNeg = 0 from rfl, Nat.zero_add, Nat.sub_zero, sa_ne (by decide)]
  · rw [sa_1, pk_us, sa_ne (by decide), sa_ne (by decide)]
set_option maxHeartbeats 8000000 in
theorem k_copyOf_13_20 (E : Ev) (d : Nat) (M : PM) : Cv E (d + 1) mX4_copyOf [.ref (ad E 13), .ref (ad E 20)] M (fun N => Fr M N [13, 14, 15] ∧ (∀ i, i < 25 → N.1 14 i = M.1 21 i) ∧ (∀ r, r < 5 → N.1 15 r = M.1 22 r) ∧ N.1 13 3 = M.1 20 3) := by
  refine Ct.ofv [some (.ref (ad E 13)), some (.ref (ad E 20))] (own := RX4) rfl (by decide) (Nat.le_of_ble_eq_true rfl) rfl (fun C hR => ?_)
  refine x_aload_n dX4_copyOf_0 rfl rfl ?_
  refine x_getr dX4_copyOf_1 fX4_9 rfl rfl (by decide) ?_
  refine x_iconst (v := nI 0) dX4_copyOf_4 (by decide) ?_
  refine x_aload_n dX4_copyOf_5 rfl rfl ?_
  refine x_getr dX4_copyOf_6 fX4_9 rfl rfl (by decide) ?_
  refine x_iconst (v := nI 0) dX4_copyOf_9 (by decide) ?_
  refine x_bipush (v := nI 25) dX4_copyOf_10 (by decide) ?_
  refine x_copy dX4_copyOf_12 kX4_25 (by omega) rfl rfl rfl (by decide) (by decide) (by decide) (by decide) (by decide) (by decide) (by decide) (Nat.le_of_ble_eq_true rfl) ?_
  refine x_aload_n dX4_copyOf_15 rfl rfl ?_
  refine x_getr dX4_copyOf_16 fX4_15 rfl rfl (by decide) ?_
  refine x_iconst (v := nI 0) dX4_copyOf_19 (by decide) ?_
  refine x_aload_n dX4_copyOf_20 rfl rfl ?_
  refine x_getr dX4_copyOf_21 fX4_15 rfl rfl (by decide) ?_
  refine x_iconst (v := nI 0) dX4_copyOf_24 (by decide) ?_
  refine x_iconst (v := nI 5) dX4_copyOf_25 (by decide) ?_
  refine x_copy dX4_copyOf_26 kX4_25 (by omega) rfl rfl rfl (by decide) (by decide) (by decide) (by decide) (by decide) (by decide) (by decide) (Nat.le_of_ble_eq_true rfl) ?_
  refine x_aload_n dX4_copyOf_29 rfl rfl ?_
  refine x_aload_n dX4_copyOf_30 rfl rfl ?_
  refine x_geti dX4_copyOf_31 fX4_37 rfl rfl (by decide) ?_
  refine x_put dX4_copyOf_34 pX4_37 rfl rfl (by decide) rfl rfl ?_
  refine hR _ _ _ dX4_copyOf_37 ⟨((Fr.rf.sa (by decide)).sa (by decide)).sa (by decide), fun i hi => ?_, fun r hr => ?_, ?_⟩
  · rw [sa_ne (by decide), sa_ne (by decide), sa_1, pk_cpy_in (by rw [show (nI 0).toNatClampNeg = 0 from rfl]; omega) (by rw [show (nI 0).toNatClampNeg = 0 from rfl, show (nI 25).toNatClampNeg = 25 from rfl]; omega)]
    rw [show (nI 0).toNatClampNeg = 0 from rfl, Nat.zero_add, Nat.sub_zero]
  · rw [sa_ne (by decide), sa_1, pk_cpy_in (by rw [show (nI 0).toNatClampNeg = 0 from rfl]; omega) (by rw [show (nI 0).toNatClampNeg = 0 from rfl, show (nI 5).toNatClampNeg = 5 from rfl]; omega)]
    rw [show (nI 0).toNatClampNeg = 0 from rfl, Nat.zero_add, Nat.sub_zero, sa_ne (by decide)]
  · rw [sa_1, pk_us, sa_ne (by decide), sa_ne (by decide)]
set_option maxHeartbeats 8000000 in
theorem k_copyOf_13_23 (E : Ev) (d : Nat) (M : PM) : Cv E (d + 1) mX4_copyOf [.ref (ad E 13), .ref (ad E 23)] M (fun N => Fr M N [13, 14, 15] ∧ (∀ i, i < 25 → N.1 14 i = M.1 24 i) ∧ (∀ r, r < 5 → N.1 15 r = M.1 25 r) ∧ N.1 13 3 = M.1 23 3) := by
  refine Ct.ofv [some (.ref (ad E 13)), some (.ref (ad E 23))] (own := RX4) rfl (by decide) (Nat.le_of_ble_eq_true rfl) rfl (fun C hR => ?_)
  refine x_aload_n dX4_copyOf_0 rfl rfl ?_
  refine x_getr dX4_copyOf_1 fX4_9 rfl rfl (by decide) ?_
  refine x_iconst (v := nI 0) dX4_copyOf_4 (by decide) ?_
  refine x_aload_n dX4_copyOf_5 rfl rfl ?_
  refine x_getr dX4_copyOf_6 fX4_9 rfl rfl (by decide) ?_
  refine x_iconst (v := nI 0) dX4_copyOf_9 (by decide) ?_
  refine x_bipush (v := nI 25) dX4_copyOf_10 (by decide) ?_
  refine x_copy dX4_copyOf_12 kX4_25 (by omega) rfl rfl rfl (by decide) (by decide) (by decide) (by decide) (by decide) (by decide) (by decide) (Nat.le_of_ble_eq_true rfl) ?_
  refine x_aload_n dX4_copyOf_15 rfl rfl ?_
  refine x_getr dX4_copyOf_16 fX4_15 rfl rfl (by decide) ?_
  refine x_iconst (v := nI 0) dX4_copyOf_19 (by decide) ?_
  refine x_aload_n dX4_copyOf_20 rfl rfl ?_
  refine x_getr dX4_copyOf_21 fX4_15 rfl rfl (by decide) ?_
  refine x_iconst (v := nI 0) dX4_copyOf_24 (by decide) ?_
  refine x_iconst (v := nI 5) dX4_copyOf_25 (by decide) ?_
  refine x_copy dX4_copyOf_26 kX4_25 (by omega) rfl rfl rfl (by decide) (by decide) (by decide) (by decide) (by decide) (by decide) (by decide) (Nat.le_of_ble_eq_true rfl) ?_
  refine x_aload_n dX4_copyOf_29 rfl rfl ?_
  refine x_aload_n dX4_copyOf_30 rfl rfl ?_
  refine x_geti dX4_copyOf_31 fX4_37 rfl rfl (by decide) ?_
  refine x_put dX4_copyOf_34 pX4_37 rfl rfl (by decide) rfl rfl ?_
  refine hR _ _ _ dX4_copyOf_37 ⟨((Fr.rf.sa (by decide)).sa (by decide)).sa (by decide), fun i hi => ?_, fun r hr => ?_, ?_⟩
  · rw [sa_ne (by decide), sa_ne (by decide), sa_1, pk_cpy_in (by rw [show (nI 0).toNatClampNeg = 0 from rfl]; omega) (by rw [show (nI 0).toNatClampNeg = 0 from rfl, show (nI 25).toNatClampNeg = 25 from rfl]; omega)]
    rw [show (nI 0).toNatClampNeg = 0 from rfl, Nat.zero_add, Nat.sub_zero]
  · rw [sa_ne (by decide), sa_1, pk_cpy_in (by rw [show (nI 0).toNatClampNeg = 0 from rfl]; omega) (by rw [show (nI 0).toNatClampNeg = 0 from rfl, show (nI 5).toNatClampNeg = 5 from rfl]; omega)]
    rw [show (nI 0).toNatClampNeg = 0 from rfl, Nat.zero_add, Nat.sub_zero, sa_ne (by decide)]
  · rw [sa_1, pk_us, sa_ne (by decide), sa_ne (by decide)]
set_option maxHeartbeats 8000000 in
theorem k_wireNumber_13 (E : Ev) (d : Nat) (M : PM) (n : Nat) (q w : Nat → Nat) (hn : M.1 3 5 = nI n) (h : Tb M 13 n q w) : Ci E (d + 1) mX4_wireNumber [.ref (ad E 13)] M (fun v N => v = nI (fig w n) ∧ M = N) := by
  refine Ct.ofi [some (.ref (ad E 13))] (own := RX4) rfl (by decide) (Nat.le_of_ble_eq_true rfl) rfl (fun C hR => ?_)
  refine x_aload_n dX4_wireNumber_0 rfl rfl ?_
  refine x_getr dX4_wireNumber_1 fX4_15 rfl rfl (by decide) ?_
  refine x_aload_n dX4_wireNumber_4 rfl rfl ?_
  refine x_getr dX4_wireNumber_5 fX4_18 rfl rfl (by decide) ?_
  refine x_getv (hn) dX4_wireNumber_8 fX4_41 rfl rfl (by decide) ?_
  refine x_callSi dX4_wireNumber_11 msX8_figuresOf kX4_44 (k_figuresOf E d M 15 n w rfl (by decide) h.1 (fun r hr => (h.2.2 r hr).1)) (by omega) rfl rfl (Nat.le_of_ble_eq_true rfl) ?_
  rintro _ _ ⟨rfl, rfl⟩
  exact hR _ _ _ _ dX4_wireNumber_14 (⟨rfl, rfl⟩)
set_option maxHeartbeats 8000000 in
theorem k_setWire_13 (E : Ev) (d : Nat) (M : PM) (n : Nat) (w : Nat → Nat) (hn : M.1 3 5 = nI n) (hn5 : n ≤ 5) (hw : ∀ r, r < n → w r ≤ 5) : Cv E d mX4_setWire [.ref (ad E 13), .int (nI (fig w n))] M (fun N => Fr M N [15] ∧ ∀ r, r < n → N.1 15 r = nI (w r)) := by
  refine Ct.ofv [some (.ref (ad E 13)), some (.int (nI (fig w n))), none, none] (own := RX4) rfl (by decide) (Nat.le_of_ble_eq_true rfl) rfl (fun C hR => ?_)
  refine x_iload_n dX4_setWire_0 rfl rfl ?_
  refine xis4_2 dX4_setWire_1 rfl ?_
  refine x_aload_n dX4_setWire_2 rfl rfl ?_
  refine x_getr dX4_setWire_3 fX4_18 rfl rfl (by decide) ?_
  refine x_getv (hn) dX4_setWire_6 fX4_41 rfl rfl (by decide) ?_
  refine x_iconst (v := nI 1) dX4_setWire_9 (by decide) ?_
  refine x_isub dX4_setWire_10 ?_
  refine xis4_3 dX4_setWire_11 rfl ?_
  have key : ∀ i, i ≤ n → ∀ N, Fr M N [15] → (∀ r, n - i ≤ r → r < n → N.1 15 r = nI (w r)) → X E d RX4 cX4_setWire 4 C 12 [some (.ref (ad E 13)), some (.int (nI (fig w n))), some (.int (nI (fig w (n - i)))), some (.int (nI (n - i) - nI 1))] [] N := by
    refine up_loop n ?_ ?_
    · intro N hN hk
      rw [Nat.sub_self]
      have e : (nI 0 - nI 1).toInt = -1 := by decide
      refine x_iload_n dX4_setWire_12 rfl rfl ?_
      refine x_if_lt (tgt := 37) dX4_setWire_13 (by decide) (fun hc => ?_) (fun hc => ?_)
      · exact hR _ _ _ dX4_setWire_37 (⟨hN, fun r hr => hk r (by omega) hr⟩)
      · rw [Int32.lt_iff_toInt_lt, e, Int32.toInt_zero] at hc
        exact absurd hc (by decide)
    · intro i hi ih N hN hk
      have e1 : n - i = (n - (i + 1)) + 1 := by omega
      have hwr := hw (n - (i + 1)) (by omega)
      have hlt := fig_lt (w := w) (n := n - i) (fun r hr => hw r (by omega))
      have h10 := p10 (show n - i ≤ 5 by omega)
      rw [e1, pk_sub (show 1 ≤ n - (i + 1) + 1 by omega), Nat.add_sub_cancel] at *
      refine x_iload_n dX4_setWire_12 rfl rfl ?_
      refine x_if_ltN (tgt := 37) dX4_setWire_13 (by decide) (by omega) ?_
      refine x_aload_n dX4_setWire_16 rfl rfl ?_
      refine x_getr dX4_setWire_17 fX4_15 rfl rfl (by decide) ?_
      refine x_iload_n dX4_setWire_20 rfl rfl ?_
      refine x_iload_n dX4_setWire_21 rfl rfl ?_
      refine x_bipush (v := nI 10) dX4_setWire_22 (by decide) ?_
      refine x_iremN dX4_setWire_24 (by omega) (by omega) (by omega) ?_
      refine x_iastN dX4_setWire_25 rfl (by decide) (by omega) (by decide) ?_
      refine x_iload_n dX4_setWire_26 rfl rfl ?_
      refine x_bipush (v := nI 10) dX4_setWire_27 (by decide) ?_
      refine x_idivN dX4_setWire_29 (by omega) (by omega) (by omega) ?_
      refine xis4_2 dX4_setWire_30 rfl ?_
      refine xinc4_3_m1 dX4_setWire_31 rfl ?_
      refine x_goto (tgt := 12) dX4_setWire_34 (by decide) ?_
      rw [fig_mod hwr, fig_div hwr, sub1]
      refine ih _ (hN.sa (by decide)) (fun r h1 h2 => ?_)
      rw [sa_1]
      by_cases e : r = n - (i + 1)
      · rw [e, pk_us]
      · rw [pk_un e]; exact hk r (by omega) h2
  exact key 0 (by omega) M Fr.rf (fun r h1 h2 => absurd h1 (by omega))
set_option maxHeartbeats 8000000 in
theorem k_slipCount_13 (E : Ev) (d : Nat) (M : PM) (n : Nat) (q w : Nat → Nat) (hn : M.1 3 5 = nI n) (h : Tb M 13 n q w) : Ci E d mX4_slipCount [.ref (ad E 13)] M (fun v N => v = nI (slp w n) ∧ M = N) := by
  have hn5 := h.1
  refine Ct.ofi [some (.ref (ad E 13)), none, none] (own := RX4) rfl (by decide) (Nat.le_of_ble_eq_true rfl) rfl (fun C hR => ?_)
  refine x_iconst (v := nI 0) dX4_slipCount_0 (by decide) ?_
  refine xis3_1 dX4_slipCount_1 rfl ?_
  refine x_iconst (v := nI 1) dX4_slipCount_2 (by decide) ?_
  refine xis3_2 dX4_slipCount_3 rfl ?_
  by_cases h0 : n = 0
  · refine x_iload_n dX4_slipCount_4 rfl rfl ?_
    refine x_aload_n dX4_slipCount_5 rfl rfl ?_
    refine x_getr dX4_slipCount_6 fX4_18 rfl rfl (by decide) ?_
    refine x_getv (hn) dX4_slipCount_9 fX4_41 rfl rfl (by decide) ?_
    refine x_icmp_geN (tgt := 41) dX4_slipCount_12 (by decide) (by omega) (by omega) (fun hc => ?_) (fun hc => ?_)
    · refine x_iload_n dX4_slipCount_41 rfl rfl ?_
      exact hR _ _ _ _ dX4_slipCount_42 (⟨by rw [h0]; rfl, rfl⟩)
    · exact absurd hc (by omega)
  have key : ∀ r, r ≤ n - 1 → X E d RX4 cX4_slipCount 3 C 4 [some (.ref (ad E 13)), some (.int (nI (fb_sm (fun r => if w (r + 1) ≠ w r then 1 else 0) r))), some (.int (nI (r + 1)))] [] M := by
    refine up_loop (n - 1) ?_ ?_
    · refine x_iload_n dX4_slipCount_4 rfl rfl ?_
      refine x_aload_n dX4_slipCount_5 rfl rfl ?_
      refine x_getr dX4_slipCount_6 fX4_18 rfl rfl (by decide) ?_
      refine x_getv (hn) dX4_slipCount_9 fX4_41 rfl rfl (by decide) ?_
      refine x_icmp_geN (tgt := 41) dX4_slipCount_12 (by decide) (by omega) (by omega) (fun hc => ?_) (fun hc => ?_)
      · refine x_iload_n dX4_slipCount_41 rfl rfl ?_
        exact hR _ _ _ _ dX4_slipCount_42 (⟨rfl, rfl⟩)
      · exact absurd hc (by omega)
    · intro r hr ih
      have h1 := h.2.2 r (by omega)
      have h2 := h.2.2 (r + 1) (by omega)
      refine x_iload_n dX4_slipCount_4 rfl rfl ?_
      refine x_aload_n dX4_slipCount_5 rfl rfl ?_
      refine x_getr dX4_slipCount_6 fX4_18 rfl rfl (by decide) ?_
      refine x_getv (hn) dX4_slipCount_9 fX4_41 rfl rfl (by decide) ?_
      refine x_icmp_geN (tgt := 41) dX4_slipCount_12 (by decide) (by omega) (by omega) (fun hc => ?_) (fun hc => ?_)
      · exact absurd hc (by omega)
      refine x_aload_n dX4_slipCount_15 rfl rfl ?_
      refine x_getr dX4_slipCount_16 fX4_15 rfl rfl (by decide) ?_
      refine x_iload_n dX4_slipCount_19 rfl rfl ?_
      refine x_ialdN dX4_slipCount_20 rfl (by decide) (by omega) (by decide) (h2.1) ?_
      refine x_aload_n dX4_slipCount_21 rfl rfl ?_
      refine x_getr dX4_slipCount_22 fX4_15 rfl rfl (by decide) ?_
      refine x_iload_n dX4_slipCount_25 rfl rfl ?_
      refine x_iconst (v := nI 1) dX4_slipCount_26 (by decide) ?_
      refine x_isubN dX4_slipCount_27 (by omega) ?_
      refine x_ialdN dX4_slipCount_28 rfl (by decide) (by omega) (by decide) (h1.1) ?_
      rw [fb_sm_succ] at ih
      refine x_icmp_eqN (tgt := 35) dX4_slipCount_29 (by decide) (by omega) (by omega) (fun hc => ?_) (fun hc => ?_)
      · refine xinc3_2N dX4_slipCount_35 rfl ?_
        refine x_goto (tgt := 4) dX4_slipCount_38 (by decide) ?_
        rw [if_neg (fun e => e hc), Nat.add_zero] at ih
        exact ih
      · refine xinc3_1N dX4_slipCount_32 rfl ?_
        refine xinc3_2N dX4_slipCount_35 rfl ?_
        refine x_goto (tgt := 4) dX4_slipCount_38 (by decide) ?_
        rw [if_pos hc] at ih
        exact ih
  exact key 0 (by omega)
set_option maxHeartbeats 8000000 in
theorem k_isNear_13 (E : Ev) (d : Nat) (M : PM) (n : Nat) (q w : Nat → Nat) (y p : Int32) (hn : M.1 3 5 = nI n) (h : Tb M 13 n q w) (hp0 : -10 ≤ p.toInt) (hp1 : p.toInt ≤ 10) : Ci E (d + 1) mX4_isNear [.ref (ad E 13), .int y, .int p] M (fun v N => v = bI (decide (¬ inR y n ∨ (-1 ≤ p.toInt - (w (tn y) : Int) ∧ p.toInt - (w (tn y) : Int) ≤ 1))) ∧ M = N) := by
  have hn5 := h.1
  have en : (nI n).toInt = (n : Int) := nI_toInt (by omega)
  refine Ct.ofz [some (.ref (ad E 13)), some (.int y), some (.int p)] (own := RX4) rfl (by decide) (Nat.le_of_ble_eq_true rfl) rfl (fun C hR => ?_)
  have yes : (¬ inR y n ∨ (-1 ≤ p.toInt - (w (tn y) : Int) ∧ p.toInt - (w (tn y) : Int) ≤ 1)) → X E (d + 1) RX4 cX4_isNear 3 C 30 [some (.ref (ad E 13)), some (.int y), some (.int p)] [] M := by
    intro e
    refine x_iconst (v := nI 1) dX4_isNear_30 (by decide) ?_
    refine x_goto (tgt := 35) dX4_isNear_31 (by decide) ?_
    exact hR _ _ _ _ dX4_isNear_35 (by first | exact bI_n _ | decide) (⟨(dec_t e).symm, rfl⟩)
  refine x_iload_n dX4_isNear_0 rfl rfl ?_
  refine x_if_lt (tgt := 30) dX4_isNear_1 (by decide) (fun hc => ?_) (fun hc => ?_)
  · rw [Int32.lt_iff_toInt_lt, Int32.toInt_zero] at hc
    exact yes (Or.inl (by omega))
  rw [Int32.lt_iff_toInt_lt, Int32.toInt_zero] at hc
  have hlo := hc
  refine x_iload_n dX4_isNear_4 rfl rfl ?_
  refine x_aload_n dX4_isNear_5 rfl rfl ?_
  refine x_getr dX4_isNear_6 fX4_18 rfl rfl (by decide) ?_
  refine x_getv (hn) dX4_isNear_9 fX4_41 rfl rfl (by decide) ?_
  refine x_icmp_ge (tgt := 30) dX4_isNear_12 (by decide) (fun hc => ?_) (fun hc => ?_)
  · rw [Int32.le_iff_toInt_le, en] at hc
    exact yes (Or.inl (by omega))
  rw [Int32.le_iff_toInt_le, en] at hc
  rcases ixc y n (by omega) with ⟨j, hj, rfl, _⟩ | hj
  rotate_left
  · exact absurd (by omega) hj
  rw [tn_nI (by omega)] at yes hR
  have hwj := h.2.2 j hj
  have ew : (nI (w j)).toInt = (w j : Int) := nI_toInt (by omega)
  have es : (nI (w j) - p).toInt = (w j : Int) - p.toInt := by rw [fb_subI (by omega) (by omega), ew]
  have e1 : (nI 1).toInt = 1 := by decide
  refine x_aload_n dX4_isNear_15 rfl rfl ?_
  refine x_getr dX4_isNear_16 fX4_15 rfl rfl (by decide) ?_
  refine x_iload_n dX4_isNear_19 rfl rfl ?_
  refine x_ialdN dX4_isNear_20 rfl (by decide) (by omega) (by decide) (hwj.1) ?_
  refine x_iload_n dX4_isNear_21 rfl rfl ?_
  refine x_isub dX4_isNear_22 ?_
  refine x_mabs dX4_isNear_23 kX4_62 (by omega) (Nat.le_of_ble_eq_true rfl) ?_
  refine x_iconst (v := nI 1) dX4_isNear_26 (by decide) ?_
  have ea : (if 0 ≤ nI (w j) - p then nI (w j) - p else 0 - (nI (w j) - p)).toInt = if 0 ≤ (w j : Int) - p.toInt then (w j : Int) - p.toInt else p.toInt - (w j : Int) := by
    by_cases z : 0 ≤ nI (w j) - p
    · rw [if_pos z]
      rw [Int32.le_iff_toInt_le, es, Int32.toInt_zero] at z
      rw [if_pos z, es]
    · rw [if_neg z]
      rw [Int32.le_iff_toInt_le, es, Int32.toInt_zero] at z
      rw [if_neg z, fb_subI (by rw [Int32.toInt_zero, es]; omega) (by rw [Int32.toInt_zero, es]; omega), Int32.toInt_zero, es]
      omega
  refine x_icmp_gt (tgt := 34) dX4_isNear_27 (by decide) (fun hc => ?_) (fun hc => ?_)
  · rw [Int32.lt_iff_toInt_lt, e1, ea] at hc
    refine x_iconst (v := nI 0) dX4_isNear_34 (by decide) ?_
    refine hR _ _ _ _ dX4_isNear_35 (by decide) ⟨(dec_f ?_).symm, rfl⟩
    rintro (z | z)
    · exact z (inR_nI hj (by omega))
    · split at hc <;> omega
  · rw [Int32.lt_iff_toInt_lt, e1, ea] at hc
    exact yes (Or.inr (by split at hc <;> omega))
set_option maxHeartbeats 8000000 in
theorem k_moveWire_13 (E : Ev) (d : Nat) (M : PM) (n r a : Nat) (q w : Nat → Nat) (hn : M.1 3 5 = nI n) (h : Tb M 13 n q w) (hr9 : r < 100) (ha : a < 2) : Ci E (d + 2) mX4_moveWire [.ref (ad E 13), .int (nI r), .int (nI a)] M (fun v N => (¬ (r < n ∧ cdw w n r (dt w r a) = true) → v = bI false ∧ M = N) ∧ (r < n ∧ cdw w n r (dt w r a) = true → v = bI true ∧ Fr M N [15] ∧ Tb N 13 n q (nw w r a))) := by
  have hn5 := h.1
  refine Ct.ofz [some (.ref (ad E 13)), some (.int (nI r)), some (.int (nI a)), none] (own := RX4) rfl (by decide) (Nat.le_of_ble_eq_true rfl) rfl (fun C hR => ?_)
  refine x_iload_n dX4_moveWire_0 rfl rfl ?_
  refine x_if_ltN (tgt := 15) dX4_moveWire_1 (by decide) (by omega) ?_
  refine x_iload_n dX4_moveWire_4 rfl rfl ?_
  refine x_aload_n dX4_moveWire_5 rfl rfl ?_
  refine x_getr dX4_moveWire_6 fX4_18 rfl rfl (by decide) ?_
  refine x_getv (hn) dX4_moveWire_9 fX4_41 rfl rfl (by decide) ?_
  refine x_icmp_ltN (tgt := 17) dX4_moveWire_12 (by decide) (by omega) (by omega) (fun hc => ?_) (fun hc => ?_)
  rotate_left
  · refine x_iconst (v := nI 0) dX4_moveWire_15 (by decide) ?_
    exact hR _ _ _ _ dX4_moveWire_16 (by decide) ⟨fun _ => ⟨rfl, rfl⟩, fun e => absurd e.1 (by omega)⟩
  have hr : r < n := hc
  have hwr := h.2.2 r hr
  have cont : ∀ t : Int32, t.toInt = dt w r a → X E (d + 2) RX4 cX4_moveWire 4 C 42 [some (.ref (ad E 13)), some (.int (nI r)), some (.int (nI a)), some (.int t)] [] M := by
    intro t ht
    have hdt : -1 ≤ t.toInt ∧ t.toInt ≤ 6 := by rw [ht]; unfold dt; split <;> omega
    have e5 : (nI 5).toInt = 5 := by decide
    have ecd : cdw w n r (dt w r a) = true ↔ (0 ≤ t.toInt ∧ t.toInt ≤ 5 ∧ (r = 0 ∨ (-1 ≤ t.toInt - (w (r - 1) : Int) ∧ t.toInt - (w (r - 1) : Int) ≤ 1)) ∧ (r + 1 = n ∨ (-1 ≤ t.toInt - (w (r + 1) : Int) ∧ t.toInt - (w (r + 1) : Int) ≤ 1))) := by
      rw [← ht]; unfold cdw; exact decide_eq_true_iff
    have no : ¬ (cdw w n r (dt w r a) = true) → X E (d + 2) RX4 cX4_moveWire 4 C 73 [some (.ref (ad E 13)), some (.int (nI r)), some (.int (nI a)), some (.int t)] [] M := by
      intro e
      refine x_iconst (v := nI 0) dX4_moveWire_73 (by decide) ?_
      exact hR _ _ _ _ dX4_moveWire_74 (by decide) ⟨fun _ => ⟨rfl, rfl⟩, fun z => absurd z.2 e⟩
    refine x_iload_n dX4_moveWire_42 rfl rfl ?_
    refine x_if_lt (tgt := 73) dX4_moveWire_43 (by decide) (fun hc => ?_) (fun hc => ?_)
    · rw [Int32.lt_iff_toInt_lt, Int32.toInt_zero] at hc
      exact no (fun z => by have := ecd.mp z; omega)
    rw [Int32.lt_iff_toInt_lt, Int32.toInt_zero] at hc
    have g1 := hc
    refine x_iload_n dX4_moveWire_46 rfl rfl ?_
    refine x_iconst (v := nI 5) dX4_moveWire_47 (by decide) ?_
    refine x_icmp_gt (tgt := 73) dX4_moveWire_48 (by decide) (fun hc => ?_) (fun hc => ?_)
    · rw [Int32.lt_iff_toInt_lt, e5] at hc
      exact no (fun z => by have := ecd.mp z; omega)
    rw [Int32.lt_iff_toInt_lt, e5] at hc
    have g2 := hc
    have em : (nI r - nI 1).toInt = (r : Int) - 1 := pk_sub_toInt (by omega) (by omega)
    have ep : (nI (r + 1)).toInt = ((r + 1 : Nat) : Int) := nI_toInt (by omega)
    have etm : 1 ≤ r → tn (nI r - nI 1) = r - 1 := by intro z; rw [pk_sub z, tn_nI (by omega)]
    have etp : tn (nI (r + 1)) = r + 1 := tn_nI (by omega)
    refine x_aload_n dX4_moveWire_51 rfl rfl ?_
    refine x_iload_n dX4_moveWire_52 rfl rfl ?_
    refine x_iconst (v := nI 1) dX4_moveWire_53 (by decide) ?_
    refine x_isub dX4_moveWire_54 ?_
    refine x_iload_n dX4_moveWire_55 rfl rfl ?_
    refine x_callVi dX4_moveWire_56 mvX4_isNear kX4_59 (k_isNear_13 E d M n q w _ t hn h (by omega) (by omega)) rfl (by decide) (by omega) rfl rfl (Nat.le_of_ble_eq_true rfl) ?_
    rintro _ _ ⟨rfl, rfl⟩
    refine x_if_eqB (tgt := 73) dX4_moveWire_59 (by decide) (fun hc => ?_) (fun hc => ?_)
    · have z := of_decide_eq_false hc
      refine no (fun e => z ?_)
      rcases (ecd.mp e).2.2.1 with e | e
      · exact Or.inl (by omega)
      · by_cases z0 : r = 0
        · exact Or.inl (by omega)
        · exact Or.inr (by rw [etm (by omega)]; exact e)
    have z1 := of_decide_eq_true hc
    refine x_aload_n dX4_moveWire_62 rfl rfl ?_
    refine x_iload_n dX4_moveWire_63 rfl rfl ?_
    refine x_iconst (v := nI 1) dX4_moveWire_64 (by decide) ?_
    refine x_iaddN dX4_moveWire_65 ?_
    refine x_iload_n dX4_moveWire_66 rfl rfl ?_
    refine x_callVi dX4_moveWire_67 mvX4_isNear kX4_59 (k_isNear_13 E d M n q w _ t hn h (by omega) (by omega)) rfl (by decide) (by omega) rfl rfl (Nat.le_of_ble_eq_true rfl) ?_
    rintro _ _ ⟨rfl, rfl⟩
    refine x_if_neB (tgt := 75) dX4_moveWire_70 (by decide) (fun hc => ?_) (fun hc => ?_)
    rotate_left
    · have z := of_decide_eq_false hc
      refine x_iconst (v := nI 0) dX4_moveWire_73 (by decide) ?_
      refine hR _ _ _ _ dX4_moveWire_74 (by decide) ⟨fun _ => ⟨rfl, rfl⟩, fun y => absurd ?_ z⟩
      rcases (ecd.mp y.2).2.2.2 with e | e
      · exact Or.inl (by omega)
      · by_cases z0 : r + 1 = n
        · exact Or.inl (by omega)
        · exact Or.inr (by rw [etp]; exact e)
    have z2 := of_decide_eq_true hc
    have hcd : cdw w n r (dt w r a) = true := by
      refine ecd.mpr ⟨by omega, by omega, ?_, ?_⟩
      · by_cases z0 : r = 0
        · exact Or.inl z0
        · rw [etm (by omega)] at z1
          rcases z1 with z1 | z1
          · exact absurd (by omega) z1
          · exact Or.inr z1
      · by_cases z0 : r + 1 = n
        · exact Or.inl z0
        · rw [etp] at z2
          rcases z2 with z2 | z2
          · exact absurd (by omega) z2
          · exact Or.inr z2
    refine x_aload_n dX4_moveWire_75 rfl rfl ?_
    refine x_getr dX4_moveWire_76 fX4_15 rfl rfl (by decide) ?_
    refine x_iload_n dX4_moveWire_79 rfl rfl ?_
    refine x_iload_n dX4_moveWire_80 rfl rfl ?_
    refine x_iastN dX4_moveWire_81 rfl (by decide) (by omega) (by decide) ?_
    refine x_iconst (v := nI 1) dX4_moveWire_82 (by decide) ?_
    refine hR _ _ _ _ dX4_moveWire_83 (by decide) ⟨fun e => absurd ⟨hr, hcd⟩ e, fun _ => ⟨rfl, Fr.rf.sa (by decide), hn5, fun r' c' hr' hc' => ?_, fun r' hr' => ?_⟩⟩
    · rw [sa_ne (by decide)]; exact h.2.1 r' c' hr' hc'
    · rw [sa_1]
      unfold nw
      by_cases e : r' = r
      · rw [e, pk_us, if_pos rfl]
        exact ⟨nI_back (by omega), by omega⟩
      · rw [pk_un e, if_neg e]; exact h.2.2 r' hr'
  refine x_iload_n dX4_moveWire_17 rfl rfl ?_
  refine x_iconst (v := nI 1) dX4_moveWire_18 (by decide) ?_
  rcases (show a = 0 ∨ a = 1 by omega) with rfl | rfl
  · refine x_icmp_neN (tgt := 33) dX4_moveWire_19 (by decide) (by omega) (by omega) (fun hc => ?_) (fun hc => ?_)
    · refine x_aload_n dX4_moveWire_33 rfl rfl ?_
      refine x_getr dX4_moveWire_34 fX4_15 rfl rfl (by decide) ?_
      refine x_iload_n dX4_moveWire_37 rfl rfl ?_
      refine x_ialdN dX4_moveWire_38 rfl (by decide) (by omega) (by decide) (hwr.1) ?_
      refine x_iconst (v := nI 1) dX4_moveWire_39 (by decide) ?_
      refine x_isub dX4_moveWire_40 ?_
      refine xis4_3 dX4_moveWire_41 rfl ?_
      exact cont _ (by rw [pk_sub_toInt (by omega) (by omega)]; rfl)
    · exact absurd hc (by decide)
  · refine x_icmp_neN (tgt := 33) dX4_moveWire_19 (by decide) (by omega) (by omega) (fun hc => ?_) (fun hc => ?_)
    · exact absurd rfl hc
    · refine x_aload_n dX4_moveWire_22 rfl rfl ?_
      refine x_getr dX4_moveWire_23 fX4_15 rfl rfl (by decide) ?_
      refine x_iload_n dX4_moveWire_26 rfl rfl ?_
      refine x_ialdN dX4_moveWire_27 rfl (by decide) (by omega) (by decide) (hwr.1) ?_
      refine x_iconst (v := nI 1) dX4_moveWire_28 (by decide) ?_
      refine x_iaddN dX4_moveWire_29 ?_
      refine x_goto (tgt := 41) dX4_moveWire_30 (by decide) ?_
      refine xis4_3 dX4_moveWire_41 rfl ?_
      exact cont _ (by rw [nI_toInt (by omega)]; rfl)
set_option maxHeartbeats 8000000 in
theorem k_swapAtWire_13 (E : Ev) (d : Nat) (M : PM) (n : Nat) (q w : Nat → Nat) (y : Int32) (hn : M.1 3 5 = nI n) (h : Tb M 13 n q w) : Ci E d mX4_swapAtWire [.ref (ad E 13), .int y] M (fun v N => (¬ (inR y n ∧ 1 ≤ w (tn y) ∧ w (tn y) ≤ 4) → v = bI false ∧ M = N) ∧ (inR y n ∧ 1 ≤ w (tn y) ∧ w (tn y) ≤ 4 → v = bI true ∧ Fr M N [14] ∧ Tb N 13 n (swq q (5 * tn y + w (tn y))) w)) := by
  have hn5 := h.1
  have en : (nI n).toInt = (n : Int) := nI_toInt (by omega)
  refine Ct.ofz [some (.ref (ad E 13)), some (.int y), none, none] (own := RX4) rfl (by decide) (Nat.le_of_ble_eq_true rfl) rfl (fun C hR => ?_)
  have no : ¬ (inR y n ∧ 1 ≤ w (tn y) ∧ w (tn y) ≤ 4) → X E d RX4 cX4_swapAtWire 4 C 35 [some (.ref (ad E 13)), some (.int y), none, none] [] M := by
    intro e
    refine x_iconst (v := nI 0) dX4_swapAtWire_35 (by decide) ?_
    exact hR _ _ _ _ dX4_swapAtWire_36 (by decide) ⟨fun _ => ⟨rfl, rfl⟩, fun z => absurd z e⟩
  refine x_iload_n dX4_swapAtWire_0 rfl rfl ?_
  refine x_if_lt (tgt := 35) dX4_swapAtWire_1 (by decide) (fun hc => ?_) (fun hc => ?_)
  · rw [Int32.lt_iff_toInt_lt, Int32.toInt_zero] at hc
    exact no (fun z => by have := z.1; omega)
  rw [Int32.lt_iff_toInt_lt, Int32.toInt_zero] at hc
  have hlo := hc
  refine x_iload_n dX4_swapAtWire_4 rfl rfl ?_
  refine x_aload_n dX4_swapAtWire_5 rfl rfl ?_
  refine x_getr dX4_swapAtWire_6 fX4_18 rfl rfl (by decide) ?_
  refine x_getv (hn) dX4_swapAtWire_9 fX4_41 rfl rfl (by decide) ?_
  refine x_icmp_ge (tgt := 35) dX4_swapAtWire_12 (by decide) (fun hc => ?_) (fun hc => ?_)
  · rw [Int32.le_iff_toInt_le, en] at hc
    exact no (fun z => by have := z.1; omega)
  rw [Int32.le_iff_toInt_le, en] at hc
  rcases ixc y n (by omega) with ⟨r, hr, rfl, _⟩ | hj
  rotate_left
  · exact absurd (by omega) hj
  rw [tn_nI (by omega)] at no hR
  have hwr := h.2.2 r hr
  refine x_aload_n dX4_swapAtWire_15 rfl rfl ?_
  refine x_getr dX4_swapAtWire_16 fX4_15 rfl rfl (by decide) ?_
  refine x_iload_n dX4_swapAtWire_19 rfl rfl ?_
  refine x_ialdN dX4_swapAtWire_20 rfl (by decide) (by omega) (by decide) (hwr.1) ?_
  refine x_iconst (v := nI 1) dX4_swapAtWire_21 (by decide) ?_
  refine x_icmp_ltN (tgt := 35) dX4_swapAtWire_22 (by decide) (by omega) (by omega) (fun hc => ?_) (fun hc => ?_)
  · exact no (fun z => by have := z.2; omega)
  have g1 := hc
  refine x_aload_n dX4_swapAtWire_25 rfl rfl ?_
  refine x_getr dX4_swapAtWire_26 fX4_15 rfl rfl (by decide) ?_
  refine x_iload_n dX4_swapAtWire_29 rfl rfl ?_
  refine x_ialdN dX4_swapAtWire_30 rfl (by decide) (by omega) (by decide) (hwr.1) ?_
  refine x_iconst (v := nI 5) dX4_swapAtWire_31 (by decide) ?_
  refine x_icmp_ltN (tgt := 37) dX4_swapAtWire_32 (by decide) (by omega) (by omega) (fun hc => ?_) (fun hc => ?_)
  rotate_left
  · refine x_iconst (v := nI 0) dX4_swapAtWire_35 (by decide) ?_
    exact hR _ _ _ _ dX4_swapAtWire_36 (by decide) ⟨fun _ => ⟨rfl, rfl⟩, fun z => absurd z.2 (by omega)⟩
  refine x_iload_n dX4_swapAtWire_37 rfl rfl ?_
  refine x_iconst (v := nI 5) dX4_swapAtWire_38 (by decide) ?_
  refine x_imulN dX4_swapAtWire_39 ?_
  refine x_aload_n dX4_swapAtWire_40 rfl rfl ?_
  refine x_getr dX4_swapAtWire_41 fX4_15 rfl rfl (by decide) ?_
  refine x_iload_n dX4_swapAtWire_44 rfl rfl ?_
  refine x_ialdN dX4_swapAtWire_45 rfl (by decide) (by omega) (by decide) (hwr.1) ?_
  refine x_iaddN dX4_swapAtWire_46 ?_
  refine xis4_2 dX4_swapAtWire_47 rfl ?_
  refine x_aload_n dX4_swapAtWire_48 rfl rfl ?_
  refine x_getr dX4_swapAtWire_49 fX4_9 rfl rfl (by decide) ?_
  refine x_iload_n dX4_swapAtWire_52 rfl rfl ?_
  refine x_ialdN dX4_swapAtWire_53 rfl (by decide) (by omega) (by decide) (rfl) ?_
  refine xis4_3 dX4_swapAtWire_54 rfl ?_
  refine x_aload_n dX4_swapAtWire_55 rfl rfl ?_
  refine x_getr dX4_swapAtWire_56 fX4_9 rfl rfl (by decide) ?_
  refine x_iload_n dX4_swapAtWire_59 rfl rfl ?_
  refine x_aload_n dX4_swapAtWire_60 rfl rfl ?_
  refine x_getr dX4_swapAtWire_61 fX4_9 rfl rfl (by decide) ?_
  refine x_iload_n dX4_swapAtWire_64 rfl rfl ?_
  refine x_iconst (v := nI 1) dX4_swapAtWire_65 (by decide) ?_
  refine x_isubN dX4_swapAtWire_66 (by omega) ?_
  refine x_ialdN dX4_swapAtWire_67 rfl (by decide) (by omega) (by decide) (rfl) ?_
  refine x_iastN dX4_swapAtWire_68 rfl (by decide) (by omega) (by decide) ?_
  refine x_aload_n dX4_swapAtWire_69 rfl rfl ?_
  refine x_getr dX4_swapAtWire_70 fX4_9 rfl rfl (by decide) ?_
  refine x_iload_n dX4_swapAtWire_73 rfl rfl ?_
  refine x_iconst (v := nI 1) dX4_swapAtWire_74 (by decide) ?_
  refine x_isubN dX4_swapAtWire_75 (by omega) ?_
  refine x_iload_n dX4_swapAtWire_76 rfl rfl ?_
  refine x_iastN dX4_swapAtWire_77 rfl (by decide) (by omega) (by decide) ?_
  refine x_iconst (v := nI 1) dX4_swapAtWire_78 (by decide) ?_
  rw [sa_sa, sa_1]
  refine hR _ _ _ _ dX4_swapAtWire_79 (by decide) ⟨fun e => absurd ⟨inR_nI hr (by omega), by omega, by omega⟩ e, fun _ => ⟨rfl, Fr.rf.sa (by decide), hn5, fun r' c' hr' hc' => ?_, fun r' hr' => ?_⟩⟩
  · have hx := h.2.1 r' c' hr' hc'
    have ha := h.2.1 r (w r) hr (by omega)
    have hb := h.2.1 r (w r - 1) hr (by omega)
    rw [show 5 * r + (w r - 1) = 5 * r + w r - 1 by omega] at hb
    rw [show r * 5 + (w r - 1) = r * 5 + w r - 1 by omega] at hb
    rw [sa_1]
    unfold swq
    by_cases e1 : 5 * r' + c' = 5 * r + w r
    · rw [if_pos e1, pk_un (by omega), show r' * 5 + c' = r * 5 + w r by omega, pk_us]
      exact hb
    · by_cases e2 : 5 * r' + c' = 5 * r + w r - 1
      · rw [if_neg e1, if_pos e2, show r' * 5 + c' = r * 5 + w r - 1 by omega, pk_us]
        exact ha
      · rw [if_neg e1, if_neg e2, pk_un (by omega), pk_un (by omega)]
        exact hx
  · rw [sa_ne (by decide)]; exact h.2.2 r' hr'
set_option maxHeartbeats 8000000 in
theorem k_joinFaces_13 (E : Ev) (d : Nat) (M : PM) (n : Nat) (q w : Nat → Nat) (hn : M.1 3 5 = nI n) (h : Tb M 13 n q w) : Cv E (d + 1) mX4_joinFaces [.ref (ad E 13)] M (fun N => Fr M N [13, 15] ∧ N.1 13 3 = M.1 13 3 + nI (slp w n) ∧ Tb N 13 n q (fun _ => 2)) := by
  have hn5 := h.1
  refine Ct.ofv [some (.ref (ad E 13))] (own := RX4) rfl (by decide) (Nat.le_of_ble_eq_true rfl) rfl (fun C hR => ?_)
  refine x_aload_n dX4_joinFaces_0 rfl rfl ?_
  refine x_dup dX4_joinFaces_1 rfl ?_
  refine x_geti dX4_joinFaces_2 fX4_37 rfl rfl (by decide) ?_
  refine x_aload_n dX4_joinFaces_5 rfl rfl ?_
  refine x_callVi dX4_joinFaces_6 mvX4_slipCount kX4_68 (k_slipCount_13 E d M n q w hn h) rfl (by decide) (by omega) rfl rfl (Nat.le_of_ble_eq_true rfl) ?_
  rintro _ _ ⟨rfl, rfl⟩
  refine x_iadd dX4_joinFaces_9 ?_
  refine x_put dX4_joinFaces_10 pX4_37 rfl rfl (by decide) rfl rfl ?_
  refine x_aload_n dX4_joinFaces_13 rfl rfl ?_
  refine x_getr dX4_joinFaces_14 fX4_15 rfl rfl (by decide) ?_
  refine x_iconst (v := nI 2) dX4_joinFaces_17 (by decide) ?_
  refine x_callSv dX4_joinFaces_18 msJ7_fill_53178 kX4_31 (c_fill E d _ 15 5 (nI 2) rfl (by decide) (by decide)) (by omega) rfl rfl (Nat.le_of_ble_eq_true rfl) ?_
  rintro _ rfl
  refine hR _ _ _ dX4_joinFaces_21 ⟨(Fr.rf.sa (by decide)).sa (by decide), ?_, hn5, fun r c hr hc => ?_, fun r hr => ⟨?_, Nat.le_of_ble_eq_true rfl⟩⟩
  · rw [sa_ne (by decide), sa_1, pk_us]
  · rw [sa_ne (by decide), sa_ne (by decide)]; exact h.2.1 r c hr hc
  · rw [sa_1, fa_fill_in (by omega)]
set_option maxHeartbeats 8000000 in
theorem k_wireNumber_16 (E : Ev) (d : Nat) (M : PM) (n : Nat) (q w : Nat → Nat) (hn : M.1 3 5 = nI n) (h : Tb M 16 n q w) : Ci E (d + 1) mX4_wireNumber [.ref (ad E 16)] M (fun v N => v = nI (fig w n) ∧ M = N) := by
  refine Ct.ofi [some (.ref (ad E 16))] (own := RX4) rfl (by decide) (Nat.le_of_ble_eq_true rfl) rfl (fun C hR => ?_)
  refine x_aload_n dX4_wireNumber_0 rfl rfl ?_
  refine x_getr dX4_wireNumber_1 fX4_15 rfl rfl (by decide) ?_
  refine x_aload_n dX4_wireNumber_4 rfl rfl ?_
  refine x_getr dX4_wireNumber_5 fX4_18 rfl rfl (by decide) ?_
  refine x_getv (hn) dX4_wireNumber_8 fX4_41 rfl rfl (by decide) ?_
  refine x_callSi dX4_wireNumber_11 msX8_figuresOf kX4_44 (k_figuresOf E d M 18 n w rfl (by decide) h.1 (fun r hr => (h.2.2 r hr).1)) (by omega) rfl rfl (Nat.le_of_ble_eq_true rfl) ?_
  rintro _ _ ⟨rfl, rfl⟩
  exact hR _ _ _ _ dX4_wireNumber_14 (⟨rfl, rfl⟩)
set_option maxHeartbeats 8000000 in
theorem k_setWire_16 (E : Ev) (d : Nat) (M : PM) (n : Nat) (w : Nat → Nat) (hn : M.1 3 5 = nI n) (hn5 : n ≤ 5) (hw : ∀ r, r < n → w r ≤ 5) : Cv E d mX4_setWire [.ref (ad E 16), .int (nI (fig w n))] M (fun N => Fr M N [18] ∧ ∀ r, r < n → N.1 18 r = nI (w r)) := by
  refine Ct.ofv [some (.ref (ad E 16)), some (.int (nI (fig w n))), none, none] (own := RX4) rfl (by decide) (Nat.le_of_ble_eq_true rfl) rfl (fun C hR => ?_)
  refine x_iload_n dX4_setWire_0 rfl rfl ?_
  refine xis4_2 dX4_setWire_1 rfl ?_
  refine x_aload_n dX4_setWire_2 rfl rfl ?_
  refine x_getr dX4_setWire_3 fX4_18 rfl rfl (by decide) ?_
  refine x_getv (hn) dX4_setWire_6 fX4_41 rfl rfl (by decide) ?_
  refine x_iconst (v := nI 1) dX4_setWire_9 (by decide) ?_
  refine x_isub dX4_setWire_10 ?_
  refine xis4_3 dX4_setWire_11 rfl ?_
  have key : ∀ i, i ≤ n → ∀ N, Fr M N [18] → (∀ r, n - i ≤ r → r < n → N.1 18 r = nI (w r)) → X E d RX4 cX4_setWire 4 C 12 [some (.ref (ad E 16)), some (.int (nI (fig w n))), some (.int (nI (fig w (n - i)))), some (.int (nI (n - i) - nI 1))] [] N := by
    refine up_loop n ?_ ?_
    · intro N hN hk
      rw [Nat.sub_self]
      have e : (nI 0 - nI 1).toInt = -1 := by decide
      refine x_iload_n dX4_setWire_12 rfl rfl ?_
      refine x_if_lt (tgt := 37) dX4_setWire_13 (by decide) (fun hc => ?_) (fun hc => ?_)
      · exact hR _ _ _ dX4_setWire_37 (⟨hN, fun r hr => hk r (by omega) hr⟩)
      · rw [Int32.lt_iff_toInt_lt, e, Int32.toInt_zero] at hc
        exact absurd hc (by decide)
    · intro i hi ih N hN hk
      have e1 : n - i = (n - (i + 1)) + 1 := by omega
      have hwr := hw (n - (i + 1)) (by omega)
      have hlt := fig_lt (w := w) (n := n - i) (fun r hr => hw r (by omega))
      have h10 := p10 (show n - i ≤ 5 by omega)
      rw [e1, pk_sub (show 1 ≤ n - (i + 1) + 1 by omega), Nat.add_sub_cancel] at *
      refine x_iload_n dX4_setWire_12 rfl rfl ?_
      refine x_if_ltN (tgt := 37) dX4_setWire_13 (by decide) (by omega) ?_
      refine x_aload_n dX4_setWire_16 rfl rfl ?_
      refine x_getr dX4_setWire_17 fX4_15 rfl rfl (by decide) ?_
      refine x_iload_n dX4_setWire_20 rfl rfl ?_
      refine x_iload_n dX4_setWire_21 rfl rfl ?_
      refine x_bipush (v := nI 10) dX4_setWire_22 (by decide) ?_
      refine x_iremN dX4_setWire_24 (by omega) (by omega) (by omega) ?_
      refine x_iastN dX4_setWire_25 rfl (by decide) (by omega) (by decide) ?_
      refine x_iload_n dX4_setWire_26 rfl rfl ?_
      refine x_bipush (v := nI 10) dX4_setWire_27 (by decide) ?_
      refine x_idivN dX4_setWire_29 (by omega) (by omega) (by omega) ?_
      refine xis4_2 dX4_setWire_30 rfl ?_
      refine xinc4_3_m1 dX4_setWire_31 rfl ?_
      refine x_goto (tgt := 12) dX4_setWire_34 (by decide) ?_
      rw [fig_mod hwr, fig_div hwr, sub1]
      refine ih _ (hN.sa (by decide)) (fun r h1 h2 => ?_)
      rw [sa_1]
      by_cases e : r = n - (i + 1)
      · rw [e, pk_us]
      · rw [pk_un e]; exact hk r (by omega) h2
  exact key 0 (by omega) M Fr.rf (fun r h1 h2 => absurd h1 (by omega))
set_option maxHeartbeats 8000000 in
theorem k_slipCount_16 (E : Ev) (d : Nat) (M : PM) (n : Nat) (q w : Nat → Nat) (hn : M.1 3 5 = nI n) (h : Tb M 16 n q w) : Ci E d mX4_slipCount [.ref (ad E 16)] M (fun v N => v = nI (slp w n) ∧ M = N) := by
  have hn5 := h.1
  refine Ct.ofi [some (.ref (ad E 16)), none, none] (own := RX4) rfl (by decide) (Nat.le_of_ble_eq_true rfl) rfl (fun C hR => ?_)
  refine x_iconst (v := nI 0) dX4_slipCount_0 (by decide) ?_
  refine xis3_1 dX4_slipCount_1 rfl ?_
  refine x_iconst (v := nI 1) dX4_slipCount_2 (by decide) ?_
  refine xis3_2 dX4_slipCount_3 rfl ?_
  by_cases h0 : n = 0
  · refine x_iload_n dX4_slipCount_4 rfl rfl ?_
    refine x_aload_n dX4_slipCount_5 rfl rfl ?_
    refine x_getr dX4_slipCount_6 fX4_18 rfl rfl (by decide) ?_
    refine x_getv (hn) dX4_slipCount_9 fX4_41 rfl rfl (by decide) ?_
    refine x_icmp_geN (tgt := 41) dX4_slipCount_12 (by decide) (by omega) (by omega) (fun hc => ?_) (fun hc => ?_)
    · refine x_iload_n dX4_slipCount_41 rfl rfl ?_
      exact hR _ _ _ _ dX4_slipCount_42 (⟨by rw [h0]; rfl, rfl⟩)
    · exact absurd hc (by omega)
  have key : ∀ r, r ≤ n - 1 → X E d RX4 cX4_slipCount 3 C 4 [some (.ref (ad E 16)), some (.int (nI (fb_sm (fun r => if w (r + 1) ≠ w r then 1 else 0) r))), some (.int (nI (r + 1)))] [] M := by
    refine up_loop (n - 1) ?_ ?_
    · refine x_iload_n dX4_slipCount_4 rfl rfl ?_
      refine x_aload_n dX4_slipCount_5 rfl rfl ?_
      refine x_getr dX4_slipCount_6 fX4_18 rfl rfl (by decide) ?_
      refine x_getv (hn) dX4_slipCount_9 fX4_41 rfl rfl (by decide) ?_
      refine x_icmp_geN (tgt := 41) dX4_slipCount_12 (by decide) (by omega) (by omega) (fun hc => ?_) (fun hc => ?_)
      · refine x_iload_n dX4_slipCount_41 rfl rfl ?_
        exact hR _ _ _ _ dX4_slipCount_42 (⟨rfl, rfl⟩)
      · exact absurd hc (by omega)
    · intro r hr ih
      have h1 := h.2.2 r (by omega)
      have h2 := h.2.2 (r + 1) (by omega)
      refine x_iload_n dX4_slipCount_4 rfl rfl ?_
      refine x_aload_n dX4_slipCount_5 rfl rfl ?_
      refine x_getr dX4_slipCount_6 fX4_18 rfl rfl (by decide) ?_
      refine x_getv (hn) dX4_slipCount_9 fX4_41 rfl rfl (by decide) ?_
      refine x_icmp_geN (tgt := 41) dX4_slipCount_12 (by decide) (by omega) (by omega) (fun hc => ?_) (fun hc => ?_)
      · exact absurd hc (by omega)
      refine x_aload_n dX4_slipCount_15 rfl rfl ?_
      refine x_getr dX4_slipCount_16 fX4_15 rfl rfl (by decide) ?_
      refine x_iload_n dX4_slipCount_19 rfl rfl ?_
      refine x_ialdN dX4_slipCount_20 rfl (by decide) (by omega) (by decide) (h2.1) ?_
      refine x_aload_n dX4_slipCount_21 rfl rfl ?_
      refine x_getr dX4_slipCount_22 fX4_15 rfl rfl (by decide) ?_
      refine x_iload_n dX4_slipCount_25 rfl rfl ?_
      refine x_iconst (v := nI 1) dX4_slipCount_26 (by decide) ?_
      refine x_isubN dX4_slipCount_27 (by omega) ?_
      refine x_ialdN dX4_slipCount_28 rfl (by decide) (by omega) (by decide) (h1.1) ?_
      rw [fb_sm_succ] at ih
      refine x_icmp_eqN (tgt := 35) dX4_slipCount_29 (by decide) (by omega) (by omega) (fun hc => ?_) (fun hc => ?_)
      · refine xinc3_2N dX4_slipCount_35 rfl ?_
        refine x_goto (tgt := 4) dX4_slipCount_38 (by decide) ?_
        rw [if_neg (fun e => e hc), Nat.add_zero] at ih
        exact ih
      · refine xinc3_1N dX4_slipCount_32 rfl ?_
        refine xinc3_2N dX4_slipCount_35 rfl ?_
        refine x_goto (tgt := 4) dX4_slipCount_38 (by decide) ?_
        rw [if_pos hc] at ih
        exact ih
  exact key 0 (by omega)
set_option maxHeartbeats 8000000 in
theorem k_isNear_16 (E : Ev) (d : Nat) (M : PM) (n : Nat) (q w : Nat → Nat) (y p : Int32) (hn : M.1 3 5 = nI n) (h : Tb M 16 n q w) (hp0 : -10 ≤ p.toInt) (hp1 : p.toInt ≤ 10) : Ci E (d + 1) mX4_isNear [.ref (ad E 16), .int y, .int p] M (fun v N => v = bI (decide (¬ inR y n ∨ (-1 ≤ p.toInt - (w (tn y) : Int) ∧ p.toInt - (w (tn y) : Int) ≤ 1))) ∧ M = N) := by
  have hn5 := h.1
  have en : (nI n).toInt = (n : Int) := nI_toInt (by omega)
  refine Ct.ofz [some (.ref (ad E 16)), some (.int y), some (.int p)] (own := RX4) rfl (by decide) (Nat.le_of_ble_eq_true rfl) rfl (fun C hR => ?_)
  have yes : (¬ inR y n ∨ (-1 ≤ p.toInt - (w (tn y) : Int) ∧ p.toInt - (w (tn y) : Int) ≤ 1)) → X E (d + 1) RX4 cX4_isNear 3 C 30 [some (.ref (ad E 16)), some (.int y), some (.int p)] [] M := by
    intro e
    refine x_iconst (v := nI 1) dX4_isNear_30 (by decide) ?_
    refine x_goto (tgt := 35) dX4_isNear_31 (by decide) ?_
    exact hR _ _ _ _ dX4_isNear_35 (by first | exact bI_n _ | decide) (⟨(dec_t e).symm, rfl⟩)
  refine x_iload_n dX4_isNear_0 rfl rfl ?_
  refine x_if_lt (tgt := 30) dX4_isNear_1 (by decide) (fun hc => ?_) (fun hc => ?_)
  · rw [Int32.lt_iff_toInt_lt, Int32.toInt_zero] at hc
    exact yes (Or.inl (by omega))
  rw [Int32.lt_iff_toInt_lt, Int32.toInt_zero] at hc
  have hlo := hc
  refine x_iload_n dX4_isNear_4 rfl rfl ?_
  refine x_aload_n dX4_isNear_5 rfl rfl ?_
  refine x_getr dX4_isNear_6 fX4_18 rfl rfl (by decide) ?_
  refine x_getv (hn) dX4_isNear_9 fX4_41 rfl rfl (by decide) ?_
  refine x_icmp_ge (tgt := 30) dX4_isNear_12 (by decide) (fun hc => ?_) (fun hc => ?_)
  · rw [Int32.le_iff_toInt_le, en] at hc
    exact yes (Or.inl (by omega))
  rw [Int32.le_iff_toInt_le, en] at hc
  rcases ixc y n (by omega) with ⟨j, hj, rfl, _⟩ | hj
  rotate_left
  · exact absurd (by omega) hj
  rw [tn_nI (by omega)] at yes hR
  have hwj := h.2.2 j hj
  have ew : (nI (w j)).toInt = (w j : Int) := nI_toInt (by omega)
  have es : (nI (w j) - p).toInt = (w j : Int) - p.toInt := by rw [fb_subI (by omega) (by omega), ew]
  have e1 : (nI 1).toInt = 1 := by decide
  refine x_aload_n dX4_isNear_15 rfl rfl ?_
  refine x_getr dX4_isNear_16 fX4_15 rfl rfl (by decide) ?_
  refine x_iload_n dX4_isNear_19 rfl rfl ?_
  refine x_ialdN dX4_isNear_20 rfl (by decide) (by omega) (by decide) (hwj.1) ?_
  refine x_iload_n dX4_isNear_21 rfl rfl ?_
  refine x_isub dX4_isNear_22 ?_
  refine x_mabs dX4_isNear_23 kX4_62 (by omega) (Nat.le_of_ble_eq_true rfl) ?_
  refine x_iconst (v := nI 1) dX4_isNear_26 (by decide) ?_
  have ea : (if 0 ≤ nI (w j) - p then nI (w j) - p else 0 - (nI (w j) - p)).toInt = if 0 ≤ (w j : Int) - p.toInt then (w j : Int) - p.toInt else p.toInt - (w j : Int) := by
    by_cases z : 0 ≤ nI (w j) - p
    · rw [if_pos z]
      rw [Int32.le_iff_toInt_le, es, Int32.toInt_zero] at z
      rw [if_pos z, es]
    · rw [if_neg z]
      rw [Int32.le_iff_toInt_le, es, Int32.toInt_zero] at z
      rw [if_neg z, fb_subI (by rw [Int32.toInt_zero, es]; omega) (by rw [Int32.toInt_zero, es]; omega), Int32.toInt_zero, es]
      omega
  refine x_icmp_gt (tgt := 34) dX4_isNear_27 (by decide) (fun hc => ?_) (fun hc => ?_)
  · rw [Int32.lt_iff_toInt_lt, e1, ea] at hc
    refine x_iconst (v := nI 0) dX4_isNear_34 (by decide) ?_
    refine hR _ _ _ _ dX4_isNear_35 (by decide) ⟨(dec_f ?_).symm, rfl⟩
    rintro (z | z)
    · exact z (inR_nI hj (by omega))
    · split at hc <;> omega
  · rw [Int32.lt_iff_toInt_lt, e1, ea] at hc
    exact yes (Or.inr (by split at hc <;> omega))
set_option maxHeartbeats 8000000 in
theorem k_moveWire_16 (E : Ev) (d : Nat) (M : PM) (n r a : Nat) (q w : Nat → Nat) (hn : M.1 3 5 = nI n) (h : Tb M 16 n q w) (hr9 : r < 100) (ha : a < 2) : Ci E (d + 2) mX4_moveWire [.ref (ad E 16), .int (nI r), .int (nI a)] M (fun v N => (¬ (r < n ∧ cdw w n r (dt w r a) = true) → v = bI false ∧ M = N) ∧ (r < n ∧ cdw w n r (dt w r a) = true → v = bI true ∧ Fr M N [18] ∧ Tb N 16 n q (nw w r a))) := by
  have hn5 := h.1
  refine Ct.ofz [some (.ref (ad E 16)), some (.int (nI r)), some (.int (nI a)), none] (own := RX4) rfl (by decide) (Nat.le_of_ble_eq_true rfl) rfl (fun C hR => ?_)
  refine x_iload_n dX4_moveWire_0 rfl rfl ?_
  refine x_if_ltN (tgt := 15) dX4_moveWire_1 (by decide) (by omega) ?_
  refine x_iload_n dX4_moveWire_4 rfl rfl ?_
  refine x_aload_n dX4_moveWire_5 rfl rfl ?_
  refine x_getr dX4_moveWire_6 fX4_18 rfl rfl (by decide) ?_
  refine x_getv (hn) dX4_moveWire_9 fX4_41 rfl rfl (by decide) ?_
  refine x_icmp_ltN (tgt := 17) dX4_moveWire_12 (by decide) (by omega) (by omega) (fun hc => ?_) (fun hc => ?_)
  rotate_left
  · refine x_iconst (v := nI 0) dX4_moveWire_15 (by decide) ?_
    exact hR _ _ _ _ dX4_moveWire_16 (by decide) ⟨fun _ => ⟨rfl, rfl⟩, fun e => absurd e.1 (by omega)⟩
  have hr : r < n := hc
  have hwr := h.2.2 r hr
  have cont : ∀ t : Int32, t.toInt = dt w r a → X E (d + 2) RX4 cX4_moveWire 4 C 42 [some (.ref (ad E 16)), some (.int (nI r)), some (.int (nI a)), some (.int t)] [] M := by
    intro t ht
    have hdt : -1 ≤ t.toInt ∧ t.toInt ≤ 6 := by rw [ht]; unfold dt; split <;> omega
    have e5 : (nI 5).toInt = 5 := by decide
    have ecd : cdw w n r (dt w r a) = true ↔ (0 ≤ t.toInt ∧ t.toInt ≤ 5 ∧ (r = 0 ∨ (-1 ≤ t.toInt - (w (r - 1) : Int) ∧ t.toInt - (w (r - 1) : Int) ≤ 1)) ∧ (r + 1 = n ∨ (-1 ≤ t.toInt - (w (r + 1) : Int) ∧ t.toInt - (w (r + 1) : Int) ≤ 1))) := by
      rw [← ht]; unfold cdw; exact decide_eq_true_iff
    have no : ¬ (cdw w n r (dt w r a) = true) → X E (d + 2) RX4 cX4_moveWire 4 C 73 [some (.ref (ad E 16)), some (.int (nI r)), some (.int (nI a)), some (.int t)] [] M := by
      intro e
      refine x_iconst (v := nI 0) dX4_moveWire_73 (by decide) ?_
      exact hR _ _ _ _ dX4_moveWire_74 (by decide) ⟨fun _ => ⟨rfl, rfl⟩, fun z => absurd z.2 e⟩
    refine x_iload_n dX4_moveWire_42 rfl rfl ?_
    refine x_if_lt (tgt := 73) dX4_moveWire_43 (by decide) (fun hc => ?_) (fun hc => ?_)
    · rw [Int32.lt_iff_toInt_lt, Int32.toInt_zero] at hc
      exact no (fun z => by have := ecd.mp z; omega)
    rw [Int32.lt_iff_toInt_lt, Int32.toInt_zero] at hc
    have g1 := hc
    refine x_iload_n dX4_moveWire_46 rfl rfl ?_
    refine x_iconst (v := nI 5) dX4_moveWire_47 (by decide) ?_
    refine x_icmp_gt (tgt := 73) dX4_moveWire_48 (by decide) (fun hc => ?_) (fun hc => ?_)
    · rw [Int32.lt_iff_toInt_lt, e5] at hc
      exact no (fun z => by have := ecd.mp z; omega)
    rw [Int32.lt_iff_toInt_lt, e5] at hc
    have g2 := hc
    have em : (nI r - nI 1).toInt = (r : Int) - 1 := pk_sub_toInt (by omega) (by omega)
    have ep : (nI (r + 1)).toInt = ((r + 1 : Nat) : Int) := nI_toInt (by omega)
    have etm : 1 ≤ r → tn (nI r - nI 1) = r - 1 := by intro z; rw [pk_sub z, tn_nI (by omega)]
    have etp : tn (nI (r + 1)) = r + 1 := tn_nI (by omega)
    refine x_aload_n dX4_moveWire_51 rfl rfl ?_
    refine x_iload_n dX4_moveWire_52 rfl rfl ?_
    refine x_iconst (v := nI 1) dX4_moveWire_53 (by decide) ?_
    refine x_isub dX4_moveWire_54 ?_
    refine x_iload_n dX4_moveWire_55 rfl rfl ?_
    refine x_callVi dX4_moveWire_56 mvX4_isNear kX4_59 (k_isNear_16 E d M n q w _ t hn h (by omega) (by omega)) rfl (by decide) (by omega) rfl rfl (Nat.le_of_ble_eq_true rfl) ?_
    rintro _ _ ⟨rfl, rfl⟩
    refine x_if_eqB (tgt := 73) dX4_moveWire_59 (by decide) (fun hc => ?_) (fun hc => ?_)
    · have z := of_decide_eq_false hc
      refine no (fun e => z ?_)
      rcases (ecd.mp e).2.2.1 with e | e
      · exact Or.inl (by omega)
      · by_cases z0 : r = 0
        · exact Or.inl (by omega)
        · exact Or.inr (by rw [etm (by omega)]; exact e)
    have z1 := of_decide_eq_true hc
    refine x_aload_n dX4_moveWire_62 rfl rfl ?_
    refine x_iload_n dX4_moveWire_63 rfl rfl ?_
    refine x_iconst (v := nI 1) dX4_moveWire_64 (by decide) ?_
    refine x_iaddN dX4_moveWire_65 ?_
    refine x_iload_n dX4_moveWire_66 rfl rfl ?_
    refine x_callVi dX4_moveWire_67 mvX4_isNear kX4_59 (k_isNear_16 E d M n q w _ t hn h (by omega) (by omega)) rfl (by decide) (by omega) rfl rfl (Nat.le_of_ble_eq_true rfl) ?_
    rintro _ _ ⟨rfl, rfl⟩
    refine x_if_neB (tgt := 75) dX4_moveWire_70 (by decide) (fun hc => ?_) (fun hc => ?_)
    rotate_left
    · have z := of_decide_eq_false hc
      refine x_iconst (v := nI 0) dX4_moveWire_73 (by decide) ?_
      refine hR _ _ _ _ dX4_moveWire_74 (by decide) ⟨fun _ => ⟨rfl, rfl⟩, fun y => absurd ?_ z⟩
      rcases (ecd.mp y.2).2.2.2 with e | e
      · exact Or.inl (by omega)
      · by_cases z0 : r + 1 = n
        · exact Or.inl (by omega)
        · exact Or.inr (by rw [etp]; exact e)
    have z2 := of_decide_eq_true hc
    have hcd : cdw w n r (dt w r a) = true := by
      refine ecd.mpr ⟨by omega, by omega, ?_, ?_⟩
      · by_cases z0 : r = 0
        · exact Or.inl z0
        · rw [etm (by omega)] at z1
          rcases z1 with z1 | z1
          · exact absurd (by omega) z1
          · exact Or.inr z1
      · by_cases z0 : r + 1 = n
        · exact Or.inl z0
        · rw [etp] at z2
          rcases z2 with z2 | z2
          · exact absurd (by omega) z2
          · exact Or.inr z2
    refine x_aload_n dX4_moveWire_75 rfl rfl ?_
    refine x_getr dX4_moveWire_76 fX4_15 rfl rfl (by decide) ?_
    refine x_iload_n dX4_moveWire_79 rfl rfl ?_
    refine x_iload_n dX4_moveWire_80 rfl rfl ?_
    refine x_iastN dX4_moveWire_81 rfl (by decide) (by omega) (by decide) ?_
    refine x_iconst (v := nI 1) dX4_moveWire_82 (by decide) ?_
    refine hR _ _ _ _ dX4_moveWire_83 (by decide) ⟨fun e => absurd ⟨hr, hcd⟩ e, fun _ => ⟨rfl, Fr.rf.sa (by decide), hn5, fun r' c' hr' hc' => ?_, fun r' hr' => ?_⟩⟩
    · rw [sa_ne (by decide)]; exact h.2.1 r' c' hr' hc'
    · rw [sa_1]
      unfold nw
      by_cases e : r' = r
      · rw [e, pk_us, if_pos rfl]
        exact ⟨nI_back (by omega), by omega⟩
      · rw [pk_un e, if_neg e]; exact h.2.2 r' hr'
  refine x_iload_n dX4_moveWire_17 rfl rfl ?_
  refine x_iconst (v := nI 1) dX4_moveWire_18 (by decide) ?_
  rcases (show a = 0 ∨ a = 1 by omega) with rfl | rfl
  · refine x_icmp_neN (tgt := 33) dX4_moveWire_19 (by decide) (by omega) (by omega) (fun hc => ?_) (fun hc => ?_)
    · refine x_aload_n dX4_moveWire_33 rfl rfl ?_
      refine x_getr dX4_moveWire_34 fX4_15 rfl rfl (by decide) ?_
      refine x_iload_n dX4_moveWire_37 rfl rfl ?_
      refine x_ialdN dX4_moveWire_38 rfl (by decide) (by omega) (by decide) (hwr.1) ?_
      refine x_iconst (v := nI 1) dX4_moveWire_39 (by decide) ?_
      refine x_isub dX4_moveWire_40 ?_
      refine xis4_3 dX4_moveWire_41 rfl ?_
      exact cont _ (by rw [pk_sub_toInt (by omega) (by omega)]; rfl)
    · exact absurd hc (by decide)
  · refine x_icmp_neN (tgt := 33) dX4_moveWire_19 (by decide) (by omega) (by omega) (fun hc => ?_) (fun hc => ?_)
    · exact absurd rfl hc
    · refine x_aload_n dX4_moveWire_22 rfl rfl ?_
      refine x_getr dX4_moveWire_23 fX4_15 rfl rfl (by decide) ?_
      refine x_iload_n dX4_moveWire_26 rfl rfl ?_
      refine x_ialdN dX4_moveWire_27 rfl (by decide) (by omega) (by decide) (hwr.1) ?_
      refine x_iconst (v := nI 1) dX4_moveWire_28 (by decide) ?_
      refine x_iaddN dX4_moveWire_29 ?_
      refine x_goto (tgt := 41) dX4_moveWire_30 (by decide) ?_
      refine xis4_3 dX4_moveWire_41 rfl ?_
      exact cont _ (by rw [nI_toInt (by omega)]; rfl)
set_option maxHeartbeats 8000000 in
theorem k_swapAtWire_16 (E : Ev) (d : Nat) (M : PM) (n : Nat) (q w : Nat → Nat) (y : Int32) (hn : M.1 3 5 = nI n) (h : Tb M 16 n q w) : Ci E d mX4_swapAtWire [.ref (ad E 16), .int y] M (fun v N => (¬ (inR y n ∧ 1 ≤ w (tn y) ∧ w (tn y) ≤ 4) → v = bI false ∧ M = N) ∧ (inR y n ∧ 1 ≤ w (tn y) ∧ w (tn y) ≤ 4 → v = bI true ∧ Fr M N [17] ∧ Tb N 16 n (swq q (5 * tn y + w (tn y))) w)) := by
  have hn5 := h.1
  have en : (nI n).toInt = (n : Int) := nI_toInt (by omega)
  refine Ct.ofz [some (.ref (ad E 16)), some (.int y), none, none] (own := RX4) rfl (by decide) (Nat.le_of_ble_eq_true rfl) rfl (fun C hR => ?_)
  have no : ¬ (inR y n ∧ 1 ≤ w (tn y) ∧ w (tn y) ≤ 4) → X E d RX4 cX4_swapAtWire 4 C 35 [some (.ref (ad E 16)), some (.int y), none, none] [] M := by
    intro e
    refine x_iconst (v := nI 0) dX4_swapAtWire_35 (by decide) ?_
    exact hR _ _ _ _ dX4_swapAtWire_36 (by decide) ⟨fun _ => ⟨rfl, rfl⟩, fun z => absurd z e⟩
  refine x_iload_n dX4_swapAtWire_0 rfl rfl ?_
  refine x_if_lt (tgt := 35) dX4_swapAtWire_1 (by decide) (fun hc => ?_) (fun hc => ?_)
  · rw [Int32.lt_iff_toInt_lt, Int32.toInt_zero] at hc
    exact no (fun z => by have := z.1; omega)
  rw [Int32.lt_iff_toInt_lt, Int32.toInt_zero] at hc
  have hlo := hc
  refine x_iload_n dX4_swapAtWire_4 rfl rfl ?_
  refine x_aload_n dX4_swapAtWire_5 rfl rfl ?_
  refine x_getr dX4_swapAtWire_6 fX4_18 rfl rfl (by decide) ?_
  refine x_getv (hn) dX4_swapAtWire_9 fX4_41 rfl rfl (by decide) ?_
  refine x_icmp_ge (tgt := 35) dX4_swapAtWire_12 (by decide) (fun hc => ?_) (fun hc => ?_)
  · rw [Int32.le_iff_toInt_le, en] at hc
    exact no (fun z => by have := z.1; omega)
  rw [Int32.le_iff_toInt_le, en] at hc
  rcases ixc y n (by omega) with ⟨r, hr, rfl, _⟩ | hj
  rotate_left
  · exact absurd (by omega) hj
  rw [tn_nI (by omega)] at no hR
  have hwr := h.2.2 r hr
  refine x_aload_n dX4_swapAtWire_15 rfl rfl ?_
  refine x_getr dX4_swapAtWire_16 fX4_15 rfl rfl (by decide) ?_
  refine x_iload_n dX4_swapAtWire_19 rfl rfl ?_
  refine x_ialdN dX4_swapAtWire_20 rfl (by decide) (by omega) (by decide) (hwr.1) ?_
  refine x_iconst (v := nI 1) dX4_swapAtWire_21 (by decide) ?_
  refine x_icmp_ltN (tgt := 35) dX4_swapAtWire_22 (by decide) (by omega) (by omega) (fun hc => ?_) (fun hc => ?_)
  · exact no (fun z => by have := z.2; omega)
  have g1 := hc
  refine x_aload_n dX4_swapAtWire_25 rfl rfl ?_
  refine x_getr dX4_swapAtWire_26 fX4_15 rfl rfl (by decide) ?_
  refine x_iload_n dX4_swapAtWire_29 rfl rfl ?_
  refine x_ialdN dX4_swapAtWire_30 rfl (by decide) (by omega) (by decide) (hwr.1) ?_
  refine x_iconst (v := nI 5) dX4_swapAtWire_31 (by decide) ?_
  refine x_icmp_ltN (tgt := 37) dX4_swapAtWire_32 (by decide) (by omega) (by omega) (fun hc => ?_) (fun hc => ?_)
  rotate_left
  · refine x_iconst (v := nI 0) dX4_swapAtWire_35 (by decide) ?_
    exact hR _ _ _ _ dX4_swapAtWire_36 (by decide) ⟨fun _ => ⟨rfl, rfl⟩, fun z => absurd z.2 (by omega)⟩
  refine x_iload_n dX4_swapAtWire_37 rfl rfl ?_
  refine x_iconst (v := nI 5) dX4_swapAtWire_38 (by decide) ?_
  refine x_imulN dX4_swapAtWire_39 ?_
  refine x_aload_n dX4_swapAtWire_40 rfl rfl ?_
  refine x_getr dX4_swapAtWire_41 fX4_15 rfl rfl (by decide) ?_
  refine x_iload_n dX4_swapAtWire_44 rfl rfl ?_
  refine x_ialdN dX4_swapAtWire_45 rfl (by decide) (by omega) (by decide) (hwr.1) ?_
  refine x_iaddN dX4_swapAtWire_46 ?_
  refine xis4_2 dX4_swapAtWire_47 rfl ?_
  refine x_aload_n dX4_swapAtWire_48 rfl rfl ?_
  refine x_getr dX4_swapAtWire_49 fX4_9 rfl rfl (by decide) ?_
  refine x_iload_n dX4_swapAtWire_52 rfl rfl ?_
  refine x_ialdN dX4_swapAtWire_53 rfl (by decide) (by omega) (by decide) (rfl) ?_
  refine xis4_3 dX4_swapAtWire_54 rfl ?_
  refine x_aload_n dX4_swapAtWire_55 rfl rfl ?_
  refine x_getr dX4_swapAtWire_56 fX4_9 rfl rfl (by decide) ?_
  refine x_iload_n dX4_swapAtWire_59 rfl rfl ?_
  refine x_aload_n dX4_swapAtWire_60 rfl rfl ?_
  refine x_getr dX4_swapAtWire_61 fX4_9 rfl rfl (by decide) ?_
  refine x_iload_n dX4_swapAtWire_64 rfl rfl ?_
  refine x_iconst (v := nI 1) dX4_swapAtWire_65 (by decide) ?_
  refine x_isubN dX4_swapAtWire_66 (by omega) ?_
  refine x_ialdN dX4_swapAtWire_67 rfl (by decide) (by omega) (by decide) (rfl) ?_
  refine x_iastN dX4_swapAtWire_68 rfl (by decide) (by omega) (by decide) ?_
  refine x_aload_n dX4_swapAtWire_69 rfl rfl ?_
  refine x_getr dX4_swapAtWire_70 fX4_9 rfl rfl (by decide) ?_
  refine x_iload_n dX4_swapAtWire_73 rfl rfl ?_
  refine x_iconst (v := nI 1) dX4_swapAtWire_74 (by decide) ?_
  refine x_isubN dX4_swapAtWire_75 (by omega) ?_
  refine x_iload_n dX4_swapAtWire_76 rfl rfl ?_
  refine x_iastN dX4_swapAtWire_77 rfl (by decide) (by omega) (by decide) ?_
  refine x_iconst (v := nI 1) dX4_swapAtWire_78 (by decide) ?_
  rw [sa_sa, sa_1]
  refine hR _ _ _ _ dX4_swapAtWire_79 (by decide) ⟨fun e => absurd ⟨inR_nI hr (by omega), by omega, by omega⟩ e, fun _ => ⟨rfl, Fr.rf.sa (by decide), hn5, fun r' c' hr' hc' => ?_, fun r' hr' => ?_⟩⟩
  · have hx := h.2.1 r' c' hr' hc'
    have ha := h.2.1 r (w r) hr (by omega)
    have hb := h.2.1 r (w r - 1) hr (by omega)
    rw [show 5 * r + (w r - 1) = 5 * r + w r - 1 by omega] at hb
    rw [show r * 5 + (w r - 1) = r * 5 + w r - 1 by omega] at hb
    rw [sa_1]
    unfold swq
    by_cases e1 : 5 * r' + c' = 5 * r + w r
    · rw [if_pos e1, pk_un (by omega), show r' * 5 + c' = r * 5 + w r by omega, pk_us]
      exact hb
    · by_cases e2 : 5 * r' + c' = 5 * r + w r - 1
      · rw [if_neg e1, if_pos e2, show r' * 5 + c' = r * 5 + w r - 1 by omega, pk_us]
        exact ha
      · rw [if_neg e1, if_neg e2, pk_un (by omega), pk_un (by omega)]
        exact hx
  · rw [sa_ne (by decide)]; exact h.2.2 r' hr'
set_option maxHeartbeats 8000000 in
theorem k_joinFaces_16 (E : Ev) (d : Nat) (M : PM) (n : Nat) (q w : Nat → Nat) (hn : M.1 3 5 = nI n) (h : Tb M 16 n q w) : Cv E (d + 1) mX4_joinFaces [.ref (ad E 16)] M (fun N => Fr M N [16, 18] ∧ N.1 16 3 = M.1 16 3 + nI (slp w n) ∧ Tb N 16 n q (fun _ => 2)) := by
  have hn5 := h.1
  refine Ct.ofv [some (.ref (ad E 16))] (own := RX4) rfl (by decide) (Nat.le_of_ble_eq_true rfl) rfl (fun C hR => ?_)
  refine x_aload_n dX4_joinFaces_0 rfl rfl ?_
  refine x_dup dX4_joinFaces_1 rfl ?_
  refine x_geti dX4_joinFaces_2 fX4_37 rfl rfl (by decide) ?_
  refine x_aload_n dX4_joinFaces_5 rfl rfl ?_
  refine x_callVi dX4_joinFaces_6 mvX4_slipCount kX4_68 (k_slipCount_16 E d M n q w hn h) rfl (by decide) (by omega) rfl rfl (Nat.le_of_ble_eq_true rfl) ?_
  rintro _ _ ⟨rfl, rfl⟩
  refine x_iadd dX4_joinFaces_9 ?_
  refine x_put dX4_joinFaces_10 pX4_37 rfl rfl (by decide) rfl rfl ?_
  refine x_aload_n dX4_joinFaces_13 rfl rfl ?_
  refine x_getr dX4_joinFaces_14 fX4_15 rfl rfl (by decide) ?_
  refine x_iconst (v := nI 2) dX4_joinFaces_17 (by decide) ?_
  refine x_callSv dX4_joinFaces_18 msJ7_fill_53178 kX4_31 (c_fill E d _ 18 5 (nI 2) rfl (by decide) (by decide)) (by omega) rfl rfl (Nat.le_of_ble_eq_true rfl) ?_
  rintro _ rfl
  refine hR _ _ _ dX4_joinFaces_21 ⟨(Fr.rf.sa (by decide)).sa (by decide), ?_, hn5, fun r c hr hc => ?_, fun r hr => ⟨?_, Nat.le_of_ble_eq_true rfl⟩⟩
  · rw [sa_ne (by decide), sa_1, pk_us]
  · rw [sa_ne (by decide), sa_ne (by decide)]; exact h.2.1 r c hr hc
  · rw [sa_1, fa_fill_in (by omega)]
set_option maxHeartbeats 8000000 in
theorem k_act (E : Ev) (d : Nat) (M : PM) (n t : Nat) (q w : Nat → Nat) (hn : M.1 3 5 = nI n) (h : Tb M 16 n q w) (ht : t < 100) : Ci E (d + 3) mX4_act [.ref (ad E 16), .int (nI (t / 10)), .int (nI (t % 10))] M (fun v N => v = bI (doR n w t) ∧ Fr M N [16, 17, 18] ∧ Tb N 16 n (doQ n q w t) (doW n w t)) := by
  have hn5 := h.1
  refine Ct.ofz [some (.ref (ad E 16)), some (.int (nI (t / 10))), some (.int (nI (t % 10)))] (own := RX4) rfl (by decide) (Nat.le_of_ble_eq_true rfl) rfl (fun C hR => ?_)
  refine x_iload_n dX4_act_0 rfl rfl ?_
  have same : doR n w t = false → t ≠ 30 → doQ n q w t = q ∧ doW n w t = w := by
    intro e h30
    unfold doQ doW
    rw [if_neg (by rw [e]; simp), if_neg h30, if_neg (by rw [e]; simp)]
    exact ⟨rfl, rfl⟩
  have mv : ∀ a, a < 2 → t / 10 = a → ∀ v N, ((¬ (t % 10 < n ∧ cdw w n (t % 10) (dt w (t % 10) a) = true) → v = bI false ∧ M = N) ∧ (t % 10 < n ∧ cdw w n (t % 10) (dt w (t % 10) a) = true → v = bI true ∧ Fr M N [18] ∧ Tb N 16 n q (nw w (t % 10) a))) → v = bI (doR n w t) ∧ Fr M N [16, 17, 18] ∧ Tb N 16 n (doQ n q w t) (doW n w t) := by
    intro a ha e v N hP
    have h30 : t ≠ 30 := by omega
    by_cases z : t % 10 < n ∧ cdw w n (t % 10) (dt w (t % 10) a) = true
    · obtain ⟨rfl, p1, p2⟩ := hP.2 z
      have er : doR n w t = true := by unfold doR; rw [if_neg h30, if_neg (by omega), if_neg (by omega), e]; exact z.2
      have eq : doQ n q w t = q := by unfold doQ; rw [if_neg (by omega)]
      have ew : doW n w t = nw w (t % 10) a := by unfold doW; rw [if_neg h30, if_pos ⟨er, by omega⟩, e]
      rw [er, eq, ew]
      exact ⟨rfl, p1.wd (by decide), p2⟩
    · obtain ⟨rfl, rfl⟩ := hP.1 z
      have er : doR n w t = false := by
        unfold doR
        rw [if_neg h30]
        by_cases z2 : n ≤ t % 10 ∨ 2 < t / 10
        · rw [if_pos z2]
        · rw [if_neg z2, if_neg (by omega), e]
          cases hcd : cdw w n (t % 10) (dt w (t % 10) a)
          · rfl
          · exact absurd ⟨by omega, hcd⟩ z
      obtain ⟨e1, e2⟩ := same er h30
      rw [er, e1, e2]
      exact ⟨rfl, Fr.rf, h⟩
  have hk : t / 10 < 10 := by omega
  generalize hkk : t / 10 = k at hk ⊢ mv
  match k, hk with
  | 0, _ =>
    refine x_tableIn (off := 31) (tgt := 32) dX4_act_1 (by decide) (by decide) (by decide) (by decide) ?_
    refine x_aload_n dX4_act_32 rfl rfl ?_
    refine x_iload_n dX4_act_33 rfl rfl ?_
    refine x_iconst (v := nI 0) dX4_act_34 (by decide) ?_
    refine x_callVi dX4_act_35 mvX4_moveWire kX4_48 (k_moveWire_16 E d M n (t % 10) 0 q w hn h (by omega) (by decide)) rfl (by decide) (by omega) rfl rfl (Nat.le_of_ble_eq_true rfl) ?_
    rintro v N hP
    have hv := mv 0 (by decide) rfl v N hP
    refine hR _ _ _ _ dX4_act_38 (by rw [hv.1]; exact bI_n _) hv
  | 1, _ =>
    refine x_tableIn (off := 38) (tgt := 39) dX4_act_1 (by decide) (by decide) (by decide) (by decide) ?_
    refine x_aload_n dX4_act_39 rfl rfl ?_
    refine x_iload_n dX4_act_40 rfl rfl ?_
    refine x_iconst (v := nI 1) dX4_act_41 (by decide) ?_
    refine x_callVi dX4_act_42 mvX4_moveWire kX4_48 (k_moveWire_16 E d M n (t % 10) 1 q w hn h (by omega) (by decide)) rfl (by decide) (by omega) rfl rfl (Nat.le_of_ble_eq_true rfl) ?_
    rintro v N hP
    have hv := mv 1 (by decide) rfl v N hP
    refine hR _ _ _ _ dX4_act_45 (by rw [hv.1]; exact bI_n _) hv
  | 2, _ =>
    refine x_tableIn (off := 45) (tgt := 46) dX4_act_1 (by decide) (by decide) (by decide) (by decide) ?_
    have h30 : t ≠ 30 := by omega
    refine x_aload_n dX4_act_46 rfl rfl ?_
    refine x_iload_n dX4_act_47 rfl rfl ?_
    refine x_callVi dX4_act_48 mvX4_swapAtWire kX4_52 (k_swapAtWire_16 E (d + 2) M n q w (nI (t % 10)) hn h) rfl (by decide) (by omega) rfl rfl (Nat.le_of_ble_eq_true rfl) ?_
    rintro v N hP
    rw [tn_nI (by omega)] at hP
    by_cases z : inR (nI (t % 10)) n ∧ 1 ≤ w (t % 10) ∧ w (t % 10) ≤ 4
    · obtain ⟨rfl, p1, p2⟩ := hP.2 z
      have z1 := z.1
      rw [inR, nI_toInt (by omega)] at z1
      have er : doR n w t = true := by unfold doR; rw [if_neg h30, if_neg (by omega), if_pos hkk]; exact decide_eq_true z.2
      have eq : doQ n q w t = swq q (5 * (t % 10) + w (t % 10)) := by unfold doQ; rw [if_pos ⟨h30, er, hkk⟩]
      have ew : doW n w t = w := by unfold doW; rw [if_neg h30, if_neg (by omega)]
      rw [er, eq, ew] at hR
      exact hR _ _ _ _ dX4_act_51 (by decide) ⟨rfl, p1.wd (by decide), p2⟩
    · obtain ⟨rfl, rfl⟩ := hP.1 z
      have er : doR n w t = false := by
        unfold doR
        rw [if_neg h30]
        by_cases z2 : n ≤ t % 10 ∨ 2 < t / 10
        · rw [if_pos z2]
        · rw [if_neg z2, if_pos hkk]
          exact decide_eq_false (fun e => z ⟨inR_nI (by omega) (by omega), e⟩)
      obtain ⟨e1, e2⟩ := same er h30
      rw [er, e1, e2] at hR
      exact hR _ _ _ _ dX4_act_51 (by decide) ⟨rfl, Fr.rf, h⟩
  | 3, _ =>
    refine x_tableIn (off := 51) (tgt := 52) dX4_act_1 (by decide) (by decide) (by decide) (by decide) ?_
    refine x_iload_n dX4_act_52 rfl rfl ?_
    refine x_if_eqN (tgt := 58) dX4_act_53 (by decide) (by omega) (fun hc => ?_) (fun hc => ?_)
    · have h30 : t = 30 := by omega
      have er : doR n w t = true := by unfold doR; rw [if_pos h30]
      have eq : doQ n q w t = q := by unfold doQ; rw [if_neg (fun z => z.1 h30)]
      have ew : doW n w t = fun _ => 2 := by unfold doW; rw [if_pos h30]
      rw [er, eq, ew] at hR
      refine x_aload_n dX4_act_58 rfl rfl ?_
      refine x_callVv dX4_act_59 mvX4_joinFaces kX4_56 (k_joinFaces_16 E (d + 1) M n q w hn h) rfl (by decide) (by omega) rfl rfl (Nat.le_of_ble_eq_true rfl) ?_
      rintro N ⟨p1, _, p2⟩
      refine x_iconst (v := nI 1) dX4_act_62 (by decide) ?_
      exact hR _ _ _ _ dX4_act_63 (by decide) ⟨rfl, p1.wd (by decide), p2⟩
    · have h30 : t ≠ 30 := by omega
      have er : doR n w t = false := by unfold doR; rw [if_neg h30, if_pos (Or.inr (by omega))]
      obtain ⟨e1, e2⟩ := same er h30
      rw [er, e1, e2] at hR
      refine x_iconst (v := nI 0) dX4_act_56 (by decide) ?_
      exact hR _ _ _ _ dX4_act_57 (by decide) ⟨rfl, Fr.rf, h⟩
  | j + 4, hj =>
    have h30 : t ≠ 30 := by omega
    have ek : (nI (j + 4)).toInt = ((j + 4 : Nat) : Int) := nI_toInt (by omega)
    have er : doR n w t = false := by unfold doR; rw [if_neg h30, if_pos (Or.inr (by omega))]
    obtain ⟨e1, e2⟩ := same er h30
    rw [er, e1, e2] at hR
    refine x_tableOut (tgt := 64) dX4_act_1 (by omega) (by decide) ?_
    refine x_iconst (v := nI 0) dX4_act_64 (by decide) ?_
    exact hR _ _ _ _ dX4_act_65 (by decide) ⟨rfl, Fr.rf, h⟩
