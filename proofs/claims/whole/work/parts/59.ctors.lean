-- ===== the constructors =====
def mkE (B : Bs) (ad : Nat → Nat) (f : Nat) : Ev := (B.1, ad, B.2.1.1, B.2.1.2, B.2.2.1, f)
def M0 : PM := (fun _ _ => 0, fun _ => 0)
set_option maxHeartbeats 8000000 in
set_option maxRecDepth 100000 in
theorem i_X6_1 (B : Bs) (ad : Nat → Nat) (en : Nat → va_E) (a : Nat) (ha : ad 1 = a) (he : en 1 = .inr (6, [.null, .int 0])) : CtB B 6 mX6_init 1 56 [.ref a] (2, ad, en) (fun w => ∃ q2 : Nat, w = (3, uf (ad) 2 q2, uf (uf (en) 2 (.inl (bI_ B, 56, .inl (fun _ => 0)))) 1 (.inr (6, [.ref q2, .int 0])))) := by
  refine CtB.of [some (.ref a)] (own := RX6) rfl (by decide) rfl (Nat.le_of_ble_eq_true rfl) rfl (fun C hI hR => ?_)
  refine y_aload_n dX6_init_0 rfl rfl ?_
  refine y_obj dX6_init_1 wo_X6 (Nat.le_of_ble_eq_true rfl) (Nat.le_of_ble_eq_true rfl) ?_
  refine y_aload_n dX6_init_4 rfl rfl ?_
  refine y_bipush (v := 56) dX6_init_5 (by decide) ?_
  refine y_newi (N := 56) dX6_init_7 (by decide) (by decide) (Nat.le_of_ble_eq_true rfl) (Nat.le_of_ble_eq_true rfl) (Nat.le_of_ble_eq_true rfl) (fun q2 => ?_)
  refine y_putF (c0 := 1) (fs := [.null, .int 0]) hI dX6_init_9 gX6_9 (Nat.le_of_ble_eq_true rfl) ha he rfl rfl (Nat.le_of_ble_eq_true rfl) ?_
  exact hR _ _ _ dX6_init_12 ⟨q2, rfl⟩
set_option maxHeartbeats 8000000 in
set_option maxRecDepth 100000 in
theorem i_X1_3 (B : Bs) (ad : Nat → Nat) (en : Nat → va_E) (a : Nat) (ha : ad 3 = a) (he : en 3 = .inr (1, [.null, .null, .null, .null, .int 0, .int 0, .int 0, .int 0, .int 0])) : CtB B 6 mX1_init 4 38 [.ref a] (4, ad, en) (fun w => ∃ q4 q5 q6 q7 : Nat, w = (8, uf (uf (uf (uf (ad) 4 q4) 5 q5) 6 q6) 7 q7, uf (uf (uf (uf (uf (uf (uf (uf (en) 4 (.inl (bI_ B, 5, .inl (fun _ => 0)))) 3 (.inr (1, [.ref q4, .null, .null, .null, .int 0, .int 0, .int 0, .int 0, .int 0]))) 5 (.inl (bI_ B, 25, .inl (fun _ => 0)))) 3 (.inr (1, [.ref q4, .ref q5, .null, .null, .int 0, .int 0, .int 0, .int 0, .int 0]))) 6 (.inl (bI_ B, 4, .inl (fun _ => 0)))) 3 (.inr (1, [.ref q4, .ref q5, .ref q6, .null, .int 0, .int 0, .int 0, .int 0, .int 0]))) 7 (.inl (bI_ B, 4, .inl (fun _ => 0)))) 3 (.inr (1, [.ref q4, .ref q5, .ref q6, .ref q7, .int 0, .int 0, .int 0, .int 0, .int 0])))) := by
  refine CtB.of [some (.ref a)] (own := RX1) rfl (by decide) rfl (Nat.le_of_ble_eq_true rfl) rfl (fun C hI hR => ?_)
  refine y_aload_n dX1_init_0 rfl rfl ?_
  refine y_obj dX1_init_1 wo_X1 (Nat.le_of_ble_eq_true rfl) (Nat.le_of_ble_eq_true rfl) ?_
  refine y_aload_n dX1_init_4 rfl rfl ?_
  refine y_iconst (v := 5) dX1_init_5 (by decide) ?_
  refine y_newi (N := 5) dX1_init_6 (by decide) (by decide) (Nat.le_of_ble_eq_true rfl) (Nat.le_of_ble_eq_true rfl) (Nat.le_of_ble_eq_true rfl) (fun q4 => ?_)
  refine y_putF (c0 := 3) (fs := [.null, .null, .null, .null, .int 0, .int 0, .int 0, .int 0, .int 0]) hI dX1_init_8 gX1_9 (Nat.le_of_ble_eq_true rfl) ha he rfl rfl (Nat.le_of_ble_eq_true rfl) ?_
  refine y_aload_n dX1_init_11 rfl rfl ?_
  refine y_bipush (v := 25) dX1_init_12 (by decide) ?_
  refine y_newi (N := 25) dX1_init_14 (by decide) (by decide) (Nat.le_of_ble_eq_true rfl) (Nat.le_of_ble_eq_true rfl) (Nat.le_of_ble_eq_true rfl) (fun q5 => ?_)
  refine y_putF (c0 := 3) (fs := [.ref q4, .null, .null, .null, .int 0, .int 0, .int 0, .int 0, .int 0]) hI dX1_init_16 gX1_15 (Nat.le_of_ble_eq_true rfl) ha rfl rfl rfl (Nat.le_of_ble_eq_true rfl) ?_
  refine y_aload_n dX1_init_19 rfl rfl ?_
  refine y_iconst (v := 4) dX1_init_20 (by decide) ?_
  refine y_newi (N := 4) dX1_init_21 (by decide) (by decide) (Nat.le_of_ble_eq_true rfl) (Nat.le_of_ble_eq_true rfl) (Nat.le_of_ble_eq_true rfl) (fun q6 => ?_)
  refine y_putF (c0 := 3) (fs := [.ref q4, .ref q5, .null, .null, .int 0, .int 0, .int 0, .int 0, .int 0]) hI dX1_init_23 gX1_18 (Nat.le_of_ble_eq_true rfl) ha rfl rfl rfl (Nat.le_of_ble_eq_true rfl) ?_
  refine y_aload_n dX1_init_26 rfl rfl ?_
  refine y_iconst (v := 4) dX1_init_27 (by decide) ?_
  refine y_newi (N := 4) dX1_init_28 (by decide) (by decide) (Nat.le_of_ble_eq_true rfl) (Nat.le_of_ble_eq_true rfl) (Nat.le_of_ble_eq_true rfl) (fun q7 => ?_)
  refine y_putF (c0 := 3) (fs := [.ref q4, .ref q5, .ref q6, .null, .int 0, .int 0, .int 0, .int 0, .int 0]) hI dX1_init_30 gX1_21 (Nat.le_of_ble_eq_true rfl) ha rfl rfl rfl (Nat.le_of_ble_eq_true rfl) ?_
  exact hR _ _ _ dX1_init_33 ⟨q4, q5, q6, q7, rfl⟩
set_option maxHeartbeats 8000000 in
set_option maxRecDepth 100000 in
theorem i_X1_8 (B : Bs) (ad : Nat → Nat) (en : Nat → va_E) (a : Nat) (ha : ad 8 = a) (he : en 8 = .inr (1, [.null, .null, .null, .null, .int 0, .int 0, .int 0, .int 0, .int 0])) : CtB B 6 mX1_init 4 38 [.ref a] (9, ad, en) (fun w => ∃ q9 q10 q11 q12 : Nat, w = (13, uf (uf (uf (uf (ad) 9 q9) 10 q10) 11 q11) 12 q12, uf (uf (uf (uf (uf (uf (uf (uf (en) 9 (.inl (bI_ B, 5, .inl (fun _ => 0)))) 8 (.inr (1, [.ref q9, .null, .null, .null, .int 0, .int 0, .int 0, .int 0, .int 0]))) 10 (.inl (bI_ B, 25, .inl (fun _ => 0)))) 8 (.inr (1, [.ref q9, .ref q10, .null, .null, .int 0, .int 0, .int 0, .int 0, .int 0]))) 11 (.inl (bI_ B, 4, .inl (fun _ => 0)))) 8 (.inr (1, [.ref q9, .ref q10, .ref q11, .null, .int 0, .int 0, .int 0, .int 0, .int 0]))) 12 (.inl (bI_ B, 4, .inl (fun _ => 0)))) 8 (.inr (1, [.ref q9, .ref q10, .ref q11, .ref q12, .int 0, .int 0, .int 0, .int 0, .int 0])))) := by
  refine CtB.of [some (.ref a)] (own := RX1) rfl (by decide) rfl (Nat.le_of_ble_eq_true rfl) rfl (fun C hI hR => ?_)
  refine y_aload_n dX1_init_0 rfl rfl ?_
  refine y_obj dX1_init_1 wo_X1 (Nat.le_of_ble_eq_true rfl) (Nat.le_of_ble_eq_true rfl) ?_
  refine y_aload_n dX1_init_4 rfl rfl ?_
  refine y_iconst (v := 5) dX1_init_5 (by decide) ?_
  refine y_newi (N := 5) dX1_init_6 (by decide) (by decide) (Nat.le_of_ble_eq_true rfl) (Nat.le_of_ble_eq_true rfl) (Nat.le_of_ble_eq_true rfl) (fun q9 => ?_)
  refine y_putF (c0 := 8) (fs := [.null, .null, .null, .null, .int 0, .int 0, .int 0, .int 0, .int 0]) hI dX1_init_8 gX1_9 (Nat.le_of_ble_eq_true rfl) ha he rfl rfl (Nat.le_of_ble_eq_true rfl) ?_
  refine y_aload_n dX1_init_11 rfl rfl ?_
  refine y_bipush (v := 25) dX1_init_12 (by decide) ?_
  refine y_newi (N := 25) dX1_init_14 (by decide) (by decide) (Nat.le_of_ble_eq_true rfl) (Nat.le_of_ble_eq_true rfl) (Nat.le_of_ble_eq_true rfl) (fun q10 => ?_)
  refine y_putF (c0 := 8) (fs := [.ref q9, .null, .null, .null, .int 0, .int 0, .int 0, .int 0, .int 0]) hI dX1_init_16 gX1_15 (Nat.le_of_ble_eq_true rfl) ha rfl rfl rfl (Nat.le_of_ble_eq_true rfl) ?_
  refine y_aload_n dX1_init_19 rfl rfl ?_
  refine y_iconst (v := 4) dX1_init_20 (by decide) ?_
  refine y_newi (N := 4) dX1_init_21 (by decide) (by decide) (Nat.le_of_ble_eq_true rfl) (Nat.le_of_ble_eq_true rfl) (Nat.le_of_ble_eq_true rfl) (fun q11 => ?_)
  refine y_putF (c0 := 8) (fs := [.ref q9, .ref q10, .null, .null, .int 0, .int 0, .int 0, .int 0, .int 0]) hI dX1_init_23 gX1_18 (Nat.le_of_ble_eq_true rfl) ha rfl rfl rfl (Nat.le_of_ble_eq_true rfl) ?_
  refine y_aload_n dX1_init_26 rfl rfl ?_
  refine y_iconst (v := 4) dX1_init_27 (by decide) ?_
  refine y_newi (N := 4) dX1_init_28 (by decide) (by decide) (Nat.le_of_ble_eq_true rfl) (Nat.le_of_ble_eq_true rfl) (Nat.le_of_ble_eq_true rfl) (fun q12 => ?_)
  refine y_putF (c0 := 8) (fs := [.ref q9, .ref q10, .ref q11, .null, .int 0, .int 0, .int 0, .int 0, .int 0]) hI dX1_init_30 gX1_21 (Nat.le_of_ble_eq_true rfl) ha rfl rfl rfl (Nat.le_of_ble_eq_true rfl) ?_
  exact hR _ _ _ dX1_init_33 ⟨q9, q10, q11, q12, rfl⟩
set_option maxHeartbeats 8000000 in
set_option maxRecDepth 100000 in
theorem i_X4_13 (B : Bs) (ad : Nat → Nat) (en : Nat → va_E) (a hq : Nat) (ha : ad 13 = a) (he : en 13 = .inr (4, [.null, .null, .null, .int 0])) : CtB B 6 mX4_init 2 30 [.ref a, .ref hq] (14, ad, en) (fun w => ∃ q14 q15 : Nat, w = (16, uf (uf (ad) 14 q14) 15 q15, uf (uf (uf (uf (uf (en) 14 (.inl (bI_ B, 25, .inl (fun _ => 0)))) 13 (.inr (4, [.null, .ref q14, .null, .int 0]))) 15 (.inl (bI_ B, 5, .inl (fun _ => 0)))) 13 (.inr (4, [.null, .ref q14, .ref q15, .int 0]))) 13 (.inr (4, [.ref hq, .ref q14, .ref q15, .int 0])))) := by
  refine CtB.of [some (.ref a), some (.ref hq)] (own := RX4) rfl (by decide) rfl (Nat.le_of_ble_eq_true rfl) rfl (fun C hI hR => ?_)
  refine y_aload_n dX4_init_0 rfl rfl ?_
  refine y_obj dX4_init_1 wo_X4 (Nat.le_of_ble_eq_true rfl) (Nat.le_of_ble_eq_true rfl) ?_
  refine y_aload_n dX4_init_4 rfl rfl ?_
  refine y_bipush (v := 25) dX4_init_5 (by decide) ?_
  refine y_newi (N := 25) dX4_init_7 (by decide) (by decide) (Nat.le_of_ble_eq_true rfl) (Nat.le_of_ble_eq_true rfl) (Nat.le_of_ble_eq_true rfl) (fun q14 => ?_)
  refine y_putF (c0 := 13) (fs := [.null, .null, .null, .int 0]) hI dX4_init_9 gX4_9 (Nat.le_of_ble_eq_true rfl) ha he rfl rfl (Nat.le_of_ble_eq_true rfl) ?_
  refine y_aload_n dX4_init_12 rfl rfl ?_
  refine y_iconst (v := 5) dX4_init_13 (by decide) ?_
  refine y_newi (N := 5) dX4_init_14 (by decide) (by decide) (Nat.le_of_ble_eq_true rfl) (Nat.le_of_ble_eq_true rfl) (Nat.le_of_ble_eq_true rfl) (fun q15 => ?_)
  refine y_putF (c0 := 13) (fs := [.null, .ref q14, .null, .int 0]) hI dX4_init_16 gX4_15 (Nat.le_of_ble_eq_true rfl) ha rfl rfl rfl (Nat.le_of_ble_eq_true rfl) ?_
  refine y_aload_n dX4_init_19 rfl rfl ?_
  refine y_aload_n dX4_init_20 rfl rfl ?_
  refine y_putF (c0 := 13) (fs := [.null, .ref q14, .ref q15, .int 0]) hI dX4_init_21 gX4_18 (Nat.le_of_ble_eq_true rfl) ha rfl rfl rfl (Nat.le_of_ble_eq_true rfl) ?_
  exact hR _ _ _ dX4_init_24 ⟨q14, q15, rfl⟩
set_option maxHeartbeats 8000000 in
set_option maxRecDepth 100000 in
theorem i_X4_16 (B : Bs) (ad : Nat → Nat) (en : Nat → va_E) (a hq : Nat) (ha : ad 16 = a) (he : en 16 = .inr (4, [.null, .null, .null, .int 0])) : CtB B 6 mX4_init 2 30 [.ref a, .ref hq] (17, ad, en) (fun w => ∃ q17 q18 : Nat, w = (19, uf (uf (ad) 17 q17) 18 q18, uf (uf (uf (uf (uf (en) 17 (.inl (bI_ B, 25, .inl (fun _ => 0)))) 16 (.inr (4, [.null, .ref q17, .null, .int 0]))) 18 (.inl (bI_ B, 5, .inl (fun _ => 0)))) 16 (.inr (4, [.null, .ref q17, .ref q18, .int 0]))) 16 (.inr (4, [.ref hq, .ref q17, .ref q18, .int 0])))) := by
  refine CtB.of [some (.ref a), some (.ref hq)] (own := RX4) rfl (by decide) rfl (Nat.le_of_ble_eq_true rfl) rfl (fun C hI hR => ?_)
  refine y_aload_n dX4_init_0 rfl rfl ?_
  refine y_obj dX4_init_1 wo_X4 (Nat.le_of_ble_eq_true rfl) (Nat.le_of_ble_eq_true rfl) ?_
  refine y_aload_n dX4_init_4 rfl rfl ?_
  refine y_bipush (v := 25) dX4_init_5 (by decide) ?_
  refine y_newi (N := 25) dX4_init_7 (by decide) (by decide) (Nat.le_of_ble_eq_true rfl) (Nat.le_of_ble_eq_true rfl) (Nat.le_of_ble_eq_true rfl) (fun q17 => ?_)
  refine y_putF (c0 := 16) (fs := [.null, .null, .null, .int 0]) hI dX4_init_9 gX4_9 (Nat.le_of_ble_eq_true rfl) ha he rfl rfl (Nat.le_of_ble_eq_true rfl) ?_
  refine y_aload_n dX4_init_12 rfl rfl ?_
  refine y_iconst (v := 5) dX4_init_13 (by decide) ?_
  refine y_newi (N := 5) dX4_init_14 (by decide) (by decide) (Nat.le_of_ble_eq_true rfl) (Nat.le_of_ble_eq_true rfl) (Nat.le_of_ble_eq_true rfl) (fun q18 => ?_)
  refine y_putF (c0 := 16) (fs := [.null, .ref q17, .null, .int 0]) hI dX4_init_16 gX4_15 (Nat.le_of_ble_eq_true rfl) ha rfl rfl rfl (Nat.le_of_ble_eq_true rfl) ?_
  refine y_aload_n dX4_init_19 rfl rfl ?_
  refine y_aload_n dX4_init_20 rfl rfl ?_
  refine y_putF (c0 := 16) (fs := [.null, .ref q17, .ref q18, .int 0]) hI dX4_init_21 gX4_18 (Nat.le_of_ble_eq_true rfl) ha rfl rfl rfl (Nat.le_of_ble_eq_true rfl) ?_
  exact hR _ _ _ dX4_init_24 ⟨q17, q18, rfl⟩
set_option maxHeartbeats 8000000 in
set_option maxRecDepth 100000 in
theorem i_X4_20 (B : Bs) (ad : Nat → Nat) (en : Nat → va_E) (a hq : Nat) (ha : ad 20 = a) (he : en 20 = .inr (4, [.null, .null, .null, .int 0])) : CtB B 6 mX4_init 2 30 [.ref a, .ref hq] (21, ad, en) (fun w => ∃ q21 q22 : Nat, w = (23, uf (uf (ad) 21 q21) 22 q22, uf (uf (uf (uf (uf (en) 21 (.inl (bI_ B, 25, .inl (fun _ => 0)))) 20 (.inr (4, [.null, .ref q21, .null, .int 0]))) 22 (.inl (bI_ B, 5, .inl (fun _ => 0)))) 20 (.inr (4, [.null, .ref q21, .ref q22, .int 0]))) 20 (.inr (4, [.ref hq, .ref q21, .ref q22, .int 0])))) := by
  refine CtB.of [some (.ref a), some (.ref hq)] (own := RX4) rfl (by decide) rfl (Nat.le_of_ble_eq_true rfl) rfl (fun C hI hR => ?_)
  refine y_aload_n dX4_init_0 rfl rfl ?_
  refine y_obj dX4_init_1 wo_X4 (Nat.le_of_ble_eq_true rfl) (Nat.le_of_ble_eq_true rfl) ?_
  refine y_aload_n dX4_init_4 rfl rfl ?_
  refine y_bipush (v := 25) dX4_init_5 (by decide) ?_
  refine y_newi (N := 25) dX4_init_7 (by decide) (by decide) (Nat.le_of_ble_eq_true rfl) (Nat.le_of_ble_eq_true rfl) (Nat.le_of_ble_eq_true rfl) (fun q21 => ?_)
  refine y_putF (c0 := 20) (fs := [.null, .null, .null, .int 0]) hI dX4_init_9 gX4_9 (Nat.le_of_ble_eq_true rfl) ha he rfl rfl (Nat.le_of_ble_eq_true rfl) ?_
  refine y_aload_n dX4_init_12 rfl rfl ?_
  refine y_iconst (v := 5) dX4_init_13 (by decide) ?_
  refine y_newi (N := 5) dX4_init_14 (by decide) (by decide) (Nat.le_of_ble_eq_true rfl) (Nat.le_of_ble_eq_true rfl) (Nat.le_of_ble_eq_true rfl) (fun q22 => ?_)
  refine y_putF (c0 := 20) (fs := [.null, .ref q21, .null, .int 0]) hI dX4_init_16 gX4_15 (Nat.le_of_ble_eq_true rfl) ha rfl rfl rfl (Nat.le_of_ble_eq_true rfl) ?_
  refine y_aload_n dX4_init_19 rfl rfl ?_
  refine y_aload_n dX4_init_20 rfl rfl ?_
  refine y_putF (c0 := 20) (fs := [.null, .ref q21, .ref q22, .int 0]) hI dX4_init_21 gX4_18 (Nat.le_of_ble_eq_true rfl) ha rfl rfl rfl (Nat.le_of_ble_eq_true rfl) ?_
  exact hR _ _ _ dX4_init_24 ⟨q21, q22, rfl⟩
set_option maxHeartbeats 8000000 in
set_option maxRecDepth 100000 in
theorem i_X4_23 (B : Bs) (ad : Nat → Nat) (en : Nat → va_E) (a hq : Nat) (ha : ad 23 = a) (he : en 23 = .inr (4, [.null, .null, .null, .int 0])) : CtB B 6 mX4_init 2 30 [.ref a, .ref hq] (24, ad, en) (fun w => ∃ q24 q25 : Nat, w = (26, uf (uf (ad) 24 q24) 25 q25, uf (uf (uf (uf (uf (en) 24 (.inl (bI_ B, 25, .inl (fun _ => 0)))) 23 (.inr (4, [.null, .ref q24, .null, .int 0]))) 25 (.inl (bI_ B, 5, .inl (fun _ => 0)))) 23 (.inr (4, [.null, .ref q24, .ref q25, .int 0]))) 23 (.inr (4, [.ref hq, .ref q24, .ref q25, .int 0])))) := by
  refine CtB.of [some (.ref a), some (.ref hq)] (own := RX4) rfl (by decide) rfl (Nat.le_of_ble_eq_true rfl) rfl (fun C hI hR => ?_)
  refine y_aload_n dX4_init_0 rfl rfl ?_
  refine y_obj dX4_init_1 wo_X4 (Nat.le_of_ble_eq_true rfl) (Nat.le_of_ble_eq_true rfl) ?_
  refine y_aload_n dX4_init_4 rfl rfl ?_
  refine y_bipush (v := 25) dX4_init_5 (by decide) ?_
  refine y_newi (N := 25) dX4_init_7 (by decide) (by decide) (Nat.le_of_ble_eq_true rfl) (Nat.le_of_ble_eq_true rfl) (Nat.le_of_ble_eq_true rfl) (fun q24 => ?_)
  refine y_putF (c0 := 23) (fs := [.null, .null, .null, .int 0]) hI dX4_init_9 gX4_9 (Nat.le_of_ble_eq_true rfl) ha he rfl rfl (Nat.le_of_ble_eq_true rfl) ?_
  refine y_aload_n dX4_init_12 rfl rfl ?_
  refine y_iconst (v := 5) dX4_init_13 (by decide) ?_
  refine y_newi (N := 5) dX4_init_14 (by decide) (by decide) (Nat.le_of_ble_eq_true rfl) (Nat.le_of_ble_eq_true rfl) (Nat.le_of_ble_eq_true rfl) (fun q25 => ?_)
  refine y_putF (c0 := 23) (fs := [.null, .ref q24, .null, .int 0]) hI dX4_init_16 gX4_15 (Nat.le_of_ble_eq_true rfl) ha rfl rfl rfl (Nat.le_of_ble_eq_true rfl) ?_
  refine y_aload_n dX4_init_19 rfl rfl ?_
  refine y_aload_n dX4_init_20 rfl rfl ?_
  refine y_putF (c0 := 23) (fs := [.null, .ref q24, .ref q25, .int 0]) hI dX4_init_21 gX4_18 (Nat.le_of_ble_eq_true rfl) ha rfl rfl rfl (Nat.le_of_ble_eq_true rfl) ?_
  exact hR _ _ _ dX4_init_24 ⟨q24, q25, rfl⟩
set_option maxHeartbeats 8000000 in
set_option maxRecDepth 100000 in
theorem i_X0_27 (B : Bs) (ad : Nat → Nat) (en : Nat → va_E) (a : Nat) (ha : ad 27 = a) (he : en 27 = .inr (0, [.null, .null, .null, .int 0])) : CtB B 6 mX0_init 3 42 [.ref a] (28, ad, en) (fun w => ∃ q28 q29 q30 : Nat, w = (31, uf (uf (uf (ad) 28 q28) 29 q29) 30 q30, uf (uf (uf (uf (uf (uf (en) 28 (.inl (bI_ B, 14, .inl (fun _ => 0)))) 27 (.inr (0, [.ref q28, .null, .null, .int 0]))) 29 (.inl (bI_ B, 14, .inl (fun _ => 0)))) 27 (.inr (0, [.ref q28, .ref q29, .null, .int 0]))) 30 (.inl (bI_ B, 14, .inl (fun _ => 0)))) 27 (.inr (0, [.ref q28, .ref q29, .ref q30, .int 0])))) := by
  refine CtB.of [some (.ref a)] (own := RX0) rfl (by decide) rfl (Nat.le_of_ble_eq_true rfl) rfl (fun C hI hR => ?_)
  refine y_aload_n dX0_init_0 rfl rfl ?_
  refine y_obj dX0_init_1 wo_X0 (Nat.le_of_ble_eq_true rfl) (Nat.le_of_ble_eq_true rfl) ?_
  refine y_aload_n dX0_init_4 rfl rfl ?_
  refine y_bipush (v := 14) dX0_init_5 (by decide) ?_
  refine y_newi (N := 14) dX0_init_7 (by decide) (by decide) (Nat.le_of_ble_eq_true rfl) (Nat.le_of_ble_eq_true rfl) (Nat.le_of_ble_eq_true rfl) (fun q28 => ?_)
  refine y_putF (c0 := 27) (fs := [.null, .null, .null, .int 0]) hI dX0_init_9 gX0_9 (Nat.le_of_ble_eq_true rfl) ha he rfl rfl (Nat.le_of_ble_eq_true rfl) ?_
  refine y_aload_n dX0_init_12 rfl rfl ?_
  refine y_bipush (v := 14) dX0_init_13 (by decide) ?_
  refine y_newi (N := 14) dX0_init_15 (by decide) (by decide) (Nat.le_of_ble_eq_true rfl) (Nat.le_of_ble_eq_true rfl) (Nat.le_of_ble_eq_true rfl) (fun q29 => ?_)
  refine y_putF (c0 := 27) (fs := [.ref q28, .null, .null, .int 0]) hI dX0_init_17 gX0_15 (Nat.le_of_ble_eq_true rfl) ha rfl rfl rfl (Nat.le_of_ble_eq_true rfl) ?_
  refine y_aload_n dX0_init_20 rfl rfl ?_
  refine y_bipush (v := 14) dX0_init_21 (by decide) ?_
  refine y_newi (N := 14) dX0_init_23 (by decide) (by decide) (Nat.le_of_ble_eq_true rfl) (Nat.le_of_ble_eq_true rfl) (Nat.le_of_ble_eq_true rfl) (fun q30 => ?_)
  refine y_putF (c0 := 27) (fs := [.ref q28, .ref q29, .null, .int 0]) hI dX0_init_25 gX0_18 (Nat.le_of_ble_eq_true rfl) ha rfl rfl rfl (Nat.le_of_ble_eq_true rfl) ?_
  exact hR _ _ _ dX0_init_28 ⟨q28, q29, q30, rfl⟩
set_option maxHeartbeats 8000000 in
set_option maxRecDepth 100000 in
theorem i_X5_31 (B : Bs) (ad : Nat → Nat) (en : Nat → va_E) (a hq : Nat) (ha : ad 31 = a) (he : en 31 = .inr (5, [.null, .null, .null])) : CtB B 6 mX5_init 2 50 [.ref a, .ref hq] (32, ad, en) (fun w => ∃ q32 q33 : Nat, w = (34, uf (uf (ad) 32 q32) 33 q33, uf (uf (uf (uf (uf (en) 32 (.inl (bI_ B, 10, .inl (fun _ => 0)))) 31 (.inr (5, [.null, .ref q32, .null]))) 33 (.inl (bI_ B, 40, .inl (fun _ => 0)))) 31 (.inr (5, [.null, .ref q32, .ref q33]))) 31 (.inr (5, [.ref hq, .ref q32, .ref q33])))) := by
  refine CtB.of [some (.ref a), some (.ref hq)] (own := RX5) rfl (by decide) rfl (Nat.le_of_ble_eq_true rfl) rfl (fun C hI hR => ?_)
  refine y_aload_n dX5_init_0 rfl rfl ?_
  refine y_obj dX5_init_1 wo_X5 (Nat.le_of_ble_eq_true rfl) (Nat.le_of_ble_eq_true rfl) ?_
  refine y_aload_n dX5_init_4 rfl rfl ?_
  refine y_bipush (v := 10) dX5_init_5 (by decide) ?_
  refine y_newi (N := 10) dX5_init_7 (by decide) (by decide) (Nat.le_of_ble_eq_true rfl) (Nat.le_of_ble_eq_true rfl) (Nat.le_of_ble_eq_true rfl) (fun q32 => ?_)
  refine y_putF (c0 := 31) (fs := [.null, .null, .null]) hI dX5_init_9 gX5_9 (Nat.le_of_ble_eq_true rfl) ha he rfl rfl (Nat.le_of_ble_eq_true rfl) ?_
  refine y_aload_n dX5_init_12 rfl rfl ?_
  refine y_bipush (v := 40) dX5_init_13 (by decide) ?_
  refine y_newi (N := 40) dX5_init_15 (by decide) (by decide) (Nat.le_of_ble_eq_true rfl) (Nat.le_of_ble_eq_true rfl) (Nat.le_of_ble_eq_true rfl) (fun q33 => ?_)
  refine y_putF (c0 := 31) (fs := [.null, .ref q32, .null]) hI dX5_init_17 gX5_15 (Nat.le_of_ble_eq_true rfl) ha rfl rfl rfl (Nat.le_of_ble_eq_true rfl) ?_
  refine y_aload_n dX5_init_20 rfl rfl ?_
  refine y_aload_n dX5_init_21 rfl rfl ?_
  refine y_putF (c0 := 31) (fs := [.null, .ref q32, .ref q33]) hI dX5_init_22 gX5_18 (Nat.le_of_ble_eq_true rfl) ha rfl rfl rfl (Nat.le_of_ble_eq_true rfl) ?_
  exact hR _ _ _ dX5_init_25 ⟨q32, q33, rfl⟩
set_option maxHeartbeats 8000000 in
set_option maxRecDepth 100000 in
theorem i_X3_34 (B : Bs) (ad : Nat → Nat) (en : Nat → va_E) (a : Nat) (ha : ad 34 = a) (he : en 34 = .inr (3, [.null, .null, .int 0])) : CtB B 6 mX3_init 2 12 [.ref a] (35, ad, en) (fun w => ∃ q35 q36 : Nat, w = (37, uf (uf (ad) 35 q35) 36 q36, uf (uf (uf (uf (en) 35 (.inl (bI_ B, 6, .inl (fun _ => 0)))) 34 (.inr (3, [.ref q35, .null, .int 0]))) 36 (.inl (bI_ B, 6, .inl (fun _ => 0)))) 34 (.inr (3, [.ref q35, .ref q36, .int 0])))) := by
  refine CtB.of [some (.ref a)] (own := RX3) rfl (by decide) rfl (Nat.le_of_ble_eq_true rfl) rfl (fun C hI hR => ?_)
  refine y_aload_n dX3_init_0 rfl rfl ?_
  refine y_obj dX3_init_1 wo_X3 (Nat.le_of_ble_eq_true rfl) (Nat.le_of_ble_eq_true rfl) ?_
  refine y_aload_n dX3_init_4 rfl rfl ?_
  refine y_bipush (v := 6) dX3_init_5 (by decide) ?_
  refine y_newi (N := 6) dX3_init_7 (by decide) (by decide) (Nat.le_of_ble_eq_true rfl) (Nat.le_of_ble_eq_true rfl) (Nat.le_of_ble_eq_true rfl) (fun q35 => ?_)
  refine y_putF (c0 := 34) (fs := [.null, .null, .int 0]) hI dX3_init_9 gX3_9 (Nat.le_of_ble_eq_true rfl) ha he rfl rfl (Nat.le_of_ble_eq_true rfl) ?_
  refine y_aload_n dX3_init_12 rfl rfl ?_
  refine y_bipush (v := 6) dX3_init_13 (by decide) ?_
  refine y_newi (N := 6) dX3_init_15 (by decide) (by decide) (Nat.le_of_ble_eq_true rfl) (Nat.le_of_ble_eq_true rfl) (Nat.le_of_ble_eq_true rfl) (fun q36 => ?_)
  refine y_putF (c0 := 34) (fs := [.ref q35, .null, .int 0]) hI dX3_init_17 gX3_15 (Nat.le_of_ble_eq_true rfl) ha rfl rfl rfl (Nat.le_of_ble_eq_true rfl) ?_
  exact hR _ _ _ dX3_init_20 ⟨q35, q36, rfl⟩
set_option maxHeartbeats 8000000 in
set_option maxRecDepth 100000 in
theorem i_X7_37 (B : Bs) (ad : Nat → Nat) (en : Nat → va_E) (a : Nat) (ha : ad 37 = a) (he : en 37 = .inr (7, [.null, .int 0, .int 0])) : CtB B 6 mX7_init 1 5 [.ref a] (38, ad, en) (fun w => ∃ q38 : Nat, w = (39, uf (ad) 38 q38, uf (uf (en) 38 (.inl (bI_ B, 5, .inl (fun _ => 0)))) 37 (.inr (7, [.ref q38, .int 0, .int 0])))) := by
  refine CtB.of [some (.ref a)] (own := RX7) rfl (by decide) rfl (Nat.le_of_ble_eq_true rfl) rfl (fun C hI hR => ?_)
  refine y_aload_n dX7_init_0 rfl rfl ?_
  refine y_obj dX7_init_1 wo_X7 (Nat.le_of_ble_eq_true rfl) (Nat.le_of_ble_eq_true rfl) ?_
  refine y_aload_n dX7_init_4 rfl rfl ?_
  refine y_iconst (v := 5) dX7_init_5 (by decide) ?_
  refine y_newi (N := 5) dX7_init_6 (by decide) (by decide) (Nat.le_of_ble_eq_true rfl) (Nat.le_of_ble_eq_true rfl) (Nat.le_of_ble_eq_true rfl) (fun q38 => ?_)
  refine y_putF (c0 := 37) (fs := [.null, .int 0, .int 0]) hI dX7_init_8 gX7_9 (Nat.le_of_ble_eq_true rfl) ha he rfl rfl (Nat.le_of_ble_eq_true rfl) ?_
  exact hR _ _ _ dX7_init_11 ⟨q38, rfl⟩
set_option maxHeartbeats 8000000 in
set_option maxRecDepth 100000 in
theorem i_X2_39 (B : Bs) (ad : Nat → Nat) (en : Nat → va_E) (a : Nat) (ha : ad 39 = a) (he : en 39 = .inr (2, [.int 0, .int 0, .int 0])) : CtB B 6 mX2_init 0 0 [.ref a] (40, ad, en) (fun w => w = (40, ad, en)) := by
  refine CtB.of [some (.ref a)] (own := RX2) rfl (by decide) rfl (Nat.le_of_ble_eq_true rfl) rfl (fun C hI hR => ?_)
  refine y_aload_n dX2_init_0 rfl rfl ?_
  refine y_obj dX2_init_1 wo_X2 (Nat.le_of_ble_eq_true rfl) (Nat.le_of_ble_eq_true rfl) ?_
  exact hR _ _ _ dX2_init_4 rfl
set_option maxHeartbeats 8000000 in
set_option maxRecDepth 100000 in
theorem i_X9_40 (B : Bs) (ad : Nat → Nat) (en : Nat → va_E) (a : Nat) (ha : ad 40 = a) (he : en 40 = .inr (9, (Value.int 0 :: Value.null :: Value.int 0 :: Value.int 0 :: Value.int 0 :: Value.int 0 :: Value.null :: Value.int 0 :: Value.null :: Value.null :: Value.int 0 :: Value.null :: Value.int 0 :: Value.null :: Value.int 0 :: Value.null :: Value.null :: Value.null :: Value.null :: Value.null :: Value.int 0 :: Value.null :: Value.null :: Value.int 0 :: Value.null :: Value.null :: Value.long 0 :: Value.null :: Value.null :: Value.null :: Value.int 0 :: Value.int 0 :: Value.int 0 :: Value.int 0 :: Value.null :: []))) : CtB B 7 mX9_init 19 726 [.ref a] (41, ad, en) (fun w => ∃ q41 q42 q43 q44 q45 q46 q47 q48 q49 q50 q51 q52 q53 q54 q55 q56 q57 q58 q59 : Nat, w = (60, uf (uf (uf (uf (uf (uf (uf (uf (uf (uf (uf (uf (uf (uf (uf (uf (uf (uf (uf (ad) 41 q41) 42 q42) 43 q43) 44 q44) 45 q45) 46 q46) 47 q47) 48 q48) 49 q49) 50 q50) 51 q51) 52 q52) 53 q53) 54 q54) 55 q55) 56 q56) 57 q57) 58 q58) 59 q59, uf (uf (uf (uf (uf (uf (uf (uf (uf (uf (uf (uf (uf (uf (uf (uf (uf (uf (uf (uf (uf (uf (uf (uf (uf (uf (uf (uf (uf (uf (uf (uf (uf (uf (uf (uf (uf (uf (en) 41 (.inl (bI_ B, 56, .inl (fun _ => 0)))) 40 (.inr (9, (Value.int 0 :: Value.ref q41 :: Value.int 0 :: Value.int 0 :: Value.int 0 :: Value.int 0 :: Value.null :: Value.int 0 :: Value.null :: Value.null :: Value.int 0 :: Value.null :: Value.int 0 :: Value.null :: Value.int 0 :: Value.null :: Value.null :: Value.null :: Value.null :: Value.null :: Value.int 0 :: Value.null :: Value.null :: Value.int 0 :: Value.null :: Value.null :: Value.long 0 :: Value.null :: Value.null :: Value.null :: Value.int 0 :: Value.int 0 :: Value.int 0 :: Value.int 0 :: Value.null :: [])))) 42 (.inl (bI_ B, 5, .inl (fun _ => 0)))) 40 (.inr (9, (Value.int 0 :: Value.ref q41 :: Value.int 0 :: Value.int 0 :: Value.int 0 :: Value.int 0 :: Value.ref q42 :: Value.int 0 :: Value.null :: Value.null :: Value.int 0 :: Value.null :: Value.int 0 :: Value.null :: Value.int 0 :: Value.null :: Value.null :: Value.null :: Value.null :: Value.null :: Value.int 0 :: Value.null :: Value.null :: Value.int 0 :: Value.null :: Value.null :: Value.long 0 :: Value.null :: Value.null :: Value.null :: Value.int 0 :: Value.int 0 :: Value.int 0 :: Value.int 0 :: Value.null :: [])))) 43 (.inl (bI_ B, 4, .inl (fun _ => 0)))) 40 (.inr (9, (Value.int 0 :: Value.ref q41 :: Value.int 0 :: Value.int 0 :: Value.int 0 :: Value.int 0 :: Value.ref q42 :: Value.int 0 :: Value.ref q43 :: Value.null :: Value.int 0 :: Value.null :: Value.int 0 :: Value.null :: Value.int 0 :: Value.null :: Value.null :: Value.null :: Value.null :: Value.null :: Value.int 0 :: Value.null :: Value.null :: Value.int 0 :: Value.null :: Value.null :: Value.long 0 :: Value.null :: Value.null :: Value.null :: Value.int 0 :: Value.int 0 :: Value.int 0 :: Value.int 0 :: Value.null :: [])))) 44 (.inl (bI_ B, 4, .inl (fun _ => 0)))) 40 (.inr (9, (Value.int 0 :: Value.ref q41 :: Value.int 0 :: Value.int 0 :: Value.int 0 :: Value.int 0 :: Value.ref q42 :: Value.int 0 :: Value.ref q43 :: Value.ref q44 :: Value.int 0 :: Value.null :: Value.int 0 :: Value.null :: Value.int 0 :: Value.null :: Value.null :: Value.null :: Value.null :: Value.null :: Value.int 0 :: Value.null :: Value.null :: Value.int 0 :: Value.null :: Value.null :: Value.long 0 :: Value.null :: Value.null :: Value.null :: Value.int 0 :: Value.int 0 :: Value.int 0 :: Value.int 0 :: Value.null :: [])))) 45 (.inl (bI_ B, 25, .inl (fun _ => 0)))) 40 (.inr (9, (Value.int 0 :: Value.ref q41 :: Value.int 0 :: Value.int 0 :: Value.int 0 :: Value.int 0 :: Value.ref q42 :: Value.int 0 :: Value.ref q43 :: Value.ref q44 :: Value.int 0 :: Value.ref q45 :: Value.int 0 :: Value.null :: Value.int 0 :: Value.null :: Value.null :: Value.null :: Value.null :: Value.null :: Value.int 0 :: Value.null :: Value.null :: Value.int 0 :: Value.null :: Value.null :: Value.long 0 :: Value.null :: Value.null :: Value.null :: Value.int 0 :: Value.int 0 :: Value.int 0 :: Value.int 0 :: Value.null :: [])))) 46 (.inl (bI_ B, 5, .inl (fun _ => 0)))) 40 (.inr (9, (Value.int 0 :: Value.ref q41 :: Value.int 0 :: Value.int 0 :: Value.int 0 :: Value.int 0 :: Value.ref q42 :: Value.int 0 :: Value.ref q43 :: Value.ref q44 :: Value.int 0 :: Value.ref q45 :: Value.int 0 :: Value.ref q46 :: Value.int 0 :: Value.null :: Value.null :: Value.null :: Value.null :: Value.null :: Value.int 0 :: Value.null :: Value.null :: Value.int 0 :: Value.null :: Value.null :: Value.long 0 :: Value.null :: Value.null :: Value.null :: Value.int 0 :: Value.int 0 :: Value.int 0 :: Value.int 0 :: Value.null :: [])))) 47 (.inl (bI_ B, 4, .inl (fun _ => 0)))) 40 (.inr (9, (Value.int 0 :: Value.ref q41 :: Value.int 0 :: Value.int 0 :: Value.int 0 :: Value.int 0 :: Value.ref q42 :: Value.int 0 :: Value.ref q43 :: Value.ref q44 :: Value.int 0 :: Value.ref q45 :: Value.int 0 :: Value.ref q46 :: Value.int 0 :: Value.ref q47 :: Value.null :: Value.null :: Value.null :: Value.null :: Value.int 0 :: Value.null :: Value.null :: Value.int 0 :: Value.null :: Value.null :: Value.long 0 :: Value.null :: Value.null :: Value.null :: Value.int 0 :: Value.int 0 :: Value.int 0 :: Value.int 0 :: Value.null :: [])))) 48 (.inl (bI_ B, 4, .inl (fun _ => 0)))) 40 (.inr (9, (Value.int 0 :: Value.ref q41 :: Value.int 0 :: Value.int 0 :: Value.int 0 :: Value.int 0 :: Value.ref q42 :: Value.int 0 :: Value.ref q43 :: Value.ref q44 :: Value.int 0 :: Value.ref q45 :: Value.int 0 :: Value.ref q46 :: Value.int 0 :: Value.ref q47 :: Value.ref q48 :: Value.null :: Value.null :: Value.null :: Value.int 0 :: Value.null :: Value.null :: Value.int 0 :: Value.null :: Value.null :: Value.long 0 :: Value.null :: Value.null :: Value.null :: Value.int 0 :: Value.int 0 :: Value.int 0 :: Value.int 0 :: Value.null :: [])))) 49 (.inl (bI_ B, 31, .inl (fun _ => 0)))) 40 (.inr (9, (Value.int 0 :: Value.ref q41 :: Value.int 0 :: Value.int 0 :: Value.int 0 :: Value.int 0 :: Value.ref q42 :: Value.int 0 :: Value.ref q43 :: Value.ref q44 :: Value.int 0 :: Value.ref q45 :: Value.int 0 :: Value.ref q46 :: Value.int 0 :: Value.ref q47 :: Value.ref q48 :: Value.ref q49 :: Value.null :: Value.null :: Value.int 0 :: Value.null :: Value.null :: Value.int 0 :: Value.null :: Value.null :: Value.long 0 :: Value.null :: Value.null :: Value.null :: Value.int 0 :: Value.int 0 :: Value.int 0 :: Value.int 0 :: Value.null :: [])))) 50 (.inl (bI_ B, 31, .inl (fun _ => 0)))) 40 (.inr (9, (Value.int 0 :: Value.ref q41 :: Value.int 0 :: Value.int 0 :: Value.int 0 :: Value.int 0 :: Value.ref q42 :: Value.int 0 :: Value.ref q43 :: Value.ref q44 :: Value.int 0 :: Value.ref q45 :: Value.int 0 :: Value.ref q46 :: Value.int 0 :: Value.ref q47 :: Value.ref q48 :: Value.ref q49 :: Value.ref q50 :: Value.null :: Value.int 0 :: Value.null :: Value.null :: Value.int 0 :: Value.null :: Value.null :: Value.long 0 :: Value.null :: Value.null :: Value.null :: Value.int 0 :: Value.int 0 :: Value.int 0 :: Value.int 0 :: Value.null :: [])))) 51 (.inl (bI_ B, 434, .inl (fun _ => 0)))) 40 (.inr (9, (Value.int 0 :: Value.ref q41 :: Value.int 0 :: Value.int 0 :: Value.int 0 :: Value.int 0 :: Value.ref q42 :: Value.int 0 :: Value.ref q43 :: Value.ref q44 :: Value.int 0 :: Value.ref q45 :: Value.int 0 :: Value.ref q46 :: Value.int 0 :: Value.ref q47 :: Value.ref q48 :: Value.ref q49 :: Value.ref q50 :: Value.ref q51 :: Value.int 0 :: Value.null :: Value.null :: Value.int 0 :: Value.null :: Value.null :: Value.long 0 :: Value.null :: Value.null :: Value.null :: Value.int 0 :: Value.int 0 :: Value.int 0 :: Value.int 0 :: Value.null :: [])))) 52 (.inl (bI_ B, 62, .inl (fun _ => 0)))) 40 (.inr (9, (Value.int 0 :: Value.ref q41 :: Value.int 0 :: Value.int 0 :: Value.int 0 :: Value.int 0 :: Value.ref q42 :: Value.int 0 :: Value.ref q43 :: Value.ref q44 :: Value.int 0 :: Value.ref q45 :: Value.int 0 :: Value.ref q46 :: Value.int 0 :: Value.ref q47 :: Value.ref q48 :: Value.ref q49 :: Value.ref q50 :: Value.ref q51 :: Value.int 0 :: Value.ref q52 :: Value.null :: Value.int 0 :: Value.null :: Value.null :: Value.long 0 :: Value.null :: Value.null :: Value.null :: Value.int 0 :: Value.int 0 :: Value.int 0 :: Value.int 0 :: Value.null :: [])))) 53 (.inl (bZ_ B, 2, .inl (fun _ => 0)))) 40 (.inr (9, (Value.int 0 :: Value.ref q41 :: Value.int 0 :: Value.int 0 :: Value.int 0 :: Value.int 0 :: Value.ref q42 :: Value.int 0 :: Value.ref q43 :: Value.ref q44 :: Value.int 0 :: Value.ref q45 :: Value.int 0 :: Value.ref q46 :: Value.int 0 :: Value.ref q47 :: Value.ref q48 :: Value.ref q49 :: Value.ref q50 :: Value.ref q51 :: Value.int 0 :: Value.ref q52 :: Value.ref q53 :: Value.int 0 :: Value.null :: Value.null :: Value.long 0 :: Value.null :: Value.null :: Value.null :: Value.int 0 :: Value.int 0 :: Value.int 0 :: Value.int 0 :: Value.null :: [])))) 54 (.inl (bI_ B, 6, .inl (fun _ => 0)))) 40 (.inr (9, (Value.int 0 :: Value.ref q41 :: Value.int 0 :: Value.int 0 :: Value.int 0 :: Value.int 0 :: Value.ref q42 :: Value.int 0 :: Value.ref q43 :: Value.ref q44 :: Value.int 0 :: Value.ref q45 :: Value.int 0 :: Value.ref q46 :: Value.int 0 :: Value.ref q47 :: Value.ref q48 :: Value.ref q49 :: Value.ref q50 :: Value.ref q51 :: Value.int 0 :: Value.ref q52 :: Value.ref q53 :: Value.int 0 :: Value.ref q54 :: Value.null :: Value.long 0 :: Value.null :: Value.null :: Value.null :: Value.int 0 :: Value.int 0 :: Value.int 0 :: Value.int 0 :: Value.null :: [])))) 55 (.inl (bI_ B, 6, .inl (fun _ => 0)))) 40 (.inr (9, (Value.int 0 :: Value.ref q41 :: Value.int 0 :: Value.int 0 :: Value.int 0 :: Value.int 0 :: Value.ref q42 :: Value.int 0 :: Value.ref q43 :: Value.ref q44 :: Value.int 0 :: Value.ref q45 :: Value.int 0 :: Value.ref q46 :: Value.int 0 :: Value.ref q47 :: Value.ref q48 :: Value.ref q49 :: Value.ref q50 :: Value.ref q51 :: Value.int 0 :: Value.ref q52 :: Value.ref q53 :: Value.int 0 :: Value.ref q54 :: Value.ref q55 :: Value.long 0 :: Value.null :: Value.null :: Value.null :: Value.int 0 :: Value.int 0 :: Value.int 0 :: Value.int 0 :: Value.null :: [])))) 56 (.inl (bI_ B, 5, .inl (fun _ => 0)))) 40 (.inr (9, (Value.int 0 :: Value.ref q41 :: Value.int 0 :: Value.int 0 :: Value.int 0 :: Value.int 0 :: Value.ref q42 :: Value.int 0 :: Value.ref q43 :: Value.ref q44 :: Value.int 0 :: Value.ref q45 :: Value.int 0 :: Value.ref q46 :: Value.int 0 :: Value.ref q47 :: Value.ref q48 :: Value.ref q49 :: Value.ref q50 :: Value.ref q51 :: Value.int 0 :: Value.ref q52 :: Value.ref q53 :: Value.int 0 :: Value.ref q54 :: Value.ref q55 :: Value.long 0 :: Value.ref q56 :: Value.null :: Value.null :: Value.int 0 :: Value.int 0 :: Value.int 0 :: Value.int 0 :: Value.null :: [])))) 57 (.inl (bI_ B, 5, .inl (fun _ => 0)))) 40 (.inr (9, (Value.int 0 :: Value.ref q41 :: Value.int 0 :: Value.int 0 :: Value.int 0 :: Value.int 0 :: Value.ref q42 :: Value.int 0 :: Value.ref q43 :: Value.ref q44 :: Value.int 0 :: Value.ref q45 :: Value.int 0 :: Value.ref q46 :: Value.int 0 :: Value.ref q47 :: Value.ref q48 :: Value.ref q49 :: Value.ref q50 :: Value.ref q51 :: Value.int 0 :: Value.ref q52 :: Value.ref q53 :: Value.int 0 :: Value.ref q54 :: Value.ref q55 :: Value.long 0 :: Value.ref q56 :: Value.ref q57 :: Value.null :: Value.int 0 :: Value.int 0 :: Value.int 0 :: Value.int 0 :: Value.null :: [])))) 58 (.inl (bI_ B, 5, .inl (fun _ => 0)))) 40 (.inr (9, (Value.int 0 :: Value.ref q41 :: Value.int 0 :: Value.int 0 :: Value.int 0 :: Value.int 0 :: Value.ref q42 :: Value.int 0 :: Value.ref q43 :: Value.ref q44 :: Value.int 0 :: Value.ref q45 :: Value.int 0 :: Value.ref q46 :: Value.int 0 :: Value.ref q47 :: Value.ref q48 :: Value.ref q49 :: Value.ref q50 :: Value.ref q51 :: Value.int 0 :: Value.ref q52 :: Value.ref q53 :: Value.int 0 :: Value.ref q54 :: Value.ref q55 :: Value.long 0 :: Value.ref q56 :: Value.ref q57 :: Value.ref q58 :: Value.int 0 :: Value.int 0 :: Value.int 0 :: Value.int 0 :: Value.null :: [])))) 59 (.inl (bI_ B, 32, .inl (fun _ => 0)))) 40 (.inr (9, (Value.int 0 :: Value.ref q41 :: Value.int 0 :: Value.int 0 :: Value.int 0 :: Value.int 0 :: Value.ref q42 :: Value.int 0 :: Value.ref q43 :: Value.ref q44 :: Value.int 0 :: Value.ref q45 :: Value.int 0 :: Value.ref q46 :: Value.int 0 :: Value.ref q47 :: Value.ref q48 :: Value.ref q49 :: Value.ref q50 :: Value.ref q51 :: Value.int 0 :: Value.ref q52 :: Value.ref q53 :: Value.int 0 :: Value.ref q54 :: Value.ref q55 :: Value.long 0 :: Value.ref q56 :: Value.ref q57 :: Value.ref q58 :: Value.int 0 :: Value.int 0 :: Value.int 0 :: Value.int 0 :: Value.ref q59 :: []))))) := by
  refine CtB.of [some (.ref a)] (own := RX9) rfl (by decide) rfl (Nat.le_of_ble_eq_true rfl) rfl (fun C hI hR => ?_)
  refine y_aload_n dX9_init_0 rfl rfl ?_
  refine y_obj dX9_init_1 wo_X9 (Nat.le_of_ble_eq_true rfl) (Nat.le_of_ble_eq_true rfl) ?_
  refine y_aload_n dX9_init_4 rfl rfl ?_
  refine y_bipush (v := 56) dX9_init_5 (by decide) ?_
  refine y_newi (N := 56) dX9_init_7 (by decide) (by decide) (Nat.le_of_ble_eq_true rfl) (Nat.le_of_ble_eq_true rfl) (Nat.le_of_ble_eq_true rfl) (fun q41 => ?_)
  refine y_putF (c0 := 40) (fs := (Value.int 0 :: Value.null :: Value.int 0 :: Value.int 0 :: Value.int 0 :: Value.int 0 :: Value.null :: Value.int 0 :: Value.null :: Value.null :: Value.int 0 :: Value.null :: Value.int 0 :: Value.null :: Value.int 0 :: Value.null :: Value.null :: Value.null :: Value.null :: Value.null :: Value.int 0 :: Value.null :: Value.null :: Value.int 0 :: Value.null :: Value.null :: Value.long 0 :: Value.null :: Value.null :: Value.null :: Value.int 0 :: Value.int 0 :: Value.int 0 :: Value.int 0 :: Value.null :: [])) hI dX9_init_9 gX9_7 (Nat.le_of_ble_eq_true rfl) ha he rfl rfl (Nat.le_of_ble_eq_true rfl) ?_
  refine y_aload_n dX9_init_12 rfl rfl ?_
  refine y_iconst (v := 5) dX9_init_13 (by decide) ?_
  refine y_newi (N := 5) dX9_init_14 (by decide) (by decide) (Nat.le_of_ble_eq_true rfl) (Nat.le_of_ble_eq_true rfl) (Nat.le_of_ble_eq_true rfl) (fun q42 => ?_)
  refine y_putF (c0 := 40) (fs := (Value.int 0 :: Value.ref q41 :: Value.int 0 :: Value.int 0 :: Value.int 0 :: Value.int 0 :: Value.null :: Value.int 0 :: Value.null :: Value.null :: Value.int 0 :: Value.null :: Value.int 0 :: Value.null :: Value.int 0 :: Value.null :: Value.null :: Value.null :: Value.null :: Value.null :: Value.int 0 :: Value.null :: Value.null :: Value.int 0 :: Value.null :: Value.null :: Value.long 0 :: Value.null :: Value.null :: Value.null :: Value.int 0 :: Value.int 0 :: Value.int 0 :: Value.int 0 :: Value.null :: [])) hI dX9_init_16 gX9_13 (Nat.le_of_ble_eq_true rfl) ha rfl rfl rfl (Nat.le_of_ble_eq_true rfl) ?_
  refine y_aload_n dX9_init_19 rfl rfl ?_
  refine y_iconst (v := 4) dX9_init_20 (by decide) ?_
  refine y_newi (N := 4) dX9_init_21 (by decide) (by decide) (Nat.le_of_ble_eq_true rfl) (Nat.le_of_ble_eq_true rfl) (Nat.le_of_ble_eq_true rfl) (fun q43 => ?_)
  refine y_putF (c0 := 40) (fs := (Value.int 0 :: Value.ref q41 :: Value.int 0 :: Value.int 0 :: Value.int 0 :: Value.int 0 :: Value.ref q42 :: Value.int 0 :: Value.null :: Value.null :: Value.int 0 :: Value.null :: Value.int 0 :: Value.null :: Value.int 0 :: Value.null :: Value.null :: Value.null :: Value.null :: Value.null :: Value.int 0 :: Value.null :: Value.null :: Value.int 0 :: Value.null :: Value.null :: Value.long 0 :: Value.null :: Value.null :: Value.null :: Value.int 0 :: Value.int 0 :: Value.int 0 :: Value.int 0 :: Value.null :: [])) hI dX9_init_23 gX9_16 (Nat.le_of_ble_eq_true rfl) ha rfl rfl rfl (Nat.le_of_ble_eq_true rfl) ?_
  refine y_aload_n dX9_init_26 rfl rfl ?_
  refine y_iconst (v := 4) dX9_init_27 (by decide) ?_
  refine y_newi (N := 4) dX9_init_28 (by decide) (by decide) (Nat.le_of_ble_eq_true rfl) (Nat.le_of_ble_eq_true rfl) (Nat.le_of_ble_eq_true rfl) (fun q44 => ?_)
  refine y_putF (c0 := 40) (fs := (Value.int 0 :: Value.ref q41 :: Value.int 0 :: Value.int 0 :: Value.int 0 :: Value.int 0 :: Value.ref q42 :: Value.int 0 :: Value.ref q43 :: Value.null :: Value.int 0 :: Value.null :: Value.int 0 :: Value.null :: Value.int 0 :: Value.null :: Value.null :: Value.null :: Value.null :: Value.null :: Value.int 0 :: Value.null :: Value.null :: Value.int 0 :: Value.null :: Value.null :: Value.long 0 :: Value.null :: Value.null :: Value.null :: Value.int 0 :: Value.int 0 :: Value.int 0 :: Value.int 0 :: Value.null :: [])) hI dX9_init_30 gX9_19 (Nat.le_of_ble_eq_true rfl) ha rfl rfl rfl (Nat.le_of_ble_eq_true rfl) ?_
  refine y_aload_n dX9_init_33 rfl rfl ?_
  refine y_bipush (v := 25) dX9_init_34 (by decide) ?_
  refine y_newi (N := 25) dX9_init_36 (by decide) (by decide) (Nat.le_of_ble_eq_true rfl) (Nat.le_of_ble_eq_true rfl) (Nat.le_of_ble_eq_true rfl) (fun q45 => ?_)
  refine y_putF (c0 := 40) (fs := (Value.int 0 :: Value.ref q41 :: Value.int 0 :: Value.int 0 :: Value.int 0 :: Value.int 0 :: Value.ref q42 :: Value.int 0 :: Value.ref q43 :: Value.ref q44 :: Value.int 0 :: Value.null :: Value.int 0 :: Value.null :: Value.int 0 :: Value.null :: Value.null :: Value.null :: Value.null :: Value.null :: Value.int 0 :: Value.null :: Value.null :: Value.int 0 :: Value.null :: Value.null :: Value.long 0 :: Value.null :: Value.null :: Value.null :: Value.int 0 :: Value.int 0 :: Value.int 0 :: Value.int 0 :: Value.null :: [])) hI dX9_init_38 gX9_22 (Nat.le_of_ble_eq_true rfl) ha rfl rfl rfl (Nat.le_of_ble_eq_true rfl) ?_
  refine y_aload_n dX9_init_41 rfl rfl ?_
  refine y_iconst (v := 5) dX9_init_42 (by decide) ?_
  refine y_newi (N := 5) dX9_init_43 (by decide) (by decide) (Nat.le_of_ble_eq_true rfl) (Nat.le_of_ble_eq_true rfl) (Nat.le_of_ble_eq_true rfl) (fun q46 => ?_)
  refine y_putF (c0 := 40) (fs := (Value.int 0 :: Value.ref q41 :: Value.int 0 :: Value.int 0 :: Value.int 0 :: Value.int 0 :: Value.ref q42 :: Value.int 0 :: Value.ref q43 :: Value.ref q44 :: Value.int 0 :: Value.ref q45 :: Value.int 0 :: Value.null :: Value.int 0 :: Value.null :: Value.null :: Value.null :: Value.null :: Value.null :: Value.int 0 :: Value.null :: Value.null :: Value.int 0 :: Value.null :: Value.null :: Value.long 0 :: Value.null :: Value.null :: Value.null :: Value.int 0 :: Value.int 0 :: Value.int 0 :: Value.int 0 :: Value.null :: [])) hI dX9_init_45 gX9_25 (Nat.le_of_ble_eq_true rfl) ha rfl rfl rfl (Nat.le_of_ble_eq_true rfl) ?_
  refine y_aload_n dX9_init_48 rfl rfl ?_
  refine y_iconst (v := 4) dX9_init_49 (by decide) ?_
  refine y_newi (N := 4) dX9_init_50 (by decide) (by decide) (Nat.le_of_ble_eq_true rfl) (Nat.le_of_ble_eq_true rfl) (Nat.le_of_ble_eq_true rfl) (fun q47 => ?_)
  refine y_putF (c0 := 40) (fs := (Value.int 0 :: Value.ref q41 :: Value.int 0 :: Value.int 0 :: Value.int 0 :: Value.int 0 :: Value.ref q42 :: Value.int 0 :: Value.ref q43 :: Value.ref q44 :: Value.int 0 :: Value.ref q45 :: Value.int 0 :: Value.ref q46 :: Value.int 0 :: Value.null :: Value.null :: Value.null :: Value.null :: Value.null :: Value.int 0 :: Value.null :: Value.null :: Value.int 0 :: Value.null :: Value.null :: Value.long 0 :: Value.null :: Value.null :: Value.null :: Value.int 0 :: Value.int 0 :: Value.int 0 :: Value.int 0 :: Value.null :: [])) hI dX9_init_52 gX9_28 (Nat.le_of_ble_eq_true rfl) ha rfl rfl rfl (Nat.le_of_ble_eq_true rfl) ?_
  refine y_aload_n dX9_init_55 rfl rfl ?_
  refine y_iconst (v := 4) dX9_init_56 (by decide) ?_
  refine y_newi (N := 4) dX9_init_57 (by decide) (by decide) (Nat.le_of_ble_eq_true rfl) (Nat.le_of_ble_eq_true rfl) (Nat.le_of_ble_eq_true rfl) (fun q48 => ?_)
  refine y_putF (c0 := 40) (fs := (Value.int 0 :: Value.ref q41 :: Value.int 0 :: Value.int 0 :: Value.int 0 :: Value.int 0 :: Value.ref q42 :: Value.int 0 :: Value.ref q43 :: Value.ref q44 :: Value.int 0 :: Value.ref q45 :: Value.int 0 :: Value.ref q46 :: Value.int 0 :: Value.ref q47 :: Value.null :: Value.null :: Value.null :: Value.null :: Value.int 0 :: Value.null :: Value.null :: Value.int 0 :: Value.null :: Value.null :: Value.long 0 :: Value.null :: Value.null :: Value.null :: Value.int 0 :: Value.int 0 :: Value.int 0 :: Value.int 0 :: Value.null :: [])) hI dX9_init_59 gX9_31 (Nat.le_of_ble_eq_true rfl) ha rfl rfl rfl (Nat.le_of_ble_eq_true rfl) ?_
  refine y_aload_n dX9_init_62 rfl rfl ?_
  refine y_bipush (v := 31) dX9_init_63 (by decide) ?_
  refine y_newi (N := 31) dX9_init_65 (by decide) (by decide) (Nat.le_of_ble_eq_true rfl) (Nat.le_of_ble_eq_true rfl) (Nat.le_of_ble_eq_true rfl) (fun q49 => ?_)
  refine y_putF (c0 := 40) (fs := (Value.int 0 :: Value.ref q41 :: Value.int 0 :: Value.int 0 :: Value.int 0 :: Value.int 0 :: Value.ref q42 :: Value.int 0 :: Value.ref q43 :: Value.ref q44 :: Value.int 0 :: Value.ref q45 :: Value.int 0 :: Value.ref q46 :: Value.int 0 :: Value.ref q47 :: Value.ref q48 :: Value.null :: Value.null :: Value.null :: Value.int 0 :: Value.null :: Value.null :: Value.int 0 :: Value.null :: Value.null :: Value.long 0 :: Value.null :: Value.null :: Value.null :: Value.int 0 :: Value.int 0 :: Value.int 0 :: Value.int 0 :: Value.null :: [])) hI dX9_init_67 gX9_34 (Nat.le_of_ble_eq_true rfl) ha rfl rfl rfl (Nat.le_of_ble_eq_true rfl) ?_
  refine y_aload_n dX9_init_70 rfl rfl ?_
  refine y_bipush (v := 31) dX9_init_71 (by decide) ?_
  refine y_newi (N := 31) dX9_init_73 (by decide) (by decide) (Nat.le_of_ble_eq_true rfl) (Nat.le_of_ble_eq_true rfl) (Nat.le_of_ble_eq_true rfl) (fun q50 => ?_)
  refine y_putF (c0 := 40) (fs := (Value.int 0 :: Value.ref q41 :: Value.int 0 :: Value.int 0 :: Value.int 0 :: Value.int 0 :: Value.ref q42 :: Value.int 0 :: Value.ref q43 :: Value.ref q44 :: Value.int 0 :: Value.ref q45 :: Value.int 0 :: Value.ref q46 :: Value.int 0 :: Value.ref q47 :: Value.ref q48 :: Value.ref q49 :: Value.null :: Value.null :: Value.int 0 :: Value.null :: Value.null :: Value.int 0 :: Value.null :: Value.null :: Value.long 0 :: Value.null :: Value.null :: Value.null :: Value.int 0 :: Value.int 0 :: Value.int 0 :: Value.int 0 :: Value.null :: [])) hI dX9_init_75 gX9_37 (Nat.le_of_ble_eq_true rfl) ha rfl rfl rfl (Nat.le_of_ble_eq_true rfl) ?_
  refine y_aload_n dX9_init_78 rfl rfl ?_
  refine y_sipush (v := 434) dX9_init_79 (by decide) ?_
  refine y_newi (N := 434) dX9_init_82 (by decide) (by decide) (Nat.le_of_ble_eq_true rfl) (Nat.le_of_ble_eq_true rfl) (Nat.le_of_ble_eq_true rfl) (fun q51 => ?_)
  refine y_putF (c0 := 40) (fs := (Value.int 0 :: Value.ref q41 :: Value.int 0 :: Value.int 0 :: Value.int 0 :: Value.int 0 :: Value.ref q42 :: Value.int 0 :: Value.ref q43 :: Value.ref q44 :: Value.int 0 :: Value.ref q45 :: Value.int 0 :: Value.ref q46 :: Value.int 0 :: Value.ref q47 :: Value.ref q48 :: Value.ref q49 :: Value.ref q50 :: Value.null :: Value.int 0 :: Value.null :: Value.null :: Value.int 0 :: Value.null :: Value.null :: Value.long 0 :: Value.null :: Value.null :: Value.null :: Value.int 0 :: Value.int 0 :: Value.int 0 :: Value.int 0 :: Value.null :: [])) hI dX9_init_84 gX9_40 (Nat.le_of_ble_eq_true rfl) ha rfl rfl rfl (Nat.le_of_ble_eq_true rfl) ?_
  refine y_aload_n dX9_init_87 rfl rfl ?_
  refine y_bipush (v := 62) dX9_init_88 (by decide) ?_
  refine y_newi (N := 62) dX9_init_90 (by decide) (by decide) (Nat.le_of_ble_eq_true rfl) (Nat.le_of_ble_eq_true rfl) (Nat.le_of_ble_eq_true rfl) (fun q52 => ?_)
  refine y_putF (c0 := 40) (fs := (Value.int 0 :: Value.ref q41 :: Value.int 0 :: Value.int 0 :: Value.int 0 :: Value.int 0 :: Value.ref q42 :: Value.int 0 :: Value.ref q43 :: Value.ref q44 :: Value.int 0 :: Value.ref q45 :: Value.int 0 :: Value.ref q46 :: Value.int 0 :: Value.ref q47 :: Value.ref q48 :: Value.ref q49 :: Value.ref q50 :: Value.ref q51 :: Value.int 0 :: Value.null :: Value.null :: Value.int 0 :: Value.null :: Value.null :: Value.long 0 :: Value.null :: Value.null :: Value.null :: Value.int 0 :: Value.int 0 :: Value.int 0 :: Value.int 0 :: Value.null :: [])) hI dX9_init_92 gX9_43 (Nat.le_of_ble_eq_true rfl) ha rfl rfl rfl (Nat.le_of_ble_eq_true rfl) ?_
  refine y_aload_n dX9_init_95 rfl rfl ?_
  refine y_iconst (v := 2) dX9_init_96 (by decide) ?_
  refine y_newz (N := 2) dX9_init_97 (by decide) (by decide) (Nat.le_of_ble_eq_true rfl) (Nat.le_of_ble_eq_true rfl) (Nat.le_of_ble_eq_true rfl) (fun q53 => ?_)
  refine y_putF (c0 := 40) (fs := (Value.int 0 :: Value.ref q41 :: Value.int 0 :: Value.int 0 :: Value.int 0 :: Value.int 0 :: Value.ref q42 :: Value.int 0 :: Value.ref q43 :: Value.ref q44 :: Value.int 0 :: Value.ref q45 :: Value.int 0 :: Value.ref q46 :: Value.int 0 :: Value.ref q47 :: Value.ref q48 :: Value.ref q49 :: Value.ref q50 :: Value.ref q51 :: Value.int 0 :: Value.ref q52 :: Value.null :: Value.int 0 :: Value.null :: Value.null :: Value.long 0 :: Value.null :: Value.null :: Value.null :: Value.int 0 :: Value.int 0 :: Value.int 0 :: Value.int 0 :: Value.null :: [])) hI dX9_init_99 gX9_46 (Nat.le_of_ble_eq_true rfl) ha rfl rfl rfl (Nat.le_of_ble_eq_true rfl) ?_
  refine y_aload_n dX9_init_102 rfl rfl ?_
  refine y_bipush (v := 6) dX9_init_103 (by decide) ?_
  refine y_newi (N := 6) dX9_init_105 (by decide) (by decide) (Nat.le_of_ble_eq_true rfl) (Nat.le_of_ble_eq_true rfl) (Nat.le_of_ble_eq_true rfl) (fun q54 => ?_)
  refine y_putF (c0 := 40) (fs := (Value.int 0 :: Value.ref q41 :: Value.int 0 :: Value.int 0 :: Value.int 0 :: Value.int 0 :: Value.ref q42 :: Value.int 0 :: Value.ref q43 :: Value.ref q44 :: Value.int 0 :: Value.ref q45 :: Value.int 0 :: Value.ref q46 :: Value.int 0 :: Value.ref q47 :: Value.ref q48 :: Value.ref q49 :: Value.ref q50 :: Value.ref q51 :: Value.int 0 :: Value.ref q52 :: Value.ref q53 :: Value.int 0 :: Value.null :: Value.null :: Value.long 0 :: Value.null :: Value.null :: Value.null :: Value.int 0 :: Value.int 0 :: Value.int 0 :: Value.int 0 :: Value.null :: [])) hI dX9_init_107 gX9_50 (Nat.le_of_ble_eq_true rfl) ha rfl rfl rfl (Nat.le_of_ble_eq_true rfl) ?_
  refine y_aload_n dX9_init_110 rfl rfl ?_
  refine y_bipush (v := 6) dX9_init_111 (by decide) ?_
  refine y_newi (N := 6) dX9_init_113 (by decide) (by decide) (Nat.le_of_ble_eq_true rfl) (Nat.le_of_ble_eq_true rfl) (Nat.le_of_ble_eq_true rfl) (fun q55 => ?_)
  refine y_putF (c0 := 40) (fs := (Value.int 0 :: Value.ref q41 :: Value.int 0 :: Value.int 0 :: Value.int 0 :: Value.int 0 :: Value.ref q42 :: Value.int 0 :: Value.ref q43 :: Value.ref q44 :: Value.int 0 :: Value.ref q45 :: Value.int 0 :: Value.ref q46 :: Value.int 0 :: Value.ref q47 :: Value.ref q48 :: Value.ref q49 :: Value.ref q50 :: Value.ref q51 :: Value.int 0 :: Value.ref q52 :: Value.ref q53 :: Value.int 0 :: Value.ref q54 :: Value.null :: Value.long 0 :: Value.null :: Value.null :: Value.null :: Value.int 0 :: Value.int 0 :: Value.int 0 :: Value.int 0 :: Value.null :: [])) hI dX9_init_115 gX9_53 (Nat.le_of_ble_eq_true rfl) ha rfl rfl rfl (Nat.le_of_ble_eq_true rfl) ?_
  refine y_aload_n dX9_init_118 rfl rfl ?_
  refine y_iconst (v := 5) dX9_init_119 (by decide) ?_
  refine y_newi (N := 5) dX9_init_120 (by decide) (by decide) (Nat.le_of_ble_eq_true rfl) (Nat.le_of_ble_eq_true rfl) (Nat.le_of_ble_eq_true rfl) (fun q56 => ?_)
  refine y_putF (c0 := 40) (fs := (Value.int 0 :: Value.ref q41 :: Value.int 0 :: Value.int 0 :: Value.int 0 :: Value.int 0 :: Value.ref q42 :: Value.int 0 :: Value.ref q43 :: Value.ref q44 :: Value.int 0 :: Value.ref q45 :: Value.int 0 :: Value.ref q46 :: Value.int 0 :: Value.ref q47 :: Value.ref q48 :: Value.ref q49 :: Value.ref q50 :: Value.ref q51 :: Value.int 0 :: Value.ref q52 :: Value.ref q53 :: Value.int 0 :: Value.ref q54 :: Value.ref q55 :: Value.long 0 :: Value.null :: Value.null :: Value.null :: Value.int 0 :: Value.int 0 :: Value.int 0 :: Value.int 0 :: Value.null :: [])) hI dX9_init_122 gX9_56 (Nat.le_of_ble_eq_true rfl) ha rfl rfl rfl (Nat.le_of_ble_eq_true rfl) ?_
  refine y_aload_n dX9_init_125 rfl rfl ?_
  refine y_iconst (v := 5) dX9_init_126 (by decide) ?_
  refine y_newi (N := 5) dX9_init_127 (by decide) (by decide) (Nat.le_of_ble_eq_true rfl) (Nat.le_of_ble_eq_true rfl) (Nat.le_of_ble_eq_true rfl) (fun q57 => ?_)
  refine y_putF (c0 := 40) (fs := (Value.int 0 :: Value.ref q41 :: Value.int 0 :: Value.int 0 :: Value.int 0 :: Value.int 0 :: Value.ref q42 :: Value.int 0 :: Value.ref q43 :: Value.ref q44 :: Value.int 0 :: Value.ref q45 :: Value.int 0 :: Value.ref q46 :: Value.int 0 :: Value.ref q47 :: Value.ref q48 :: Value.ref q49 :: Value.ref q50 :: Value.ref q51 :: Value.int 0 :: Value.ref q52 :: Value.ref q53 :: Value.int 0 :: Value.ref q54 :: Value.ref q55 :: Value.long 0 :: Value.ref q56 :: Value.null :: Value.null :: Value.int 0 :: Value.int 0 :: Value.int 0 :: Value.int 0 :: Value.null :: [])) hI dX9_init_129 gX9_59 (Nat.le_of_ble_eq_true rfl) ha rfl rfl rfl (Nat.le_of_ble_eq_true rfl) ?_
  refine y_aload_n dX9_init_132 rfl rfl ?_
  refine y_iconst (v := 5) dX9_init_133 (by decide) ?_
  refine y_newi (N := 5) dX9_init_134 (by decide) (by decide) (Nat.le_of_ble_eq_true rfl) (Nat.le_of_ble_eq_true rfl) (Nat.le_of_ble_eq_true rfl) (fun q58 => ?_)
  refine y_putF (c0 := 40) (fs := (Value.int 0 :: Value.ref q41 :: Value.int 0 :: Value.int 0 :: Value.int 0 :: Value.int 0 :: Value.ref q42 :: Value.int 0 :: Value.ref q43 :: Value.ref q44 :: Value.int 0 :: Value.ref q45 :: Value.int 0 :: Value.ref q46 :: Value.int 0 :: Value.ref q47 :: Value.ref q48 :: Value.ref q49 :: Value.ref q50 :: Value.ref q51 :: Value.int 0 :: Value.ref q52 :: Value.ref q53 :: Value.int 0 :: Value.ref q54 :: Value.ref q55 :: Value.long 0 :: Value.ref q56 :: Value.ref q57 :: Value.null :: Value.int 0 :: Value.int 0 :: Value.int 0 :: Value.int 0 :: Value.null :: [])) hI dX9_init_136 gX9_62 (Nat.le_of_ble_eq_true rfl) ha rfl rfl rfl (Nat.le_of_ble_eq_true rfl) ?_
  refine y_aload_n dX9_init_139 rfl rfl ?_
  refine y_bipush (v := 32) dX9_init_140 (by decide) ?_
  refine y_newi (N := 32) dX9_init_142 (by decide) (by decide) (Nat.le_of_ble_eq_true rfl) (Nat.le_of_ble_eq_true rfl) (Nat.le_of_ble_eq_true rfl) (fun q59 => ?_)
  refine y_putF (c0 := 40) (fs := (Value.int 0 :: Value.ref q41 :: Value.int 0 :: Value.int 0 :: Value.int 0 :: Value.int 0 :: Value.ref q42 :: Value.int 0 :: Value.ref q43 :: Value.ref q44 :: Value.int 0 :: Value.ref q45 :: Value.int 0 :: Value.ref q46 :: Value.int 0 :: Value.ref q47 :: Value.ref q48 :: Value.ref q49 :: Value.ref q50 :: Value.ref q51 :: Value.int 0 :: Value.ref q52 :: Value.ref q53 :: Value.int 0 :: Value.ref q54 :: Value.ref q55 :: Value.long 0 :: Value.ref q56 :: Value.ref q57 :: Value.ref q58 :: Value.int 0 :: Value.int 0 :: Value.int 0 :: Value.int 0 :: Value.null :: [])) hI dX9_init_144 gX9_65 (Nat.le_of_ble_eq_true rfl) ha rfl rfl rfl (Nat.le_of_ble_eq_true rfl) ?_
  exact hR _ _ _ dX9_init_147 ⟨q41, q42, q43, q44, q45, q46, q47, q48, q49, q50, q51, q52, q53, q54, q55, q56, q57, q58, q59, rfl⟩
set_option maxHeartbeats 16000000 in
set_option maxRecDepth 100000 in
theorem i_X8_0 (B : Bs) (ad : Nat → Nat) (en : Nat → va_E) (a : Nat) (ha : ad 0 = a) (he : en 0 = .inr (8, [.null, .null, .null, .null, .null, .null, .null, .null, .null, .null, .null, .null, .long 0])) : CtB B 7 mX8_init 39 417 [.ref a] (1, ad, en) (fun w => ∃ (ad2 : Nat → Nat) (en2 : Nat → va_E), w = (40, ad2, en2) ∧ ad2 0 = a ∧ (∀ j, j < 40 → j ≠ 19 → en2 j = ce (mkE B ad2 0) M0 j) ∧ ∃ f : Nat → Option Nat, en2 19 = .inl (bT_ B, 2, .inr (.inr (.inr (.inr f)))) ∧ f 0 = some (ad2 20) ∧ f 1 = some (ad2 23)) := by
  refine CtB.of [some (.ref a), none] (own := RX8) rfl (by decide) rfl (Nat.le_of_ble_eq_true rfl) rfl (fun C hI hR => ?_)
  refine y_aload_n dX8_init_0 rfl rfl ?_
  refine y_obj dX8_init_1 wo_X8 (Nat.le_of_ble_eq_true rfl) (Nat.le_of_ble_eq_true rfl) ?_
  refine y_aload_n dX8_init_4 rfl rfl ?_
  refine y_new dX8_init_5 nX8_9 (Nat.le_of_ble_eq_true rfl) (Nat.le_of_ble_eq_true rfl) (fun q1 => ?_)
  refine y_dup dX8_init_8 rfl ?_
  refine y_call dX8_init_9 moX6_init rfl ins_X6_init (Or.inr ⟨_, kX8_11⟩) (i_X6_1 B _ _ q1 (by rfl) (by rfl)) (Nat.le_of_ble_eq_true rfl) rfl rfl (Nat.le_of_ble_eq_true rfl) (Nat.le_of_ble_eq_true rfl) (Nat.le_of_ble_eq_true rfl) ?_
  rintro w ⟨q2, rfl⟩
  refine y_putF (c0 := 0) (fs := [.null, .null, .null, .null, .null, .null, .null, .null, .null, .null, .null, .null, .long 0]) hI dX8_init_12 gX8_12 (Nat.le_of_ble_eq_true rfl) ha he rfl rfl (Nat.le_of_ble_eq_true rfl) ?_
  refine y_aload_n dX8_init_15 rfl rfl ?_
  refine y_new dX8_init_16 nX8_16 (Nat.le_of_ble_eq_true rfl) (Nat.le_of_ble_eq_true rfl) (fun q3 => ?_)
  refine y_dup dX8_init_19 rfl ?_
  refine y_call dX8_init_20 moX1_init rfl ins_X1_init (Or.inr ⟨_, kX8_18⟩) (i_X1_3 B _ _ q3 (by rfl) (by rfl)) (Nat.le_of_ble_eq_true rfl) rfl rfl (Nat.le_of_ble_eq_true rfl) (Nat.le_of_ble_eq_true rfl) (Nat.le_of_ble_eq_true rfl) ?_
  rintro w ⟨q4, q5, q6, q7, rfl⟩
  refine y_putF (c0 := 0) (fs := [.ref q1, .null, .null, .null, .null, .null, .null, .null, .null, .null, .null, .null, .long 0]) hI dX8_init_23 gX8_19 (Nat.le_of_ble_eq_true rfl) ha rfl rfl rfl (Nat.le_of_ble_eq_true rfl) ?_
  refine y_aload_n dX8_init_26 rfl rfl ?_
  refine y_new dX8_init_27 nX8_16 (Nat.le_of_ble_eq_true rfl) (Nat.le_of_ble_eq_true rfl) (fun q8 => ?_)
  refine y_dup dX8_init_30 rfl ?_
  refine y_call dX8_init_31 moX1_init rfl ins_X1_init (Or.inr ⟨_, kX8_18⟩) (i_X1_8 B _ _ q8 (by rfl) (by rfl)) (Nat.le_of_ble_eq_true rfl) rfl rfl (Nat.le_of_ble_eq_true rfl) (Nat.le_of_ble_eq_true rfl) (Nat.le_of_ble_eq_true rfl) ?_
  rintro w ⟨q9, q10, q11, q12, rfl⟩
  refine y_putF (c0 := 0) (fs := [.ref q1, .ref q3, .null, .null, .null, .null, .null, .null, .null, .null, .null, .null, .long 0]) hI dX8_init_34 gX8_23 (Nat.le_of_ble_eq_true rfl) ha rfl rfl rfl (Nat.le_of_ble_eq_true rfl) ?_
  refine y_aload_n dX8_init_37 rfl rfl ?_
  refine y_new dX8_init_38 nX8_26 (Nat.le_of_ble_eq_true rfl) (Nat.le_of_ble_eq_true rfl) (fun q13 => ?_)
  refine y_dup dX8_init_41 rfl ?_
  refine y_aload_n dX8_init_42 rfl rfl ?_
  refine y_get (c0 := 0) (fs := [.ref q1, .ref q3, .ref q8, .null, .null, .null, .null, .null, .null, .null, .null, .null, .long 0]) dX8_init_43 fX8_19 (Nat.le_of_ble_eq_true rfl) ha rfl rfl ?_
  refine y_call dX8_init_46 moX4_init rfl ins_X4_init (Or.inl kX8_28) (i_X4_13 B _ _ q13 q3 (by rfl) (by rfl)) (Nat.le_of_ble_eq_true rfl) rfl rfl (Nat.le_of_ble_eq_true rfl) (Nat.le_of_ble_eq_true rfl) (Nat.le_of_ble_eq_true rfl) ?_
  rintro w ⟨q14, q15, rfl⟩
  refine y_putF (c0 := 0) (fs := [.ref q1, .ref q3, .ref q8, .null, .null, .null, .null, .null, .null, .null, .null, .null, .long 0]) hI dX8_init_49 gX8_31 (Nat.le_of_ble_eq_true rfl) ha rfl rfl rfl (Nat.le_of_ble_eq_true rfl) ?_
  refine y_aload_n dX8_init_52 rfl rfl ?_
  refine y_new dX8_init_53 nX8_26 (Nat.le_of_ble_eq_true rfl) (Nat.le_of_ble_eq_true rfl) (fun q16 => ?_)
  refine y_dup dX8_init_56 rfl ?_
  refine y_aload_n dX8_init_57 rfl rfl ?_
  refine y_get (c0 := 0) (fs := [.ref q1, .ref q3, .ref q8, .ref q13, .null, .null, .null, .null, .null, .null, .null, .null, .long 0]) dX8_init_58 fX8_19 (Nat.le_of_ble_eq_true rfl) ha rfl rfl ?_
  refine y_call dX8_init_61 moX4_init rfl ins_X4_init (Or.inl kX8_28) (i_X4_16 B _ _ q16 q3 (by rfl) (by rfl)) (Nat.le_of_ble_eq_true rfl) rfl rfl (Nat.le_of_ble_eq_true rfl) (Nat.le_of_ble_eq_true rfl) (Nat.le_of_ble_eq_true rfl) ?_
  rintro w ⟨q17, q18, rfl⟩
  refine y_putF (c0 := 0) (fs := [.ref q1, .ref q3, .ref q8, .ref q13, .null, .null, .null, .null, .null, .null, .null, .null, .long 0]) hI dX8_init_64 gX8_35 (Nat.le_of_ble_eq_true rfl) ha rfl rfl rfl (Nat.le_of_ble_eq_true rfl) ?_
  refine y_aload_n dX8_init_67 rfl rfl ?_
  refine y_iconst (v := 2) dX8_init_68 (by decide) ?_
  refine y_anew (N := 2) dX8_init_69 aX8_26 (by decide) (by decide) (Nat.le_of_ble_eq_true rfl) (Nat.le_of_ble_eq_true rfl) (Nat.le_of_ble_eq_true rfl) (fun q19 => ?_)
  refine y_putF (c0 := 0) (fs := [.ref q1, .ref q3, .ref q8, .ref q13, .ref q16, .null, .null, .null, .null, .null, .null, .null, .long 0]) hI dX8_init_72 gX8_38 (Nat.le_of_ble_eq_true rfl) ha rfl rfl rfl (Nat.le_of_ble_eq_true rfl) ?_
  refine y_iconst (v := 0) dX8_init_75 (by decide) ?_
  refine y_istore_n dX8_init_76 rfl rfl (Nat.le_of_ble_eq_true rfl) ?_
  refine y_iload_n dX8_init_77 rfl rfl ?_
  refine y_iconst (v := 2) dX8_init_78 (by decide) ?_
  refine y_icmp_ge (tgt := 105) dX8_init_79 (by decide) (fun hc => absurd hc (by decide)) (fun hc => ?_)
  refine y_aload_n dX8_init_82 rfl rfl ?_
  refine y_get (c0 := 0) (fs := [.ref q1, .ref q3, .ref q8, .ref q13, .ref q16, .ref q19, .null, .null, .null, .null, .null, .null, .long 0]) dX8_init_83 fX8_38 (Nat.le_of_ble_eq_true rfl) ha rfl rfl ?_
  refine y_iload_n dX8_init_86 rfl rfl ?_
  refine y_new dX8_init_87 nX8_26 (Nat.le_of_ble_eq_true rfl) (Nat.le_of_ble_eq_true rfl) (fun q20 => ?_)
  refine y_dup dX8_init_90 rfl ?_
  refine y_aload_n dX8_init_91 rfl rfl ?_
  refine y_get (c0 := 0) (fs := [.ref q1, .ref q3, .ref q8, .ref q13, .ref q16, .ref q19, .null, .null, .null, .null, .null, .null, .long 0]) dX8_init_92 fX8_19 (Nat.le_of_ble_eq_true rfl) ha rfl rfl ?_
  refine y_call dX8_init_95 moX4_init rfl ins_X4_init (Or.inl kX8_28) (i_X4_20 B _ _ q20 q3 (by rfl) (by rfl)) (Nat.le_of_ble_eq_true rfl) rfl rfl (Nat.le_of_ble_eq_true rfl) (Nat.le_of_ble_eq_true rfl) (Nat.le_of_ble_eq_true rfl) ?_
  rintro w ⟨q21, q22, rfl⟩
  refine y_ast (c0 := 19) (c1 := 20) (n := 2) (vs := [.ref q3, .ref q21, .ref q22, .int 0]) (f := (fun _ => none)) dX8_init_98 (Nat.le_of_ble_eq_true rfl) (Nat.le_of_ble_eq_true rfl) rfl rfl rfl rfl (by unfold vp_in; decide) ?_
  refine y_iinc (v := 1) dX8_init_99 rfl (by decide) rfl (Nat.le_of_ble_eq_true rfl) ?_
  refine y_goto (tgt := 77) dX8_init_102 (by decide) ?_
  refine y_iload_n dX8_init_77 rfl rfl ?_
  refine y_iconst (v := 2) dX8_init_78 (by decide) ?_
  refine y_icmp_ge (tgt := 105) dX8_init_79 (by decide) (fun hc => absurd hc (by decide)) (fun hc => ?_)
  refine y_aload_n dX8_init_82 rfl rfl ?_
  refine y_get (c0 := 0) (fs := [.ref q1, .ref q3, .ref q8, .ref q13, .ref q16, .ref q19, .null, .null, .null, .null, .null, .null, .long 0]) dX8_init_83 fX8_38 (Nat.le_of_ble_eq_true rfl) ha rfl rfl ?_
  refine y_iload_n dX8_init_86 rfl rfl ?_
  refine y_new dX8_init_87 nX8_26 (Nat.le_of_ble_eq_true rfl) (Nat.le_of_ble_eq_true rfl) (fun q23 => ?_)
  refine y_dup dX8_init_90 rfl ?_
  refine y_aload_n dX8_init_91 rfl rfl ?_
  refine y_get (c0 := 0) (fs := [.ref q1, .ref q3, .ref q8, .ref q13, .ref q16, .ref q19, .null, .null, .null, .null, .null, .null, .long 0]) dX8_init_92 fX8_19 (Nat.le_of_ble_eq_true rfl) ha rfl rfl ?_
  refine y_call dX8_init_95 moX4_init rfl ins_X4_init (Or.inl kX8_28) (i_X4_23 B _ _ q23 q3 (by rfl) (by rfl)) (Nat.le_of_ble_eq_true rfl) rfl rfl (Nat.le_of_ble_eq_true rfl) (Nat.le_of_ble_eq_true rfl) (Nat.le_of_ble_eq_true rfl) ?_
  rintro w ⟨q24, q25, rfl⟩
  refine y_ast (c0 := 19) (c1 := 23) (n := 2) (vs := [.ref q3, .ref q24, .ref q25, .int 0]) (f := va_up ((fun _ => none)) (0 : Int32).toNatClampNeg (some q20)) dX8_init_98 (Nat.le_of_ble_eq_true rfl) (Nat.le_of_ble_eq_true rfl) rfl rfl rfl rfl (by unfold vp_in; decide) ?_
  refine y_iinc (v := 1) dX8_init_99 rfl (by decide) rfl (Nat.le_of_ble_eq_true rfl) ?_
  refine y_goto (tgt := 77) dX8_init_102 (by decide) ?_
  refine y_iload_n dX8_init_77 rfl rfl ?_
  refine y_iconst (v := 2) dX8_init_78 (by decide) ?_
  refine y_icmp_ge (tgt := 105) dX8_init_79 (by decide) (fun hc => ?_) (fun hc => absurd (by decide) hc)
  refine y_aload_n dX8_init_105 rfl rfl ?_
  refine y_iconst (v := 2) dX8_init_106 (by decide) ?_
  refine y_newz (N := 2) dX8_init_107 (by decide) (by decide) (Nat.le_of_ble_eq_true rfl) (Nat.le_of_ble_eq_true rfl) (Nat.le_of_ble_eq_true rfl) (fun q26 => ?_)
  refine y_putF (c0 := 0) (fs := [.ref q1, .ref q3, .ref q8, .ref q13, .ref q16, .ref q19, .null, .null, .null, .null, .null, .null, .long 0]) hI dX8_init_109 gX8_42 (Nat.le_of_ble_eq_true rfl) ha rfl rfl rfl (Nat.le_of_ble_eq_true rfl) ?_
  refine y_aload_n dX8_init_112 rfl rfl ?_
  refine y_new dX8_init_113 nX8_46 (Nat.le_of_ble_eq_true rfl) (Nat.le_of_ble_eq_true rfl) (fun q27 => ?_)
  refine y_dup dX8_init_116 rfl ?_
  refine y_call dX8_init_117 moX0_init rfl ins_X0_init (Or.inr ⟨_, kX8_48⟩) (i_X0_27 B _ _ q27 (by rfl) (by rfl)) (Nat.le_of_ble_eq_true rfl) rfl rfl (Nat.le_of_ble_eq_true rfl) (Nat.le_of_ble_eq_true rfl) (Nat.le_of_ble_eq_true rfl) ?_
  rintro w ⟨q28, q29, q30, rfl⟩
  refine y_putF (c0 := 0) (fs := [.ref q1, .ref q3, .ref q8, .ref q13, .ref q16, .ref q19, .ref q26, .null, .null, .null, .null, .null, .long 0]) hI dX8_init_120 gX8_49 (Nat.le_of_ble_eq_true rfl) ha rfl rfl rfl (Nat.le_of_ble_eq_true rfl) ?_
  refine y_aload_n dX8_init_123 rfl rfl ?_
  refine y_new dX8_init_124 nX8_53 (Nat.le_of_ble_eq_true rfl) (Nat.le_of_ble_eq_true rfl) (fun q31 => ?_)
  refine y_dup dX8_init_127 rfl ?_
  refine y_aload_n dX8_init_128 rfl rfl ?_
  refine y_get (c0 := 0) (fs := [.ref q1, .ref q3, .ref q8, .ref q13, .ref q16, .ref q19, .ref q26, .ref q27, .null, .null, .null, .null, .long 0]) dX8_init_129 fX8_19 (Nat.le_of_ble_eq_true rfl) ha rfl rfl ?_
  refine y_call dX8_init_132 moX5_init rfl ins_X5_init (Or.inl kX8_55) (i_X5_31 B _ _ q31 q3 (by rfl) (by rfl)) (Nat.le_of_ble_eq_true rfl) rfl rfl (Nat.le_of_ble_eq_true rfl) (Nat.le_of_ble_eq_true rfl) (Nat.le_of_ble_eq_true rfl) ?_
  rintro w ⟨q32, q33, rfl⟩
  refine y_putF (c0 := 0) (fs := [.ref q1, .ref q3, .ref q8, .ref q13, .ref q16, .ref q19, .ref q26, .ref q27, .null, .null, .null, .null, .long 0]) hI dX8_init_135 gX8_56 (Nat.le_of_ble_eq_true rfl) ha rfl rfl rfl (Nat.le_of_ble_eq_true rfl) ?_
  refine y_aload_n dX8_init_138 rfl rfl ?_
  refine y_new dX8_init_139 nX8_60 (Nat.le_of_ble_eq_true rfl) (Nat.le_of_ble_eq_true rfl) (fun q34 => ?_)
  refine y_dup dX8_init_142 rfl ?_
  refine y_call dX8_init_143 moX3_init rfl ins_X3_init (Or.inr ⟨_, kX8_62⟩) (i_X3_34 B _ _ q34 (by rfl) (by rfl)) (Nat.le_of_ble_eq_true rfl) rfl rfl (Nat.le_of_ble_eq_true rfl) (Nat.le_of_ble_eq_true rfl) (Nat.le_of_ble_eq_true rfl) ?_
  rintro w ⟨q35, q36, rfl⟩
  refine y_putF (c0 := 0) (fs := [.ref q1, .ref q3, .ref q8, .ref q13, .ref q16, .ref q19, .ref q26, .ref q27, .ref q31, .null, .null, .null, .long 0]) hI dX8_init_146 gX8_63 (Nat.le_of_ble_eq_true rfl) ha rfl rfl rfl (Nat.le_of_ble_eq_true rfl) ?_
  refine y_aload_n dX8_init_149 rfl rfl ?_
  refine y_new dX8_init_150 nX8_67 (Nat.le_of_ble_eq_true rfl) (Nat.le_of_ble_eq_true rfl) (fun q37 => ?_)
  refine y_dup dX8_init_153 rfl ?_
  refine y_call dX8_init_154 moX7_init rfl ins_X7_init (Or.inr ⟨_, kX8_69⟩) (i_X7_37 B _ _ q37 (by rfl) (by rfl)) (Nat.le_of_ble_eq_true rfl) rfl rfl (Nat.le_of_ble_eq_true rfl) (Nat.le_of_ble_eq_true rfl) (Nat.le_of_ble_eq_true rfl) ?_
  rintro w ⟨q38, rfl⟩
  refine y_putF (c0 := 0) (fs := [.ref q1, .ref q3, .ref q8, .ref q13, .ref q16, .ref q19, .ref q26, .ref q27, .ref q31, .ref q34, .null, .null, .long 0]) hI dX8_init_157 gX8_70 (Nat.le_of_ble_eq_true rfl) ha rfl rfl rfl (Nat.le_of_ble_eq_true rfl) ?_
  refine y_aload_n dX8_init_160 rfl rfl ?_
  refine y_new dX8_init_161 nX8_74 (Nat.le_of_ble_eq_true rfl) (Nat.le_of_ble_eq_true rfl) (fun q39 => ?_)
  refine y_dup dX8_init_164 rfl ?_
  refine y_call dX8_init_165 moX2_init rfl ins_X2_init (Or.inr ⟨_, kX8_76⟩) (i_X2_39 B _ _ q39 (by rfl) (by rfl)) (Nat.le_of_ble_eq_true rfl) rfl rfl (Nat.le_of_ble_eq_true rfl) (Nat.le_of_ble_eq_true rfl) (Nat.le_of_ble_eq_true rfl) ?_
  rintro w rfl
  refine y_putF (c0 := 0) (fs := [.ref q1, .ref q3, .ref q8, .ref q13, .ref q16, .ref q19, .ref q26, .ref q27, .ref q31, .ref q34, .ref q37, .null, .long 0]) hI dX8_init_168 gX8_77 (Nat.le_of_ble_eq_true rfl) ha rfl rfl rfl (Nat.le_of_ble_eq_true rfl) ?_
  refine y_aload_n dX8_init_171 rfl rfl ?_
  refine y_lconst (v := 0) dX8_init_172 (by decide) ?_
  refine y_put (c0 := 0) (fs := [.ref q1, .ref q3, .ref q8, .ref q13, .ref q16, .ref q19, .ref q26, .ref q27, .ref q31, .ref q34, .ref q37, .ref q39, .long 0]) dX8_init_173 pX8_81 (Nat.le_of_ble_eq_true rfl) ha rfl rfl rfl (Nat.le_of_ble_eq_true rfl) ?_
  refine hR _ _ _ dX8_init_176 ⟨_, _, rfl, ha, fun j hj h19 => ?_, _, rfl, rfl, rfl⟩
  match j, hj, h19 with
  | 0, _, _ => rfl
  | 1, _, _ => rfl
  | 2, _, _ => rfl
  | 3, _, _ => rfl
  | 4, _, _ => rfl
  | 5, _, _ => rfl
  | 6, _, _ => rfl
  | 7, _, _ => rfl
  | 8, _, _ => rfl
  | 9, _, _ => rfl
  | 10, _, _ => rfl
  | 11, _, _ => rfl
  | 12, _, _ => rfl
  | 13, _, _ => rfl
  | 14, _, _ => rfl
  | 15, _, _ => rfl
  | 16, _, _ => rfl
  | 17, _, _ => rfl
  | 18, _, _ => rfl
  | 19, _, h => exact absurd rfl h
  | 20, _, _ => rfl
  | 21, _, _ => rfl
  | 22, _, _ => rfl
  | 23, _, _ => rfl
  | 24, _, _ => rfl
  | 25, _, _ => rfl
  | 26, _, _ => rfl
  | 27, _, _ => rfl
  | 28, _, _ => rfl
  | 29, _, _ => rfl
  | 30, _, _ => rfl
  | 31, _, _ => rfl
  | 32, _, _ => rfl
  | 33, _, _ => rfl
  | 34, _, _ => rfl
  | 35, _, _ => rfl
  | 36, _, _ => rfl
  | 37, _, _ => rfl
  | 38, _, _ => rfl
  | 39, _, _ => rfl
  | k + 40, h, _ => exact absurd h (by omega)
