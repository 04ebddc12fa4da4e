-- ===== the component: a new family =====
set_option maxHeartbeats 8000000 in
theorem k_family_no (E : Ev) (d : Nat) (M : PM) (t : Nat) (tx : Nat → Nat) (ht : TxC M t tx) (hf : fltA t tx ≠ -9) : Ci E (d + 3) mX8_family [.ref (ad E 0)] M (fun v N => v = -3 ∧ Fr M N [8, 9, 10, 11, 12]) := by
  refine Ct.ofi [some (.ref (ad E 0)), none] (own := RX8) rfl (by decide) (Nat.le_of_ble_eq_true rfl) rfl (fun C hR => ?_)
  refine x_aload_n dX8_family_0 rfl rfl ?_
  refine x_getr dX8_family_1 fX8_12 rfl rfl (by decide) ?_
  refine x_aload_n dX8_family_4 rfl rfl ?_
  refine x_getr dX8_family_5 fX8_23 rfl rfl (by decide) ?_
  refine x_callVi dX8_family_8 mvX6_readInto kX8_93 (k_readInto_8 E d M t tx ht) rfl (by decide) (by omega) rfl rfl (Nat.le_of_ble_eq_true rfl) ?_
  rintro _ N ⟨rfl, hN, _⟩
  refine x_bipush (v := -9) dX8_family_11 (by decide) ?_
  refine x_icmp_eq (tgt := 19) dX8_family_13 (by decide) (fun hc => ?_) (fun hc => ?_)
  · exact absurd hc hf
  refine x_bipush (v := -3) dX8_family_16 (by decide) ?_
  exact hR _ _ _ _ dX8_family_18 (⟨rfl, hN⟩)
set_option maxHeartbeats 8000000 in
theorem k_family (E : Ev) (d : Nat) (M : PM) (t col K n D : Nat) (tx kd cl pt nd : Nat → Nat) (ht : TxC M t tx) (hf : fltA t tx = -9) (hs : fnA t tx = (1, col, K, n, D, kd, cl, pt, nd)) : Ci E (d + 3) mX8_family [.ref (ad E 0)] M (fun v N => v = nI (100 * n + 10 * K + D) ∧ Fr M N [3, 4, 5, 6, 7, 8, 9, 10, 11, 12, 13, 14, 15, 26, 27] ∧ Hc N n K D kd pt nd ∧ Tb N 13 n cl (fun _ => 2) ∧ N.1 13 3 = nI 0 ∧ N.1 27 3 = nI 0 ∧ ∀ s, s < 2 → N.1 26 s = nI 0) := by
  have hv := Vb.fnA t tx
  rw [hs] at hv
  obtain ⟨v1, v2, v3, -, -, v6, -, -⟩ := hv
  have v2 : ∀ i, i < 5 * n → cl i < 4 * K := fun i hi => v2 i (by simpa using hi)
  refine Ct.ofi [some (.ref (ad E 0)), none] (own := RX8) rfl (by decide) (Nat.le_of_ble_eq_true rfl) rfl (fun C hR => ?_)
  refine x_aload_n dX8_family_0 rfl rfl ?_
  refine x_getr dX8_family_1 fX8_12 rfl rfl (by decide) ?_
  refine x_aload_n dX8_family_4 rfl rfl ?_
  refine x_getr dX8_family_5 fX8_23 rfl rfl (by decide) ?_
  refine x_callVi dX8_family_8 mvX6_readInto kX8_93 (k_readInto_8 E d M t tx ht) rfl (by decide) (by omega) rfl rfl (Nat.le_of_ble_eq_true rfl) ?_
  rintro _ N1 ⟨rfl, hN1, _⟩
  refine x_bipush (v := -9) dX8_family_11 (by decide) ?_
  refine x_icmp_eq (tgt := 19) dX8_family_13 (by decide) (fun hc => ?_) (fun hc => ?_)
  rotate_left
  · exact absurd hf hc
  have ht1 : TxC N1 t tx := ⟨hN1.v (by decide) ht.1, ht.2.1, fun i hi => ⟨hN1.v (by decide) (ht.2.2 i hi).1, (ht.2.2 i hi).2⟩⟩
  refine x_aload_n dX8_family_19 rfl rfl ?_
  refine x_getr dX8_family_20 fX8_12 rfl rfl (by decide) ?_
  refine x_aload_n dX8_family_23 rfl rfl ?_
  refine x_getr dX8_family_24 fX8_19 rfl rfl (by decide) ?_
  refine x_callVi dX8_family_27 mvX6_readInto kX8_93 (k_readInto_3 E d N1 t tx ht1) rfl (by decide) (by omega) rfl rfl (Nat.le_of_ble_eq_true rfl) ?_
  rintro _ N2 ⟨rfl, hN2, h2⟩
  refine x_pop dX8_family_30 rfl ?_
  obtain ⟨a1, a2, -⟩ := h2 hf
  rw [hs] at a1 a2
  obtain ⟨q1, q2, q3, -, -, q6, q7, q8, -⟩ := a1
  obtain ⟨o1, o2, o3, -⟩ := a2
  have q7 : ∀ i, i < 5 * n → N2.1 5 i = nI (cl i) := fun i hi => q7 i (by simpa using hi)
  have hF2 : Fr M N2 [3, 4, 5, 6, 7, 8, 9, 10, 11, 12, 13, 14, 15, 26, 27] := (hN1.wd (by decide) : Fr M N1 [3, 4, 5, 6, 7, 8, 9, 10, 11, 12, 13, 14, 15, 26, 27]).tr hN2 (by decide)
  have hH2 : Hc N2 n K D kd pt nd := ⟨q2, q1, q3, o2, o1, o3, fun k hk => ⟨q6 k hk, v1 k hk⟩, fun x hx => ⟨(q8 x hx).1, (v3 x hx).1⟩, fun x hx => ⟨(q8 x hx).2, (v3 x hx).2⟩⟩
  refine x_aload_n dX8_family_31 rfl rfl ?_
  refine x_getr dX8_family_32 fX8_31 rfl rfl (by decide) ?_
  refine x_callVv dX8_family_35 mvX4_begin kX8_97 (k_tbegin E (d + 1) N2) rfl (by decide) (by omega) rfl rfl (Nat.le_of_ble_eq_true rfl) ?_
  rintro N3 ⟨hN3, c1, c2, c3⟩
  refine x_aload_n dX8_family_38 rfl rfl ?_
  refine x_getr dX8_family_39 fX8_49 rfl rfl (by decide) ?_
  refine x_callVv dX8_family_42 mvX0_forget kX8_100 (k_forget E (d + 2) N3) rfl (by decide) (by omega) rfl rfl (Nat.le_of_ble_eq_true rfl) ?_
  rintro N4 ⟨hN4, h0⟩
  have hF4 : Fr M N4 [3, 4, 5, 6, 7, 8, 9, 10, 11, 12, 13, 14, 15, 26, 27] := (hF2.tr hN3 (by decide)).tr hN4 (by decide)
  have hH4 : Hc N4 n K D kd pt nd := (hH2.fr hN3 (by decide) (by decide) (by decide) (by decide)).fr hN4 (by decide) (by decide) (by decide) (by decide)
  have hT4 : Tb N4 13 n cl (fun _ => 2) := by
    refine ⟨o2, fun r c hr hc5 => ?_, fun r hr => ⟨hN4.v (by decide) (c2 r (by omega)), (by decide : 2 ≤ 5)⟩⟩
    refine ⟨hN4.v (by decide) ((c1 _ (by omega)).trans ?_), ?_⟩
    · rw [show r * 5 + c = 5 * r + c by omega]; exact q7 _ (by omega)
    · have := v2 (5 * r + c) (by omega); omega
  obtain ⟨f1, f2, f3, f4, f5, f6, f7, f8, f9⟩ := id hH4
  refine x_iconst (v := nI 0) dX8_family_45 (by decide) ?_
  refine xis2_1 dX8_family_46 rfl ?_
  refine x_iload_n dX8_family_47 rfl rfl ?_
  refine x_iconst (v := nI 2) dX8_family_48 (by decide) ?_
  refine x_icmp_geN (tgt := 65) dX8_family_49 (by decide) (by omega) (by omega) (fun hc => ?_) (fun hc => ?_)
  · exact absurd hc (by omega)
  refine x_aload_n dX8_family_52 rfl rfl ?_
  refine x_getr dX8_family_53 fX8_42 rfl rfl (by decide) ?_
  refine x_iload_n dX8_family_56 rfl rfl ?_
  refine x_iconst (v := nI 0) dX8_family_57 (by decide) ?_
  refine x_zastN dX8_family_58 rfl (by decide) (by omega) (by decide) (by decide) ?_
  refine xinc2_1N dX8_family_59 rfl ?_
  refine x_goto (tgt := 47) dX8_family_62 (by decide) ?_
  refine x_iload_n dX8_family_47 rfl rfl ?_
  refine x_iconst (v := nI 2) dX8_family_48 (by decide) ?_
  refine x_icmp_geN (tgt := 65) dX8_family_49 (by decide) (by omega) (by omega) (fun hc => ?_) (fun hc => ?_)
  · exact absurd hc (by omega)
  refine x_aload_n dX8_family_52 rfl rfl ?_
  refine x_getr dX8_family_53 fX8_42 rfl rfl (by decide) ?_
  refine x_iload_n dX8_family_56 rfl rfl ?_
  refine x_iconst (v := nI 0) dX8_family_57 (by decide) ?_
  refine x_zastN dX8_family_58 rfl (by decide) (by omega) (by decide) (by decide) ?_
  refine xinc2_1N dX8_family_59 rfl ?_
  refine x_goto (tgt := 47) dX8_family_62 (by decide) ?_
  refine x_iload_n dX8_family_47 rfl rfl ?_
  refine x_iconst (v := nI 2) dX8_family_48 (by decide) ?_
  refine x_icmp_geN (tgt := 65) dX8_family_49 (by decide) (by omega) (by omega) (fun hc => ?_) (fun hc => ?_)
  rotate_left
  · exact absurd hc (by omega)
  refine x_bipush (v := nI 100) dX8_family_65 (by decide) ?_
  refine x_aload_n dX8_family_67 rfl rfl ?_
  refine x_getr dX8_family_68 fX8_19 rfl rfl (by decide) ?_
  refine x_getv (sa_v (by decide) (sa_v (by decide) f1)) dX8_family_71 fX8_103 rfl rfl (by decide) ?_
  refine x_imulN dX8_family_74 ?_
  refine x_bipush (v := nI 10) dX8_family_75 (by decide) ?_
  refine x_aload_n dX8_family_77 rfl rfl ?_
  refine x_getr dX8_family_78 fX8_19 rfl rfl (by decide) ?_
  refine x_getv (sa_v (by decide) (sa_v (by decide) f2)) dX8_family_81 fX8_106 rfl rfl (by decide) ?_
  refine x_imulN dX8_family_84 ?_
  refine x_iaddN dX8_family_85 ?_
  refine x_aload_n dX8_family_86 rfl rfl ?_
  refine x_getr dX8_family_87 fX8_19 rfl rfl (by decide) ?_
  refine x_getv (sa_v (by decide) (sa_v (by decide) f3)) dX8_family_90 fX8_109 rfl rfl (by decide) ?_
  refine x_iaddN dX8_family_93 ?_
  have hF6 : Fr N4 (sa (sa N4 26 (upd (N4.1 26) 0 (nI 0))) 26 (upd ((sa N4 26 (upd (N4.1 26) 0 (nI 0))).1 26) (0 + 1) (nI 0))) [26] := (Fr.rf.sa (by decide)).sa (by decide)
  refine hR _ _ _ _ dX8_family_94 ⟨rfl, hF4.tr hF6 (by decide), hH4.fr hF6 (by decide) (by decide) (by decide) (by decide), hT4.fr hF6 (by decide) (by decide), hF6.v (by decide) (hN4.v (by decide) c3), hF6.v (by decide) h0, fun s hs => ?_⟩
  rcases (show s = 0 ∨ s = 1 by omega) with rfl | rfl
  · rw [sa_1, pk_un (by decide), sa_1, pk_us]
  · rw [sa_1, pk_us]
