-- ===== the component: what is asked about the table =====
theorem Cw_t {N : PM} {n : Nat} {q w : Nat → Nat} (h : Tb N 13 n q w) : Cw N 14 15 n q w := ⟨rfl, by decide, rfl, by decide, h.1, h.2.1, h.2.2⟩
set_option maxHeartbeats 8000000 in
theorem k_talliedNow (E : Ev) (d : Nat) (M : PM) (n K D : Nat) (q w kd pt nd : Nat → Nat) (hH : Hc M n K D kd pt nd) (hT : Tb M 13 n q w) (hqK : ∀ r c, r < n → c < 5 → q (5 * r + c) < 4 * K) : Cr E (d + 4) mX8_talliedNow [.ref (ad E 0)] M (fun c N => c = 31 ∧ Fr M N [32, 33] ∧ LdC N n q w ∧ TlC N kd q w n) := by
  refine Ct.ofr [some (.ref (ad E 0))] (own := RX8) rfl (by decide) (Nat.le_of_ble_eq_true rfl) rfl (fun C hR => ?_)
  refine x_aload_n dX8_talliedNow_0 rfl rfl ?_
  refine x_getr dX8_talliedNow_1 fX8_56 rfl rfl (by decide) ?_
  refine x_aload_n dX8_talliedNow_4 rfl rfl ?_
  refine x_getr dX8_talliedNow_5 fX8_31 rfl rfl (by decide) ?_
  refine x_getr dX8_talliedNow_8 fX8_139 rfl rfl (by decide) ?_
  refine x_aload_n dX8_talliedNow_11 rfl rfl ?_
  refine x_getr dX8_talliedNow_12 fX8_31 rfl rfl (by decide) ?_
  refine x_getr dX8_talliedNow_15 fX8_143 rfl rfl (by decide) ?_
  refine x_callVv dX8_talliedNow_18 mvX5_take kX8_209 (k_take E d M 14 15 n K D q w kd pt nd hH (Cw_t hT) hqK) rfl (by decide) (by omega) rfl rfl (Nat.le_of_ble_eq_true rfl) ?_
  rintro N ⟨hN, hl, ht⟩
  refine x_aload_n dX8_talliedNow_21 rfl rfl ?_
  refine x_getr dX8_talliedNow_22 fX8_56 rfl rfl (by decide) ?_
  exact hR _ _ _ _ dX8_talliedNow_25 ⟨rfl, hN, hl, ht⟩
set_option maxHeartbeats 8000000 in
theorem k_about (E : Ev) (d : Nat) (M : PM) (n K D an sn t : Nat) (g : Int32) (q w kd pt nd : Nat → Nat) (x : Int32) (hH : Hc M n K D kd pt nd) (hT : Tb M 13 n q w) (hqK : ∀ r c, r < n → c < 5 → q (5 * r + c) < 4 * K) (hg : M.1 13 3 = g) (ha : M.1 27 3 = nI an) (hs : M.1 34 2 = nI sn) (ht : M.1 1 1 = nI t) : Ci E (d + 5) mX8_about [.ref (ad E 0), .int x] M (fun v N => v = aAbout n K D an sn t g q w x ∧ Fr M N [32, 33, 37, 38]) := by
  obtain ⟨f1, f2, f3, f4, f5, f6, f7, f8, f9⟩ := id hH
  refine Ct.ofi [some (.ref (ad E 0)), some (.int x)] (own := RX8) rfl (by decide) (Nat.le_of_ble_eq_true rfl) rfl (fun C hR => ?_)
  refine x_iload_n dX8_about_0 rfl rfl ?_
  rcases ixc x 11 (by decide) with ⟨j, hj, rfl, hxt⟩ | hx
  · have ea : aAbout n K D an sn t g q w (nI j) = aboutR n K D an sn t g q w j := by unfold aAbout; rw [if_pos (inR_nI hj (by decide)), tn_nI (by omega)]
    rw [ea] at hR
    match j, hj with
    | 0, _ =>
      refine x_tableIn (off := 59) (tgt := 60) dX8_about_1 (by decide) (by decide) (by decide) (by decide) ?_
      refine x_aload_n dX8_about_60 rfl rfl ?_
      refine x_getr dX8_about_61 fX8_19 rfl rfl (by decide) ?_
      refine x_getv (f1) dX8_about_64 fX8_103 rfl rfl (by decide) ?_
      exact hR _ _ _ _ dX8_about_67 (⟨rfl, Fr.rf⟩)
    | 1, _ =>
      refine x_tableIn (off := 67) (tgt := 68) dX8_about_1 (by decide) (by decide) (by decide) (by decide) ?_
      refine x_aload_n dX8_about_68 rfl rfl ?_
      refine x_getr dX8_about_69 fX8_19 rfl rfl (by decide) ?_
      refine x_getv (f2) dX8_about_72 fX8_106 rfl rfl (by decide) ?_
      exact hR _ _ _ _ dX8_about_75 (⟨rfl, Fr.rf⟩)
    | 2, _ =>
      refine x_tableIn (off := 75) (tgt := 76) dX8_about_1 (by decide) (by decide) (by decide) (by decide) ?_
      refine x_aload_n dX8_about_76 rfl rfl ?_
      refine x_getr dX8_about_77 fX8_19 rfl rfl (by decide) ?_
      refine x_getv (f3) dX8_about_80 fX8_109 rfl rfl (by decide) ?_
      exact hR _ _ _ _ dX8_about_83 (⟨rfl, Fr.rf⟩)
    | 3, _ =>
      refine x_tableIn (off := 83) (tgt := 84) dX8_about_1 (by decide) (by decide) (by decide) (by decide) ?_
      refine x_aload_n dX8_about_84 rfl rfl ?_
      refine x_getr dX8_about_85 fX8_31 rfl rfl (by decide) ?_
      refine x_getv (hg) dX8_about_88 fX8_112 rfl rfl (by decide) ?_
      exact hR _ _ _ _ dX8_about_91 (⟨rfl, Fr.rf⟩)
    | 4, _ =>
      refine x_tableIn (off := 91) (tgt := 92) dX8_about_1 (by decide) (by decide) (by decide) (by decide) ?_
      refine x_aload_n dX8_about_92 rfl rfl ?_
      refine x_getr dX8_about_93 fX8_31 rfl rfl (by decide) ?_
      refine x_callVi dX8_about_96 mvX4_wireNumber kX8_115 (k_wireNumber_13 E (d + 3) M n q w f1 hT) rfl (by decide) (by omega) rfl rfl (Nat.le_of_ble_eq_true rfl) ?_
      rintro _ _ ⟨rfl, rfl⟩
      exact hR _ _ _ _ dX8_about_99 (⟨rfl, Fr.rf⟩)
    | 5, _ =>
      refine x_tableIn (off := 99) (tgt := 100) dX8_about_1 (by decide) (by decide) (by decide) (by decide) ?_
      refine x_aload_n dX8_about_100 rfl rfl ?_
      refine x_getr dX8_about_101 fX8_31 rfl rfl (by decide) ?_
      refine x_callVi dX8_about_104 mvX4_slipCount kX8_119 (k_slipCount_13 E (d + 4) M n q w f1 hT) rfl (by decide) (by omega) rfl rfl (Nat.le_of_ble_eq_true rfl) ?_
      rintro _ _ ⟨rfl, rfl⟩
      exact hR _ _ _ _ dX8_about_107 (⟨rfl, Fr.rf⟩)
    | 6, _ =>
      refine x_tableIn (off := 107) (tgt := 108) dX8_about_1 (by decide) (by decide) (by decide) (by decide) ?_
      refine x_aload_n dX8_about_108 rfl rfl ?_
      refine x_callVr dX8_about_109 mvX8_talliedNow kX8_122 (k_talliedNow E d M n K D q w kd pt nd hH hT hqK) rfl (by decide) (by omega) rfl rfl (Nat.le_of_ble_eq_true rfl) ?_
      rintro _ N ⟨rfl, hN, hl, htl⟩
      refine x_callVi dX8_about_112 mvX5_partedBits kX8_126 (k_partedBits E (d + 2) N n K q w (hN.v (by decide) f2) f5 f4 hl) rfl (by decide) (by omega) rfl rfl (Nat.le_of_ble_eq_true rfl) ?_
      rintro _ _ ⟨rfl, rfl⟩
      exact hR _ _ _ _ dX8_about_115 (⟨rfl, hN.wd (by decide)⟩)
    | 7, _ =>
      refine x_tableIn (off := 115) (tgt := 116) dX8_about_1 (by decide) (by decide) (by decide) (by decide) ?_
      refine x_aload_n dX8_about_116 rfl rfl ?_
      refine x_callVi dX8_about_117 mvX8_wireCount kX8_129 (k_wireCount E (d + 1) M n f1 f4) rfl (by decide) (by omega) rfl rfl (Nat.le_of_ble_eq_true rfl) ?_
      rintro _ N ⟨rfl, hN⟩
      exact hR _ _ _ _ dX8_about_120 (⟨by rw [lvc_hit]; rfl, hN.wd (by decide)⟩)
    | 8, _ =>
      refine x_tableIn (off := 120) (tgt := 121) dX8_about_1 (by decide) (by decide) (by decide) (by decide) ?_
      refine x_aload_n dX8_about_121 rfl rfl ?_
      refine x_getr dX8_about_122 fX8_49 rfl rfl (by decide) ?_
      refine x_getv (ha) dX8_about_125 fX8_132 rfl rfl (by decide) ?_
      exact hR _ _ _ _ dX8_about_128 (⟨rfl, Fr.rf⟩)
    | 9, _ =>
      refine x_tableIn (off := 128) (tgt := 129) dX8_about_1 (by decide) (by decide) (by decide) (by decide) ?_
      refine x_aload_n dX8_about_129 rfl rfl ?_
      refine x_getr dX8_about_130 fX8_63 rfl rfl (by decide) ?_
      refine x_getv (hs) dX8_about_133 fX8_135 rfl rfl (by decide) ?_
      exact hR _ _ _ _ dX8_about_136 (⟨rfl, Fr.rf⟩)
    | 10, _ =>
      refine x_tableIn (off := 136) (tgt := 137) dX8_about_1 (by decide) (by decide) (by decide) (by decide) ?_
      refine x_aload_n dX8_about_137 rfl rfl ?_
      refine x_getr dX8_about_138 fX8_12 rfl rfl (by decide) ?_
      refine x_getv (ht) dX8_about_141 fX8_89 rfl rfl (by decide) ?_
      exact hR _ _ _ _ dX8_about_144 (⟨rfl, Fr.rf⟩)
    | k + 11, h => exact absurd h (by omega)
  · refine x_tableOut (tgt := 145) dX8_about_1 (by omega) (by decide) ?_
    refine x_bipush (v := -2) dX8_about_145 (by decide) ?_
    exact hR _ _ _ _ dX8_about_147 (⟨by unfold aAbout; rw [if_neg hx], Fr.rf⟩)
set_option maxHeartbeats 8000000 in
theorem k_cell (E : Ev) (d : Nat) (M : PM) (n K D : Nat) (q w kd pt nd : Nat → Nat) (r c x : Int32) (hH : Hc M n K D kd pt nd) (hT : Tb M 13 n q w) (hqK : ∀ r c, r < n → c < 5 → q (5 * r + c) < 4 * K) : Ci E (d + 5) mX8_cell [.ref (ad E 0), .int r, .int c, .int x] M (fun v N => v = aCell n kd q w r c x ∧ Fr M N [32, 33, 37, 38]) := by
  obtain ⟨f1, f2, f3, f4, f5, f6, f7, f8, f9⟩ := id hH
  have e5 : (nI 5).toInt = 5 := by decide
  refine Ct.ofi [some (.ref (ad E 0)), some (.int r), some (.int c), some (.int x), none, none] (own := RX8) rfl (by decide) (Nat.le_of_ble_eq_true rfl) rfl (fun C hR => ?_)
  refine x_aload_n dX8_cell_0 rfl rfl ?_
  refine x_iload_n dX8_cell_1 rfl rfl ?_
  refine x_callVi dX8_cell_2 mvX8_isRow kX8_136 (k_is_5 E (d + 4) M r n f1 f4) rfl (by decide) (by omega) rfl rfl (Nat.le_of_ble_eq_true rfl) ?_
  rintro _ _ ⟨rfl, rfl⟩
  refine x_if_neB (tgt := 10) dX8_cell_5 (by decide) (fun hc => ?_) (fun hc => ?_)
  rotate_left
  · refine x_iconst (v := -1) dX8_cell_8 (by decide) ?_
    exact hR _ _ _ _ dX8_cell_9 (⟨by unfold aCell; rw [if_neg (of_decide_eq_false hc)], Fr.rf⟩)
  have hr0 := of_decide_eq_true hc
  rcases ixc r n (by omega) with ⟨r, hr, rfl, hrt⟩ | hr
  rotate_left
  · exact absurd hr0 hr
  rcases ixc c 5 (by omega) with ⟨c, hc5, rfl, hct⟩ | hc5
  rotate_left
  · have bad : X E (d + 5) RX8 cX8_cell 6 C 19 [some (.ref (ad E 0)), some (.int (nI r)), some (.int c), some (.int x), none, none] [] M := by
      refine x_bipush (v := -2) dX8_cell_19 (by decide) ?_
      exact hR _ _ _ _ dX8_cell_21 (⟨by unfold aCell; rw [if_pos (inR_nI hr (by omega)), if_neg hc5], Fr.rf⟩)
    refine x_iload_n dX8_cell_10 rfl rfl ?_
    refine x_if_lt (tgt := 19) dX8_cell_11 (by decide) (fun hc => ?_) (fun hc => ?_)
    · exact bad
    rw [Int32.lt_iff_toInt_lt, Int32.toInt_zero] at hc
    have g := hc
    refine x_iload_n dX8_cell_14 rfl rfl ?_
    refine x_iconst (v := nI 5) dX8_cell_15 (by decide) ?_
    refine x_icmp_lt (tgt := 22) dX8_cell_16 (by decide) (fun hc => ?_) (fun hc => ?_)
    · rw [Int32.lt_iff_toInt_lt, e5] at hc
      exact absurd (by omega) hc5
    · exact bad
  have hcell := hT.2.1 r c hr hc5
  have hwr := hT.2.2 r hr
  have hqk := hqK r c hr hc5
  have hh := hf_le w r c
  refine x_iload_n dX8_cell_10 rfl rfl ?_
  refine x_if_ltN (tgt := 19) dX8_cell_11 (by decide) (by omega) ?_
  refine x_iload_n dX8_cell_14 rfl rfl ?_
  refine x_iconst (v := nI 5) dX8_cell_15 (by decide) ?_
  refine x_icmp_ltN (tgt := 22) dX8_cell_16 (by decide) (by omega) (by omega) (fun hc => ?_) (fun hc => ?_)
  rotate_left
  · exact absurd hc (by omega)
  refine x_aload_n dX8_cell_22 rfl rfl ?_
  refine x_getr dX8_cell_23 fX8_31 rfl rfl (by decide) ?_
  refine x_getr dX8_cell_26 fX8_139 rfl rfl (by decide) ?_
  refine x_iload_n dX8_cell_29 rfl rfl ?_
  refine x_iconst (v := nI 5) dX8_cell_30 (by decide) ?_
  refine x_imulN dX8_cell_31 ?_
  refine x_iload_n dX8_cell_32 rfl rfl ?_
  refine x_iaddN dX8_cell_33 ?_
  refine x_ialdN dX8_cell_34 rfl (by decide) (by omega) (by decide) (hcell.1) ?_
  refine xis6_4 dX8_cell_35 rfl ?_
  refine x_iload_n dX8_cell_37 rfl rfl ?_
  refine x_aload_n dX8_cell_38 rfl rfl ?_
  refine x_getr dX8_cell_39 fX8_31 rfl rfl (by decide) ?_
  refine x_getr dX8_cell_42 fX8_143 rfl rfl (by decide) ?_
  refine x_iload_n dX8_cell_45 rfl rfl ?_
  refine x_ialdN dX8_cell_46 rfl (by decide) (by omega) (by decide) (hwr.1) ?_
  refine x_callSi dX8_cell_47 msX8_halfOf kX8_146 (k_halfOf E (d + 4) M c w r (by omega) (by omega)) (by omega) rfl rfl (Nat.le_of_ble_eq_true rfl) ?_
  rintro _ _ ⟨rfl, rfl⟩
  refine xis6_5 dX8_cell_50 rfl ?_
  refine x_iload_n dX8_cell_52 rfl rfl ?_
  have e0 : aCell n kd q w (nI r) (nI c) x = if inR x 4 then cellR n kd q w r c (tn x) else -2 := by
    unfold aCell; rw [if_pos (inR_nI hr (by omega)), if_pos (inR_nI hc5 (by decide)), tn_nI (by omega), tn_nI (by omega)]
  rw [e0] at hR
  rcases ixc x 4 (by decide) with ⟨j, hj, rfl, hxt⟩ | hx
  · rw [if_pos (inR_nI hj (by decide)), tn_nI (by omega)] at hR
    match j, hj with
    | 0, _ =>
      refine x_tableIn (off := 31) (tgt := 84) dX8_cell_53 (by decide) (by decide) (by decide) (by decide) ?_
      refine x_iload dX8_cell_84 rfl ?_
      refine x_callSi dX8_cell_86 msX8_kinOf kX8_150 (k_kinOf E (d + 4) M _ (by omega)) (by omega) rfl rfl (Nat.le_of_ble_eq_true rfl) ?_
      rintro _ _ ⟨rfl, rfl⟩
      exact hR _ _ _ _ dX8_cell_89 (⟨rfl, Fr.rf⟩)
    | 1, _ =>
      refine x_tableIn (off := 37) (tgt := 90) dX8_cell_53 (by decide) (by decide) (by decide) (by decide) ?_
      refine x_iload dX8_cell_90 rfl ?_
      refine x_callSi dX8_cell_92 msX8_partOf kX8_154 (k_partOf E (d + 4) M _ (by omega)) (by omega) rfl rfl (Nat.le_of_ble_eq_true rfl) ?_
      rintro _ _ ⟨rfl, rfl⟩
      exact hR _ _ _ _ dX8_cell_95 (⟨rfl, Fr.rf⟩)
    | 2, _ =>
      refine x_tableIn (off := 43) (tgt := 96) dX8_cell_53 (by decide) (by decide) (by decide) (by decide) ?_
      refine x_iload dX8_cell_96 rfl ?_
      exact hR _ _ _ _ dX8_cell_98 (⟨rfl, Fr.rf⟩)
    | 3, _ =>
      refine x_tableIn (off := 46) (tgt := 99) dX8_cell_53 (by decide) (by decide) (by decide) (by decide) ?_
      refine x_aload_n dX8_cell_99 rfl rfl ?_
      refine x_callVr dX8_cell_100 mvX8_talliedNow kX8_122 (k_talliedNow E d M n K D q w kd pt nd hH hT hqK) rfl (by decide) (by omega) rfl rfl (Nat.le_of_ble_eq_true rfl) ?_
      rintro _ N ⟨rfl, hN, hl, htl⟩
      refine x_iload dX8_cell_103 rfl ?_
      refine x_iload dX8_cell_105 rfl ?_
      refine x_callVi dX8_cell_107 mvX5_halvesFor kX8_157 (k_halvesFor E (d + 2) N n K D (q (5 * r + c)) (hf w r c) q w kd pt nd (hH.fr hN (by decide) (by decide) (by decide) (by decide)) hl hqk hh) rfl (by decide) (by omega) rfl rfl (Nat.le_of_ble_eq_true rfl) ?_
      rintro _ _ ⟨rfl, rfl⟩
      exact hR _ _ _ _ dX8_cell_110 (⟨rfl, hN.wd (by decide)⟩)
    | k + 4, h => exact absurd h (by omega)
  · refine x_tableOut (tgt := 111) dX8_cell_53 (by omega) (by decide) ?_
    refine x_bipush (v := -2) dX8_cell_111 (by decide) ?_
    exact hR _ _ _ _ dX8_cell_113 (⟨by rw [if_neg hx], Fr.rf⟩)
set_option maxHeartbeats 8000000 in
theorem k_kin (E : Ev) (d : Nat) (M : PM) (n K D : Nat) (q w kd pt nd : Nat → Nat) (k x : Int32) (hH : Hc M n K D kd pt nd) (hT : Tb M 13 n q w) (hqK : ∀ r c, r < n → c < 5 → q (5 * r + c) < 4 * K) : Ci E (d + 5) mX8_kin [.ref (ad E 0), .int k, .int x] M (fun v N => v = aKin n K kd q w k x ∧ Fr M N [32, 33, 37, 38]) := by
  obtain ⟨f1, f2, f3, f4, f5, f6, f7, f8, f9⟩ := id hH
  refine Ct.ofi [some (.ref (ad E 0)), some (.int k), some (.int x)] (own := RX8) rfl (by decide) (Nat.le_of_ble_eq_true rfl) rfl (fun C hR => ?_)
  refine x_aload_n dX8_kin_0 rfl rfl ?_
  refine x_iload_n dX8_kin_1 rfl rfl ?_
  refine x_callVi dX8_kin_2 mvX8_isKin kX8_160 (k_is_4 E (d + 4) M k K f2 f5) rfl (by decide) (by omega) rfl rfl (Nat.le_of_ble_eq_true rfl) ?_
  rintro _ _ ⟨rfl, rfl⟩
  refine x_if_neB (tgt := 10) dX8_kin_5 (by decide) (fun hc => ?_) (fun hc => ?_)
  rotate_left
  · refine x_iconst (v := -1) dX8_kin_8 (by decide) ?_
    exact hR _ _ _ _ dX8_kin_9 (⟨by unfold aKin; rw [if_neg (of_decide_eq_false hc)], Fr.rf⟩)
  have hr0 := of_decide_eq_true hc
  rcases ixc k K (by omega) with ⟨k, hk, rfl, hkt⟩ | hr
  rotate_left
  · exact absurd hr0 hr
  have e0 : aKin n K kd q w (nI k) x = if inR x 5 then kinR n kd q w k (tn x) else -2 := by
    unfold aKin; rw [if_pos (inR_nI hk (by omega)), tn_nI (by omega)]
  rw [e0] at hR
  refine x_iload_n dX8_kin_10 rfl rfl ?_
  rcases ixc x 5 (by decide) with ⟨j, hj, rfl, hxt⟩ | hx
  · rw [if_pos (inR_nI hj (by decide)), tn_nI (by omega)] at hR
    match j, hj with
    | 0, _ =>
      refine x_tableIn (off := 33) (tgt := 44) dX8_kin_11 (by decide) (by decide) (by decide) (by decide) ?_
      refine x_aload_n dX8_kin_44 rfl rfl ?_
      refine x_getr dX8_kin_45 fX8_19 rfl rfl (by decide) ?_
      refine x_getr dX8_kin_48 fX8_163 rfl rfl (by decide) ?_
      refine x_iload_n dX8_kin_51 rfl rfl ?_
      refine x_ialdN dX8_kin_52 rfl (by decide) (by omega) (by decide) ((f7 k hk).1) ?_
      exact hR _ _ _ _ dX8_kin_53 (⟨rfl, Fr.rf⟩)
    | 1, _ =>
      refine x_tableIn (off := 43) (tgt := 54) dX8_kin_11 (by decide) (by decide) (by decide) (by decide) ?_
      refine x_aload_n dX8_kin_54 rfl rfl ?_
      refine x_callVr dX8_kin_55 mvX8_talliedNow kX8_122 (k_talliedNow E d M n K D q w kd pt nd hH hT hqK) rfl (by decide) (by omega) rfl rfl (Nat.le_of_ble_eq_true rfl) ?_
      rintro _ N ⟨rfl, hN, hl, htl⟩
      refine x_iconst (v := nI 0) dX8_kin_58 (by decide) ?_
      refine x_iload_n dX8_kin_59 rfl rfl ?_
      refine x_callVi dX8_kin_60 mvX5_cellsIn kX8_166 (k_cellsIn E (d + 4) N n 0 k q w hl (by decide) (by omega)) rfl (by decide) (by omega) rfl rfl (Nat.le_of_ble_eq_true rfl) ?_
      rintro _ _ ⟨rfl, rfl⟩
      exact hR _ _ _ _ dX8_kin_63 (⟨rfl, hN.wd (by decide)⟩)
    | 2, _ =>
      refine x_tableIn (off := 53) (tgt := 64) dX8_kin_11 (by decide) (by decide) (by decide) (by decide) ?_
      refine x_aload_n dX8_kin_64 rfl rfl ?_
      refine x_callVr dX8_kin_65 mvX8_talliedNow kX8_122 (k_talliedNow E d M n K D q w kd pt nd hH hT hqK) rfl (by decide) (by omega) rfl rfl (Nat.le_of_ble_eq_true rfl) ?_
      rintro _ N ⟨rfl, hN, hl, htl⟩
      refine x_iconst (v := nI 1) dX8_kin_68 (by decide) ?_
      refine x_iload_n dX8_kin_69 rfl rfl ?_
      refine x_callVi dX8_kin_70 mvX5_cellsIn kX8_166 (k_cellsIn E (d + 4) N n 1 k q w hl (by decide) (by omega)) rfl (by decide) (by omega) rfl rfl (Nat.le_of_ble_eq_true rfl) ?_
      rintro _ _ ⟨rfl, rfl⟩
      exact hR _ _ _ _ dX8_kin_73 (⟨rfl, hN.wd (by decide)⟩)
    | 3, _ =>
      refine x_tableIn (off := 63) (tgt := 74) dX8_kin_11 (by decide) (by decide) (by decide) (by decide) ?_
      refine x_aload_n dX8_kin_74 rfl rfl ?_
      refine x_callVr dX8_kin_75 mvX8_talliedNow kX8_122 (k_talliedNow E d M n K D q w kd pt nd hH hT hqK) rfl (by decide) (by omega) rfl rfl (Nat.le_of_ble_eq_true rfl) ?_
      rintro _ N ⟨rfl, hN, hl, htl⟩
      refine x_iconst (v := nI 0) dX8_kin_78 (by decide) ?_
      refine x_iload_n dX8_kin_79 rfl rfl ?_
      refine x_callVi dX8_kin_80 mvX5_countedOf kX8_169 (k_countedOf E (d + 4) N n K 0 k q w kd f5 hk htl (by decide) hqK) rfl (by decide) (by omega) rfl rfl (Nat.le_of_ble_eq_true rfl) ?_
      rintro _ _ ⟨rfl, rfl⟩
      exact hR _ _ _ _ dX8_kin_83 (⟨rfl, hN.wd (by decide)⟩)
    | 4, _ =>
      refine x_tableIn (off := 73) (tgt := 84) dX8_kin_11 (by decide) (by decide) (by decide) (by decide) ?_
      refine x_aload_n dX8_kin_84 rfl rfl ?_
      refine x_callVr dX8_kin_85 mvX8_talliedNow kX8_122 (k_talliedNow E d M n K D q w kd pt nd hH hT hqK) rfl (by decide) (by omega) rfl rfl (Nat.le_of_ble_eq_true rfl) ?_
      rintro _ N ⟨rfl, hN, hl, htl⟩
      refine x_iconst (v := nI 1) dX8_kin_88 (by decide) ?_
      refine x_iload_n dX8_kin_89 rfl rfl ?_
      refine x_callVi dX8_kin_90 mvX5_countedOf kX8_169 (k_countedOf E (d + 4) N n K 1 k q w kd f5 hk htl (by decide) hqK) rfl (by decide) (by omega) rfl rfl (Nat.le_of_ble_eq_true rfl) ?_
      rintro _ _ ⟨rfl, rfl⟩
      exact hR _ _ _ _ dX8_kin_93 (⟨rfl, hN.wd (by decide)⟩)
    | k + 5, h => exact absurd h (by omega)
  · refine x_tableOut (tgt := 94) dX8_kin_11 (by omega) (by decide) ?_
    refine x_bipush (v := -2) dX8_kin_94 (by decide) ?_
    exact hR _ _ _ _ dX8_kin_96 (⟨by rw [if_neg hx], Fr.rf⟩)
set_option maxHeartbeats 8000000 in
theorem k_has (E : Ev) (d : Nat) (M : PM) (n K D : Nat) (q w kd pt nd : Nat → Nat) (h p : Int32) (hH : Hc M n K D kd pt nd) (hT : Tb M 13 n q w) (hqK : ∀ r c, r < n → c < 5 → q (5 * r + c) < 4 * K) : Ci E (d + 5) mX8_has [.ref (ad E 0), .int h, .int p] M (fun v N => v = aHas n kd q w h p ∧ Fr M N [32, 33, 37, 38]) := by
  obtain ⟨f1, f2, f3, f4, f5, f6, f7, f8, f9⟩ := id hH
  have e4 : (nI 4).toInt = 4 := by decide
  refine Ct.ofi [some (.ref (ad E 0)), some (.int h), some (.int p)] (own := RX8) rfl (by decide) (Nat.le_of_ble_eq_true rfl) rfl (fun C hR => ?_)
  have bad : ¬ (inR h 2 ∧ inR p 4) → X E (d + 5) RX8 cX8_has 3 C 16 [some (.ref (ad E 0)), some (.int h), some (.int p)] [] M := by
    intro hb
    refine x_bipush (v := -2) dX8_has_16 (by decide) ?_
    exact hR _ _ _ _ dX8_has_18 (⟨by unfold aHas; rw [if_neg hb], Fr.rf⟩)
  refine x_iload_n dX8_has_0 rfl rfl ?_
  refine x_callSi dX8_has_1 msX8_isHalf kX8_172 (k_isHalf E (d + 4) M h) (by omega) rfl rfl (Nat.le_of_ble_eq_true rfl) ?_
  rintro _ _ ⟨rfl, rfl⟩
  refine x_if_eqB (tgt := 16) dX8_has_4 (by decide) (fun hc => ?_) (fun hc => ?_)
  · exact bad (fun e => of_decide_eq_false hc e.1)
  have h1 := of_decide_eq_true hc
  refine x_iload_n dX8_has_7 rfl rfl ?_
  refine x_if_lt (tgt := 16) dX8_has_8 (by decide) (fun hc => ?_) (fun hc => ?_)
  · rw [Int32.lt_iff_toInt_lt, Int32.toInt_zero] at hc
    exact bad (by omega)
  rw [Int32.lt_iff_toInt_lt, Int32.toInt_zero] at hc
  have g := hc
  refine x_iload_n dX8_has_11 rfl rfl ?_
  refine x_iconst (v := nI 4) dX8_has_12 (by decide) ?_
  refine x_icmp_lt (tgt := 19) dX8_has_13 (by decide) (fun hc => ?_) (fun hc => ?_)
  rotate_left
  · rw [Int32.lt_iff_toInt_lt, e4] at hc
    exact bad (by omega)
  rw [Int32.lt_iff_toInt_lt, e4] at hc
  rcases ixc h 2 (by decide) with ⟨h, hh, rfl, _⟩ | hx
  rotate_left
  · exact absurd h1 hx
  rcases ixc p 4 (by decide) with ⟨p, hpp, rfl, _⟩ | hx
  rotate_left
  · exact absurd (by omega) hx
  refine x_aload_n dX8_has_19 rfl rfl ?_
  refine x_callVr dX8_has_20 mvX8_talliedNow kX8_122 (k_talliedNow E d M n K D q w kd pt nd hH hT hqK) rfl (by decide) (by omega) rfl rfl (Nat.le_of_ble_eq_true rfl) ?_
  rintro _ N ⟨rfl, hN, hl, htl⟩
  refine x_iload_n dX8_has_23 rfl rfl ?_
  refine x_iload_n dX8_has_24 rfl rfl ?_
  refine x_bipush (v := nI 31) dX8_has_25 (by decide) ?_
  refine x_callVi dX8_has_27 mvX5_counted kX8_175 (k_counted E (d + 4) N n K h p 31 q w kd (hN.v (by decide) f2) f5 htl hh hpp (by decide) hqK) rfl (by decide) (by omega) rfl rfl (Nat.le_of_ble_eq_true rfl) ?_
  rintro _ _ ⟨rfl, rfl⟩
  exact hR _ _ _ _ dX8_has_30 (⟨by unfold aHas; rw [if_pos ⟨inR_nI hh (by decide), inR_nI hpp (by decide)⟩, tn_nI (by omega), tn_nI (by omega)], hN.wd (by decide)⟩)
set_option maxHeartbeats 8000000 in
theorem k_can (E : Ev) (d : Nat) (M : PM) (n K D : Nat) (q w kd pt nd : Nat → Nat) (h : Int32) (hH : Hc M n K D kd pt nd) (hT : Tb M 13 n q w) (hqK : ∀ r c, r < n → c < 5 → q (5 * r + c) < 4 * K) : Ci E (d + 5) mX8_can [.ref (ad E 0), .int h] M (fun v N => v = aCan n D kd pt nd q w h ∧ Fr M N [32, 33, 37, 38]) := by
  refine Ct.ofi [some (.ref (ad E 0)), some (.int h)] (own := RX8) rfl (by decide) (Nat.le_of_ble_eq_true rfl) rfl (fun C hR => ?_)
  refine x_iload_n dX8_can_0 rfl rfl ?_
  refine x_callSi dX8_can_1 msX8_isHalf kX8_172 (k_isHalf E (d + 4) M h) (by omega) rfl rfl (Nat.le_of_ble_eq_true rfl) ?_
  rintro _ _ ⟨rfl, rfl⟩
  refine x_if_neB (tgt := 10) dX8_can_4 (by decide) (fun hc => ?_) (fun hc => ?_)
  rotate_left
  · refine x_bipush (v := -2) dX8_can_7 (by decide) ?_
    exact hR _ _ _ _ dX8_can_9 (⟨by unfold aCan; rw [if_neg (of_decide_eq_false hc)], Fr.rf⟩)
  have h1 := of_decide_eq_true hc
  rcases ixc h 2 (by decide) with ⟨h, hh, rfl, _⟩ | hx
  rotate_left
  · exact absurd h1 hx
  refine x_aload_n dX8_can_10 rfl rfl ?_
  refine x_callVr dX8_can_11 mvX8_talliedNow kX8_122 (k_talliedNow E d M n K D q w kd pt nd hH hT hqK) rfl (by decide) (by omega) rfl rfl (Nat.le_of_ble_eq_true rfl) ?_
  rintro _ N ⟨rfl, hN, hl, htl⟩
  refine x_iload_n dX8_can_14 rfl rfl ?_
  refine x_bipush (v := nI 31) dX8_can_15 (by decide) ?_
  refine x_callVi dX8_can_17 mvX5_deedBits kX8_179 (k_deedBits E (d + 2) N n K D h 31 q w kd pt nd (hH.fr hN (by decide) (by decide) (by decide) (by decide)) htl hh (by decide) hqK) rfl (by decide) (by omega) rfl rfl (Nat.le_of_ble_eq_true rfl) ?_
  rintro _ _ ⟨rfl, rfl⟩
  exact hR _ _ _ _ dX8_can_20 (⟨by unfold aCan; rw [if_pos (inR_nI hh (by decide)), tn_nI (by omega)], hN.wd (by decide)⟩)
