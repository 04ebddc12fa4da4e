-- ===== the component: acts, what was seen, the text =====
theorem AcC.fr {M N : PM} {an : Nat} {R : Nat → Int32} {F : Nat → Nat} {G : Nat → Int32} {cs : List Nat} (h : AcC M an R F G) (hf : Fr M N cs) (h1 : 27 ∉ cs) (h2 : 28 ∉ cs) (h3 : 29 ∉ cs) (h4 : 30 ∉ cs) : AcC N an R F G := by
  unfold AcC
  rw [hf.2 27 h1, hf.2 28 h2, hf.2 29 h3, hf.2 30 h4]
  exact h
set_option maxHeartbeats 8000000 in
theorem k_draw_row (E : Ev) (d : Nat) (M : PM) (n : Nat) (r a : Int32) (hn : M.1 3 5 = nI n) (hn5 : n ≤ 5) (hr : ¬ inR r n) : Ci E (d + 1) mX8_draw [.ref (ad E 0), .int r, .int a] M (fun v N => v = -1 ∧ M = N) := by
  refine Ct.ofi [some (.ref (ad E 0)), some (.int r), some (.int a), none] (own := RX8) rfl (by decide) (Nat.le_of_ble_eq_true rfl) rfl (fun C hR => ?_)
  refine x_aload_n dX8_draw_0 rfl rfl ?_
  refine x_iload_n dX8_draw_1 rfl rfl ?_
  refine x_callVi dX8_draw_2 mvX8_isRow kX8_136 (k_is_5 E d M r n hn hn5) rfl (by decide) (by omega) rfl rfl (Nat.le_of_ble_eq_true rfl) ?_
  rintro _ _ ⟨rfl, rfl⟩
  refine x_if_neB (tgt := 10) dX8_draw_5 (by decide) (fun hc => ?_) (fun hc => ?_)
  · exact absurd (of_decide_eq_true hc) hr
  refine x_iconst (v := -1) dX8_draw_8 (by decide) ?_
  exact hR _ _ _ _ dX8_draw_9 (⟨rfl, rfl⟩)
set_option maxHeartbeats 8000000 in
theorem k_draw_way (E : Ev) (d : Nat) (M : PM) (n r : Nat) (a : Int32) (hn : M.1 3 5 = nI n) (hn5 : n ≤ 5) (hr : r < n) (ha : ¬ inR a 2) : Ci E (d + 1) mX8_draw [.ref (ad E 0), .int (nI r), .int a] M (fun v N => v = -2 ∧ M = N) := by
  refine Ct.ofi [some (.ref (ad E 0)), some (.int (nI r)), some (.int a), none] (own := RX8) rfl (by decide) (Nat.le_of_ble_eq_true rfl) rfl (fun C hR => ?_)
  refine x_aload_n dX8_draw_0 rfl rfl ?_
  refine x_iload_n dX8_draw_1 rfl rfl ?_
  refine x_callVi dX8_draw_2 mvX8_isRow kX8_136 (k_is_5 E d M (nI r) n hn hn5) rfl (by decide) (by omega) rfl rfl (Nat.le_of_ble_eq_true rfl) ?_
  rintro _ _ ⟨rfl, rfl⟩
  refine x_if_neB (tgt := 10) dX8_draw_5 (by decide) (fun hc => ?_) (fun hc => ?_)
  rotate_left
  · exact absurd (inR_nI hr (by omega)) (of_decide_eq_false hc)
  refine x_iload_n dX8_draw_10 rfl rfl ?_
  refine x_if_eq (tgt := 22) dX8_draw_11 (by decide) (fun hc => ?_) (fun hc => ?_)
  · rw [hc] at ha; exact absurd (inR_nI (j := 0) (n := 2) (by decide) (by decide)) ha
  refine x_iload_n dX8_draw_14 rfl rfl ?_
  refine x_iconst (v := nI 1) dX8_draw_15 (by decide) ?_
  refine x_icmp_eq (tgt := 22) dX8_draw_16 (by decide) (fun hc => ?_) (fun hc => ?_)
  · rw [hc] at ha; exact absurd (inR_nI (j := 1) (n := 2) (by decide) (by decide)) ha
  refine x_bipush (v := -2) dX8_draw_19 (by decide) ?_
  exact hR _ _ _ _ dX8_draw_21 (⟨rfl, rfl⟩)
set_option maxHeartbeats 8000000 in
theorem k_draw (E : Ev) (d : Nat) (M : PM) (n an r a : Nat) (q w : Nat → Nat) (g : Int32) (R : Nat → Int32) (F : Nat → Nat) (G : Nat → Int32) (hn : M.1 3 5 = nI n) (hT : Tb M 13 n q w) (hA : AcC M an R F G) (hg : M.1 13 3 = g) (hr : r < n) (ha : a < 2) : Ci E (d + 3) mX8_draw [.ref (ad E 0), .int (nI r), .int (nI a)] M (fun v N => (cdw w n r (dt w r a) = false → v = -3 ∧ M = N) ∧ (cdw w n r (dt w r a) = true → v = nI (nw w r a r) ∧ Fr M N [15, 27, 28, 29, 30] ∧ Tb N 13 n q (nw w r a) ∧ AcC N (pan an) (psh an R (-9)) (psh an F (fig w n)) (psh an G g))) := by
  have hn5 := hT.1
  refine Ct.ofi [some (.ref (ad E 0)), some (.int (nI r)), some (.int (nI a)), none] (own := RX8) rfl (by decide) (Nat.le_of_ble_eq_true rfl) rfl (fun C hR => ?_)
  refine x_aload_n dX8_draw_0 rfl rfl ?_
  refine x_iload_n dX8_draw_1 rfl rfl ?_
  refine x_callVi dX8_draw_2 mvX8_isRow kX8_136 (k_is_5 E (d + 2) M (nI r) n hn hn5) rfl (by decide) (by omega) rfl rfl (Nat.le_of_ble_eq_true rfl) ?_
  rintro _ _ ⟨rfl, rfl⟩
  refine x_if_neB (tgt := 10) dX8_draw_5 (by decide) (fun hc => ?_) (fun hc => ?_)
  rotate_left
  · exact absurd (inR_nI hr (by omega)) (of_decide_eq_false hc)
  have body : X E (d + 3) RX8 cX8_draw 4 C 22 [some (.ref (ad E 0)), some (.int (nI r)), some (.int (nI a)), none] [] M := by
    refine x_aload_n dX8_draw_22 rfl rfl ?_
    refine x_getr dX8_draw_23 fX8_31 rfl rfl (by decide) ?_
    refine x_callVi dX8_draw_26 mvX4_wireNumber kX8_115 (k_wireNumber_13 E (d + 1) M n q w hn hT) rfl (by decide) (by omega) rfl rfl (Nat.le_of_ble_eq_true rfl) ?_
    rintro _ _ ⟨rfl, rfl⟩
    refine xis4_3 dX8_draw_29 rfl ?_
    refine x_aload_n dX8_draw_30 rfl rfl ?_
    refine x_getr dX8_draw_31 fX8_31 rfl rfl (by decide) ?_
    refine x_iload_n dX8_draw_34 rfl rfl ?_
    refine x_iload_n dX8_draw_35 rfl rfl ?_
    refine x_callVi dX8_draw_36 mvX4_moveWire kX8_182 (k_moveWire_13 E d M n r a q w hn hT (by omega) ha) rfl (by decide) (by omega) rfl rfl (Nat.le_of_ble_eq_true rfl) ?_
    rintro v N ⟨hno, hyes⟩
    cases hcd : cdw w n r (dt w r a)
    · obtain ⟨rfl, rfl⟩ := hno (fun z => by rw [hcd] at z; cases z.2)
      refine x_if_neB (tgt := 45) dX8_draw_39 (by decide) (fun hc => ?_) (fun hc => ?_)
      · cases hc
      refine x_bipush (v := -3) dX8_draw_42 (by decide) ?_
      exact hR _ _ _ _ dX8_draw_44 ⟨fun _ => ⟨rfl, rfl⟩, fun z => by rw [hcd] at z; cases z⟩
    · obtain ⟨rfl, hN, hTN⟩ := hyes ⟨hr, hcd⟩
      have hAN := hA.fr hN (by decide) (by decide) (by decide) (by decide)
      refine x_if_neB (tgt := 45) dX8_draw_39 (by decide) (fun hc => ?_) (fun hc => ?_)
      rotate_left
      · cases hc
      refine x_aload_n dX8_draw_45 rfl rfl ?_
      refine x_getr dX8_draw_46 fX8_49 rfl rfl (by decide) ?_
      refine x_bipush (v := -9) dX8_draw_49 (by decide) ?_
      refine x_iload_n dX8_draw_51 rfl rfl ?_
      refine x_aload_n dX8_draw_52 rfl rfl ?_
      refine x_getr dX8_draw_53 fX8_31 rfl rfl (by decide) ?_
      refine x_getv (hN.v (by decide) hg) dX8_draw_56 fX8_112 rfl rfl (by decide) ?_
      refine x_callVv dX8_draw_59 mvX0_note kX8_186 (k_note E d N an (fig w n) R F G (-9) g hAN) rfl (by decide) (by omega) rfl rfl (Nat.le_of_ble_eq_true rfl) ?_
      rintro N2 ⟨hN2, hA2⟩
      have hT2 : Tb N2 13 n q (nw w r a) := hTN.fr hN2 (by decide) (by decide)
      refine x_aload_n dX8_draw_62 rfl rfl ?_
      refine x_getr dX8_draw_63 fX8_31 rfl rfl (by decide) ?_
      refine x_getr dX8_draw_66 fX8_143 rfl rfl (by decide) ?_
      refine x_iload_n dX8_draw_69 rfl rfl ?_
      refine x_ialdN dX8_draw_70 rfl (by decide) (by omega) (by decide) ((hT2.2.2 r hr).1) ?_
      exact hR _ _ _ _ dX8_draw_71 ⟨fun z => (by rw [hcd] at z; cases z), fun _ => ⟨rfl, (hN.wd (by decide) : Fr M N [15, 27, 28, 29, 30]).tr hN2 (by decide), hT2, hA2⟩⟩
  refine x_iload_n dX8_draw_10 rfl rfl ?_
  refine x_if_eqN (tgt := 22) dX8_draw_11 (by decide) (by omega) (fun hc => ?_) (fun hc => ?_)
  · exact body
  refine x_iload_n dX8_draw_14 rfl rfl ?_
  refine x_iconst (v := nI 1) dX8_draw_15 (by decide) ?_
  refine x_icmp_eqN (tgt := 22) dX8_draw_16 (by decide) (by omega) (by omega) (fun hc => ?_) (fun hc => ?_)
  · exact body
  · exact absurd (by omega) hc
set_option maxHeartbeats 8000000 in
theorem k_change_row (E : Ev) (d : Nat) (M : PM) (n : Nat) (r : Int32) (hn : M.1 3 5 = nI n) (hn5 : n ≤ 5) (hr : ¬ inR r n) : Ci E (d + 1) mX8_change [.ref (ad E 0), .int r] M (fun v N => v = -1 ∧ M = N) := by
  refine Ct.ofi [some (.ref (ad E 0)), some (.int r)] (own := RX8) rfl (by decide) (Nat.le_of_ble_eq_true rfl) rfl (fun C hR => ?_)
  refine x_aload_n dX8_change_0 rfl rfl ?_
  refine x_iload_n dX8_change_1 rfl rfl ?_
  refine x_callVi dX8_change_2 mvX8_isRow kX8_136 (k_is_5 E d M r n hn hn5) rfl (by decide) (by omega) rfl rfl (Nat.le_of_ble_eq_true rfl) ?_
  rintro _ _ ⟨rfl, rfl⟩
  refine x_if_neB (tgt := 10) dX8_change_5 (by decide) (fun hc => ?_) (fun hc => ?_)
  · exact absurd (of_decide_eq_true hc) hr
  refine x_iconst (v := -1) dX8_change_8 (by decide) ?_
  exact hR _ _ _ _ dX8_change_9 (⟨rfl, rfl⟩)
set_option maxHeartbeats 8000000 in
theorem k_change (E : Ev) (d : Nat) (M : PM) (n an r : Nat) (q w : Nat → Nat) (g : Int32) (R : Nat → Int32) (F : Nat → Nat) (G : Nat → Int32) (hn : M.1 3 5 = nI n) (hT : Tb M 13 n q w) (hA : AcC M an R F G) (hg : M.1 13 3 = g) (hr : r < n) : Ci E (d + 3) mX8_change [.ref (ad E 0), .int (nI r)] M (fun v N => (¬ (1 ≤ w r ∧ w r ≤ 4) → v = -3 ∧ M = N) ∧ (1 ≤ w r ∧ w r ≤ 4 → v = nI (q (5 * r + w r) / 4) ∧ Fr M N [14, 27, 28, 29, 30] ∧ Tb N 13 n (swq q (5 * r + w r)) w ∧ AcC N (pan an) (psh an R (nI r)) (psh an F (fig w n)) (psh an G g))) := by
  have hn5 := hT.1
  have etn : tn (nI r) = r := tn_nI (by omega)
  have hin : inR (nI r) n := inR_nI hr (by omega)
  refine Ct.ofi [some (.ref (ad E 0)), some (.int (nI r))] (own := RX8) rfl (by decide) (Nat.le_of_ble_eq_true rfl) rfl (fun C hR => ?_)
  refine x_aload_n dX8_change_0 rfl rfl ?_
  refine x_iload_n dX8_change_1 rfl rfl ?_
  refine x_callVi dX8_change_2 mvX8_isRow kX8_136 (k_is_5 E (d + 2) M (nI r) n hn hn5) rfl (by decide) (by omega) rfl rfl (Nat.le_of_ble_eq_true rfl) ?_
  rintro _ _ ⟨rfl, rfl⟩
  refine x_if_neB (tgt := 10) dX8_change_5 (by decide) (fun hc => ?_) (fun hc => ?_)
  rotate_left
  · exact absurd hin (of_decide_eq_false hc)
  refine x_aload_n dX8_change_10 rfl rfl ?_
  refine x_getr dX8_change_11 fX8_31 rfl rfl (by decide) ?_
  refine x_iload_n dX8_change_14 rfl rfl ?_
  refine x_callVi dX8_change_15 mvX4_swapAtWire kX8_190 (k_swapAtWire_13 E (d + 2) M n q w (nI r) hn hT) rfl (by decide) (by omega) rfl rfl (Nat.le_of_ble_eq_true rfl) ?_
  rintro v N ⟨hno, hyes⟩
  rw [etn] at hno hyes
  by_cases z : 1 ≤ w r ∧ w r ≤ 4
  · obtain ⟨rfl, hN, hTN⟩ := hyes ⟨hin, z⟩
    have hAN := hA.fr hN (by decide) (by decide) (by decide) (by decide)
    have hnN : N.1 3 5 = nI n := hN.v (by decide) hn
    refine x_if_neB (tgt := 24) dX8_change_18 (by decide) (fun hc => ?_) (fun hc => ?_)
    rotate_left
    · cases hc
    refine x_aload_n dX8_change_24 rfl rfl ?_
    refine x_getr dX8_change_25 fX8_49 rfl rfl (by decide) ?_
    refine x_iload_n dX8_change_28 rfl rfl ?_
    refine x_aload_n dX8_change_29 rfl rfl ?_
    refine x_getr dX8_change_30 fX8_31 rfl rfl (by decide) ?_
    refine x_callVi dX8_change_33 mvX4_wireNumber kX8_115 (k_wireNumber_13 E (d + 1) N n _ w hnN hTN) rfl (by decide) (by omega) rfl rfl (Nat.le_of_ble_eq_true rfl) ?_
    rintro _ _ ⟨rfl, rfl⟩
    refine x_aload_n dX8_change_36 rfl rfl ?_
    refine x_getr dX8_change_37 fX8_31 rfl rfl (by decide) ?_
    refine x_getv (hN.v (by decide) hg) dX8_change_40 fX8_112 rfl rfl (by decide) ?_
    refine x_callVv dX8_change_43 mvX0_note kX8_186 (k_note E d N an (fig w n) R F G (nI r) g hAN) rfl (by decide) (by omega) rfl rfl (Nat.le_of_ble_eq_true rfl) ?_
    rintro N2 ⟨hN2, hA2⟩
    have hT2 : Tb N2 13 n (swq q (5 * r + w r)) w := hTN.fr hN2 (by decide) (by decide)
    have hv : N2.1 14 (r * 5 + w r - 1) = nI (q (5 * r + w r)) := by
      have := (hT2.2.1 r (w r - 1) hr (by omega)).1
      rw [show 5 * r + (w r - 1) = 5 * r + w r - 1 by omega] at this
      rw [show r * 5 + w r - 1 = r * 5 + (w r - 1) by omega]
      refine this.trans ?_
      unfold swq
      rw [if_neg (by omega), if_pos rfl]
    have hq20 : q (5 * r + w r) < 20 := (hT.2.1 r (w r) hr (by omega)).2
    refine x_aload_n dX8_change_46 rfl rfl ?_
    refine x_getr dX8_change_47 fX8_31 rfl rfl (by decide) ?_
    refine x_getr dX8_change_50 fX8_139 rfl rfl (by decide) ?_
    refine x_iload_n dX8_change_53 rfl rfl ?_
    refine x_iconst (v := nI 5) dX8_change_54 (by decide) ?_
    refine x_imulN dX8_change_55 ?_
    refine x_aload_n dX8_change_56 rfl rfl ?_
    refine x_getr dX8_change_57 fX8_31 rfl rfl (by decide) ?_
    refine x_getr dX8_change_60 fX8_143 rfl rfl (by decide) ?_
    refine x_iload_n dX8_change_63 rfl rfl ?_
    refine x_ialdN dX8_change_64 rfl (by decide) (by omega) (by decide) ((hT2.2.2 r hr).1) ?_
    refine x_iaddN dX8_change_65 ?_
    refine x_iconst (v := nI 1) dX8_change_66 (by decide) ?_
    refine x_isubN dX8_change_67 (by omega) ?_
    refine x_ialdN dX8_change_68 rfl (by decide) (by omega) (by decide) (hv) ?_
    refine x_callSi dX8_change_69 msX8_kinOf kX8_150 (k_kinOf E (d + 2) N2 _ (by omega)) (by omega) rfl rfl (Nat.le_of_ble_eq_true rfl) ?_
    rintro _ _ ⟨rfl, rfl⟩
    exact hR _ _ _ _ dX8_change_72 ⟨fun y => absurd z y, fun _ => ⟨rfl, (hN.wd (by decide) : Fr M N [14, 27, 28, 29, 30]).tr hN2 (by decide), hT2, hA2⟩⟩
  · obtain ⟨rfl, rfl⟩ := hno (fun y => z y.2)
    refine x_if_neB (tgt := 24) dX8_change_18 (by decide) (fun hc => ?_) (fun hc => ?_)
    · cases hc
    refine x_bipush (v := -3) dX8_change_21 (by decide) ?_
    exact hR _ _ _ _ dX8_change_23 ⟨fun _ => ⟨rfl, rfl⟩, fun y => absurd y z⟩
set_option maxHeartbeats 8000000 in
theorem k_join (E : Ev) (d : Nat) (M : PM) (n an : Nat) (q w : Nat → Nat) (g : Int32) (R : Nat → Int32) (F : Nat → Nat) (G : Nat → Int32) (hn : M.1 3 5 = nI n) (hT : Tb M 13 n q w) (hA : AcC M an R F G) (hg : M.1 13 3 = g) : Ci E (d + 3) mX8_join [.ref (ad E 0)] M (fun v N => v = g + nI (slp w n) ∧ Fr M N [13, 15, 27, 28, 29, 30] ∧ Tb N 13 n q (fun _ => 2) ∧ N.1 13 3 = g + nI (slp w n) ∧ AcC N (pan an) (psh an R (-9)) (psh an F (fig w n)) (psh an G g)) := by
  refine Ct.ofi [some (.ref (ad E 0))] (own := RX8) rfl (by decide) (Nat.le_of_ble_eq_true rfl) rfl (fun C hR => ?_)
  refine x_aload_n dX8_join_0 rfl rfl ?_
  refine x_getr dX8_join_1 fX8_49 rfl rfl (by decide) ?_
  refine x_bipush (v := -9) dX8_join_4 (by decide) ?_
  refine x_aload_n dX8_join_6 rfl rfl ?_
  refine x_getr dX8_join_7 fX8_31 rfl rfl (by decide) ?_
  refine x_callVi dX8_join_10 mvX4_wireNumber kX8_115 (k_wireNumber_13 E (d + 1) M n q w hn hT) rfl (by decide) (by omega) rfl rfl (Nat.le_of_ble_eq_true rfl) ?_
  rintro _ _ ⟨rfl, rfl⟩
  refine x_aload_n dX8_join_13 rfl rfl ?_
  refine x_getr dX8_join_14 fX8_31 rfl rfl (by decide) ?_
  refine x_getv (hg) dX8_join_17 fX8_112 rfl rfl (by decide) ?_
  refine x_callVv dX8_join_20 mvX0_note kX8_186 (k_note E d M an (fig w n) R F G (-9) g hA) rfl (by decide) (by omega) rfl rfl (Nat.le_of_ble_eq_true rfl) ?_
  rintro N ⟨hN, hAN⟩
  refine x_aload_n dX8_join_23 rfl rfl ?_
  refine x_getr dX8_join_24 fX8_31 rfl rfl (by decide) ?_
  refine x_callVv dX8_join_27 mvX4_joinFaces kX8_193 (k_joinFaces_13 E (d + 1) N n q w (hN.v (by decide) hn) (hT.fr hN (by decide) (by decide))) rfl (by decide) (by omega) rfl rfl (Nat.le_of_ble_eq_true rfl) ?_
  rintro N2 ⟨hN2, hg2, hT2⟩
  rw [hN.v (by decide) hg] at hg2
  refine x_aload_n dX8_join_30 rfl rfl ?_
  refine x_getr dX8_join_31 fX8_31 rfl rfl (by decide) ?_
  refine x_getv (hg2) dX8_join_34 fX8_112 rfl rfl (by decide) ?_
  exact hR _ _ _ _ dX8_join_37 ⟨rfl, (hN.wd (by decide) : Fr M N [13, 15, 27, 28, 29, 30]).tr hN2 (by decide), hT2, hg2, hAN.fr hN2 (by decide) (by decide) (by decide) (by decide)⟩
set_option maxHeartbeats 8000000 in
theorem k_undo0 (E : Ev) (d : Nat) (M : PM) (h : M.1 27 3 = nI 0) : Ci E d mX8_undo [.ref (ad E 0)] M (fun v N => v = -3 ∧ M = N) := by
  refine Ct.ofi [some (.ref (ad E 0))] (own := RX8) rfl (by decide) (Nat.le_of_ble_eq_true rfl) rfl (fun C hR => ?_)
  refine x_aload_n dX8_undo_0 rfl rfl ?_
  refine x_getr dX8_undo_1 fX8_49 rfl rfl (by decide) ?_
  refine x_getv (h) dX8_undo_4 fX8_132 rfl rfl (by decide) ?_
  refine x_if_neN (tgt := 13) dX8_undo_7 (by decide) (by omega) (fun hc => ?_) (fun hc => ?_)
  · exact absurd rfl hc
  refine x_bipush (v := -3) dX8_undo_10 (by decide) ?_
  exact hR _ _ _ _ dX8_undo_12 (⟨rfl, rfl⟩)
set_option maxHeartbeats 8000000 in
theorem k_undo (E : Ev) (d : Nat) (M : PM) (n an : Nat) (q w wo : Nat → Nat) (R : Nat → Int32) (F : Nat → Nat) (G : Nat → Int32) (hn : M.1 3 5 = nI n) (h : AcC M (an + 1) R F G) (ht : Tb M 13 n q wo) (hw : ∀ r, r < n → w r ≤ 5) (hF : F an = fig w n) : Ci E (d + 2) mX8_undo [.ref (ad E 0)] M (fun v N => v = nI an ∧ Fr M N [13, 14, 15, 27] ∧ AcC N an R F G ∧ N.1 13 3 = G an ∧ (¬ (inR (R an) n ∧ 1 ≤ w (tn (R an)) ∧ w (tn (R an)) ≤ 4) → Tb N 13 n q w) ∧ (inR (R an) n ∧ 1 ≤ w (tn (R an)) ∧ w (tn (R an)) ≤ 4 → Tb N 13 n (swq q (5 * tn (R an) + w (tn (R an)))) w)) := by
  have h14 := h.2.1
  refine Ct.ofi [some (.ref (ad E 0))] (own := RX8) rfl (by decide) (Nat.le_of_ble_eq_true rfl) rfl (fun C hR => ?_)
  refine x_aload_n dX8_undo_0 rfl rfl ?_
  refine x_getr dX8_undo_1 fX8_49 rfl rfl (by decide) ?_
  refine x_getv (h.1) dX8_undo_4 fX8_132 rfl rfl (by decide) ?_
  refine x_if_neN (tgt := 13) dX8_undo_7 (by decide) (by omega) (fun hc => ?_) (fun hc => ?_)
  rotate_left
  · exact absurd hc (by omega)
  refine x_aload_n dX8_undo_13 rfl rfl ?_
  refine x_getr dX8_undo_14 fX8_49 rfl rfl (by decide) ?_
  refine x_aload_n dX8_undo_17 rfl rfl ?_
  refine x_getr dX8_undo_18 fX8_31 rfl rfl (by decide) ?_
  refine x_callVv dX8_undo_21 mvX0_takeBack kX8_196 (k_takeBack E d M n an q w wo R F G hn h ht hw hF) rfl (by decide) (by omega) rfl rfl (Nat.le_of_ble_eq_true rfl) ?_
  rintro N ⟨hN, hA, hr⟩
  refine x_aload_n dX8_undo_24 rfl rfl ?_
  refine x_getr dX8_undo_25 fX8_49 rfl rfl (by decide) ?_
  refine x_getv (hA.1) dX8_undo_28 fX8_132 rfl rfl (by decide) ?_
  exact hR _ _ _ _ dX8_undo_31 ⟨rfl, hN, hA, hr⟩
set_option maxHeartbeats 8000000 in
theorem k_unsee (E : Ev) (d : Nat) (M : PM) (sn : Nat) (sk ss : Nat → Nat) (hs : SnC M sn sk ss) : Ci E d mX8_unsee [.ref (ad E 0)] M (fun v N => v = nI sn ∧ Fr M N [34] ∧ SnC N 0 sk ss) := by
  refine Ct.ofi [some (.ref (ad E 0)), none] (own := RX8) rfl (by decide) (Nat.le_of_ble_eq_true rfl) rfl (fun C hR => ?_)
  refine x_aload_n dX8_unsee_0 rfl rfl ?_
  refine x_getr dX8_unsee_1 fX8_63 rfl rfl (by decide) ?_
  refine x_getv (hs.1) dX8_unsee_4 fX8_135 rfl rfl (by decide) ?_
  refine xis2_1 dX8_unsee_7 rfl ?_
  refine x_aload_n dX8_unsee_8 rfl rfl ?_
  refine x_getr dX8_unsee_9 fX8_63 rfl rfl (by decide) ?_
  refine x_iconst (v := nI 0) dX8_unsee_12 (by decide) ?_
  refine x_put dX8_unsee_13 pX8_135 rfl rfl (by decide) rfl rfl ?_
  refine x_iload_n dX8_unsee_16 rfl rfl ?_
  exact hR _ _ _ _ dX8_unsee_17 ⟨rfl, Fr.rf.sa (by decide), sus, by decide, fun i hi => absurd hi (Nat.not_lt_zero _)⟩
set_option maxHeartbeats 8000000 in
theorem k_wipe (E : Ev) (d : Nat) (M : PM) (t : Nat) (tx : Nat → Nat) (ht : TxC M t tx) : Ci E d mX8_wipe [.ref (ad E 0)] M (fun v N => v = nI t ∧ Fr M N [1] ∧ TxC N 0 tx) := by
  refine Ct.ofi [some (.ref (ad E 0)), none] (own := RX8) rfl (by decide) (Nat.le_of_ble_eq_true rfl) rfl (fun C hR => ?_)
  refine x_aload_n dX8_wipe_0 rfl rfl ?_
  refine x_getr dX8_wipe_1 fX8_12 rfl rfl (by decide) ?_
  refine x_getv (ht.1) dX8_wipe_4 fX8_89 rfl rfl (by decide) ?_
  refine xis2_1 dX8_wipe_7 rfl ?_
  refine x_aload_n dX8_wipe_8 rfl rfl ?_
  refine x_getr dX8_wipe_9 fX8_12 rfl rfl (by decide) ?_
  refine x_iconst (v := nI 0) dX8_wipe_12 (by decide) ?_
  refine x_put dX8_wipe_13 pX8_89 rfl rfl (by decide) rfl rfl ?_
  refine x_iload_n dX8_wipe_16 rfl rfl ?_
  exact hR _ _ _ _ dX8_wipe_17 ⟨rfl, Fr.rf.sa (by decide), sus, by decide, fun i hi => absurd hi (Nat.not_lt_zero _)⟩
set_option maxHeartbeats 8000000 in
theorem k_fault (E : Ev) (d : Nat) (M : PM) (t : Nat) (tx : Nat → Nat) (ht : TxC M t tx) : Ci E (d + 3) mX8_fault [.ref (ad E 0)] M (fun v N => v = fltA t tx ∧ Fr M N [8, 9, 10, 11, 12]) := by
  refine Ct.ofi [some (.ref (ad E 0))] (own := RX8) rfl (by decide) (Nat.le_of_ble_eq_true rfl) rfl (fun C hR => ?_)
  refine x_aload_n dX8_fault_0 rfl rfl ?_
  refine x_getr dX8_fault_1 fX8_12 rfl rfl (by decide) ?_
  refine x_aload_n dX8_fault_4 rfl rfl ?_
  refine x_getr dX8_fault_5 fX8_23 rfl rfl (by decide) ?_
  refine x_callVi dX8_fault_8 mvX6_readInto kX8_93 (k_readInto_8 E d M t tx ht) rfl (by decide) (by omega) rfl rfl (Nat.le_of_ble_eq_true rfl) ?_
  rintro _ N ⟨rfl, hN, _⟩
  exact hR _ _ _ _ dX8_fault_11 (⟨rfl, hN⟩)
set_option maxHeartbeats 8000000 in
theorem k_write (E : Ev) (d : Nat) (M : PM) (t : Nat) (tx : Nat → Nat) (x : Int32) (ht : TxC M t tx) : Ci E (d + 1) mX8_write [.ref (ad E 0), .int x] M (fun v N => v = aWrite t x ∧ (¬ (inR x 256 ∧ t ≠ 56) → M = N) ∧ (inR x 256 ∧ t ≠ 56 → Fr M N [1, 2] ∧ TxC N (t + 1) (uf tx t (tn x)))) := by
  have e5 : (nI 255).toInt = 255 := by decide
  refine Ct.ofi [some (.ref (ad E 0)), some (.int x)] (own := RX8) rfl (by decide) (Nat.le_of_ble_eq_true rfl) rfl (fun C hR => ?_)
  rcases ixc x 256 (by decide) with ⟨x, hx, rfl, hxt⟩ | hx
  rotate_left
  · have bad : X E (d + 1) RX8 cX8_write 2 C 11 [some (.ref (ad E 0)), some (.int x)] [] M := by
      refine x_bipush (v := -2) dX8_write_11 (by decide) ?_
      exact hR _ _ _ _ dX8_write_13 ⟨by unfold aWrite; rw [if_neg hx], fun _ => rfl, fun z => absurd z.1 hx⟩
    refine x_iload_n dX8_write_0 rfl rfl ?_
    refine x_if_lt (tgt := 11) dX8_write_1 (by decide) (fun hc => ?_) (fun hc => ?_)
    · exact bad
    rw [Int32.lt_iff_toInt_lt, Int32.toInt_zero] at hc
    have g := hc
    refine x_iload_n dX8_write_4 rfl rfl ?_
    refine x_sipush (v := nI 255) dX8_write_5 (by decide) ?_
    refine x_icmp_le (tgt := 14) dX8_write_8 (by decide) (fun hc => ?_) (fun hc => ?_)
    · rw [Int32.le_iff_toInt_le, e5] at hc
      exact absurd (by omega) hx
    · exact bad
  have hin : inR (nI x) 256 := inR_nI hx (by decide)
  rw [tn_nI (by omega), show aWrite t (nI x) = if t = 56 then -4 else nI (t + 1) by unfold aWrite; rw [if_pos hin]] at hR
  refine x_iload_n dX8_write_0 rfl rfl ?_
  refine x_if_ltN (tgt := 11) dX8_write_1 (by decide) (by omega) ?_
  refine x_iload_n dX8_write_4 rfl rfl ?_
  refine x_sipush (v := nI 255) dX8_write_5 (by decide) ?_
  refine x_icmp_leN (tgt := 14) dX8_write_8 (by decide) (by omega) (by omega) (fun hc => ?_) (fun hc => ?_)
  rotate_left
  · exact absurd hc (by omega)
  refine x_aload_n dX8_write_14 rfl rfl ?_
  refine x_getr dX8_write_15 fX8_12 rfl rfl (by decide) ?_
  refine x_iload_n dX8_write_18 rfl rfl ?_
  refine x_callVi dX8_write_19 mvX6_append kX8_85 (k_append E d M t x tx ht hx) rfl (by decide) (by omega) rfl rfl (Nat.le_of_ble_eq_true rfl) ?_
  rintro v N ⟨hno, hyes⟩
  by_cases z : t = 56
  · obtain ⟨rfl, rfl⟩ := hno z
    refine x_if_eqB (tgt := 35) dX8_write_22 (by decide) (fun hc => ?_) (fun hc => ?_)
    rotate_left
    · cases hc
    refine x_bipush (v := -4) dX8_write_35 (by decide) ?_
    exact hR _ _ _ _ dX8_write_37 ⟨by rw [if_pos z], fun _ => rfl, fun y => absurd z y.2⟩
  · obtain ⟨rfl, hN, hTN⟩ := hyes z
    refine x_if_eqB (tgt := 35) dX8_write_22 (by decide) (fun hc => ?_) (fun hc => ?_)
    · cases hc
    refine x_aload_n dX8_write_25 rfl rfl ?_
    refine x_getr dX8_write_26 fX8_12 rfl rfl (by decide) ?_
    refine x_getv (hTN.1) dX8_write_29 fX8_89 rfl rfl (by decide) ?_
    refine x_goto (tgt := 37) dX8_write_32 (by decide) ?_
    exact hR _ _ _ _ dX8_write_37 ⟨by rw [if_neg z], fun y => absurd ⟨hin, z⟩ y, fun _ => ⟨hN, hTN⟩⟩
