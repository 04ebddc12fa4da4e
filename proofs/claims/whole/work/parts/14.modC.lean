-- ===== the reference: what is asked =====
abbrev inR (x : Int32) (n : Nat) : Prop := 0 ≤ x.toInt ∧ x.toInt < (n : Int)
theorem inR_nI {j n : Nat} (h : j < n) (hn : n < 2147483648) : inR (nI j) n := by rw [inR, nI_toInt (by omega)]; omega
def aboutR (n K D an sn t : Nat) (g : Int32) (q w : Nat → Nat) : Nat → Int32
  | 0 => nI n
  | 1 => nI K
  | 2 => nI D
  | 3 => g
  | 4 => nI (fig w n)
  | 5 => nI (slp w n)
  | 6 => nI (parB q w n K)
  | 7 => nI (lvc n)
  | 8 => nI an
  | 9 => nI sn
  | _ => nI t
def aAbout (n K D an sn t : Nat) (g : Int32) (q w : Nat → Nat) (x : Int32) : Int32 := if inR x 11 then aboutR n K D an sn t g q w (tn x) else -2
def cellR (n : Nat) (kd q w : Nat → Nat) (r c : Nat) : Nat → Int32
  | 0 => nI (q (5 * r + c) / 4)
  | 1 => nI (q (5 * r + c) % 4)
  | 2 => nI (hf w r c)
  | _ => nI (cfc kd q w n r c)
def aCell (n : Nat) (kd q w : Nat → Nat) (r c x : Int32) : Int32 := if inR r n then if inR c 5 then if inR x 4 then cellR n kd q w (tn r) (tn c) (tn x) else -2 else -2 else -1
def cof (kd q w : Nat → Nat) (n h k : Nat) : Nat := fb_sm (fun p => cnt kd q w n h p (2 ^ k)) 4
def kinR (n : Nat) (kd q w : Nat → Nat) (k : Nat) : Nat → Int32
  | 0 => nI (kd k)
  | 1 => nI (lf q w n k)
  | 2 => nI (rg q w n k)
  | 3 => nI (cof kd q w n 0 k)
  | _ => nI (cof kd q w n 1 k)
def aKin (n K : Nat) (kd q w : Nat → Nat) (k x : Int32) : Int32 := if inR k K then if inR x 5 then kinR n kd q w (tn k) (tn x) else -2 else -1
def aHas (n : Nat) (kd q w : Nat → Nat) (h p : Int32) : Int32 := if inR h 2 ∧ inR p 4 then nI (cnt kd q w n (tn h) (tn p) 31) else -2
def aCan (n D : Nat) (kd pt nd q w : Nat → Nat) (h : Int32) : Int32 := if inR h 2 then nI (canB kd q w n D pt nd (tn h) 31) else -2
set_option maxHeartbeats 8000000 in
theorem c_countsOf (E : Ev) (d : Nat) (M : PM) (n K D k h : Nat) (q w kd pt nd : Nat → Nat) (hF : Fm M n K D kd pt nd) (hp : Pg M 49 n q w) (hl : Ld M n q w) (hk : k < 5) (hh : h ≤ 1) (hqK : ∀ r c, r < n → c < 5 → q (5 * r + c) < 4 * K) : Ci E (d + 2) mX9_countsOf [.ref (ad E 40), .int (nI k), .int (nI h)] M (fun v N => v = nI (cof kd q w n h k) ∧ M = N) := by
  have h2 : 2 ^ k ≤ 16 := p2' (by omega)
  refine Ct.ofi [some (.ref (ad E 40)), some (.int (nI k)), some (.int (nI h)), none, none] (own := RX9) rfl (by decide) (Nat.le_of_ble_eq_true rfl) rfl (fun C hR => ?_)
  refine x_iconst (v := nI 0) dX9_countsOf_0 (by decide) ?_
  refine xis5_3 dX9_countsOf_1 rfl ?_
  refine x_iconst (v := nI 0) dX9_countsOf_2 (by decide) ?_
  refine xis5_4 dX9_countsOf_3 rfl ?_
  have key : ∀ i, i ≤ 4 → X E (d + 2) RX9 cX9_countsOf 5 C 5 [some (.ref (ad E 40)), some (.int (nI k)), some (.int (nI h)), some (.int (nI (fb_sm (fun p => cnt kd q w n h p (2 ^ k)) i))), some (.int (nI i))] [] M := by
    refine up_loop 4 ?_ ?_
    · refine x_iload dX9_countsOf_5 rfl ?_
      refine x_iconst (v := nI 4) dX9_countsOf_7 (by decide) ?_
      refine x_icmp_geN (tgt := 34) dX9_countsOf_8 (by decide) (by omega) (by omega) (fun hc => ?_) (fun hc => ?_)
      · refine x_iload_n dX9_countsOf_34 rfl rfl ?_
        exact hR _ _ _ _ dX9_countsOf_35 (⟨rfl, rfl⟩)
      · exact absurd hc (by omega)
    · intro i hi ih
      refine x_iload dX9_countsOf_5 rfl ?_
      refine x_iconst (v := nI 4) dX9_countsOf_7 (by decide) ?_
      refine x_icmp_geN (tgt := 34) dX9_countsOf_8 (by decide) (by omega) (by omega) (fun hc => ?_) (fun hc => ?_)
      · exact absurd hc (by omega)
      refine x_iload_n dX9_countsOf_11 rfl rfl ?_
      refine x_aload_n dX9_countsOf_12 rfl rfl ?_
      refine x_aload_n dX9_countsOf_13 rfl rfl ?_
      refine x_getr dX9_countsOf_14 fX9_34 rfl rfl (by decide) ?_
      refine x_iload_n dX9_countsOf_17 rfl rfl ?_
      refine x_iload dX9_countsOf_18 rfl ?_
      refine x_iconst (v := nI 1) dX9_countsOf_20 (by decide) ?_
      refine x_iload_n dX9_countsOf_21 rfl rfl ?_
      refine x_ishlN dX9_countsOf_22 (by omega) (by omega) ?_
      rw [Nat.one_mul]
      refine x_callVi dX9_countsOf_23 mvX9_countOf kX9_138 (c_countOf E d M 49 n K D h i (2 ^ k) q w kd pt nd hF hp hl hh (by omega) (by omega) hqK) rfl (by decide) (by omega) rfl rfl (Nat.le_of_ble_eq_true rfl) ?_
      rintro _ _ ⟨rfl, rfl⟩
      refine x_iaddN dX9_countsOf_26 ?_
      refine xis5_3 dX9_countsOf_27 rfl ?_
      refine xinc5_4N dX9_countsOf_28 rfl ?_
      refine x_goto (tgt := 5) dX9_countsOf_31 (by decide) ?_
      exact ih
  exact key 0 (by omega)
set_option maxHeartbeats 8000000 in
theorem cM_about (E : Ev) (d : Nat) (M : PM) (n K D an sn t : Nat) (g : Int32) (q w kd pt nd : Nat → Nat) (x : Int32) (hT : M.1 40 0 = nI 0) (hF : Fm M n K D kd pt nd) (hp : Pg M 49 n q w) (hg : M.1 49 30 = g) (ha : M.1 40 20 = nI an) (hs : M.1 40 23 = nI sn) (ht : M.1 40 2 = nI t) : Ci E (d + 3) mX9_about [.ref (ad E 40), .int x] M (fun v N => v = aAbout n K D an sn t g q w x ∧ Sc M N) := by
  obtain ⟨f1, f2, f3, f4, f5, f6, f7, f8, f9⟩ := id hF
  refine Ct.ofi [some (.ref (ad E 40)), some (.int x)] (own := RX9) rfl (by decide) (Nat.le_of_ble_eq_true rfl) rfl (fun C hR => ?_)
  refine x_aload_n dX9_about_0 rfl rfl ?_
  refine x_iconst (v := nI 0) dX9_about_1 (by decide) ?_
  refine x_put dX9_about_2 pX9_68 rfl rfl (by decide) rfl rfl ?_
  rw [thr hT]
  refine x_aload_n dX9_about_5 rfl rfl ?_
  refine x_aload_n dX9_about_6 rfl rfl ?_
  refine x_getr dX9_about_7 fX9_34 rfl rfl (by decide) ?_
  refine x_callVv dX9_about_10 mvX9_layHalves kX9_152 (c_layHalves E (d + 2) M 49 n q w f1 hp) rfl (by decide) (by omega) rfl rfl (Nat.le_of_ble_eq_true rfl) ?_
  rintro N ⟨hN, hl⟩
  refine x_iload_n dX9_about_13 rfl rfl ?_
  have hS : Sc M N := hN.Sc (by decide) (by decide)
  rcases ixc x 11 (by decide) with ⟨j, hj, rfl, hxt⟩ | hx
  · have ea : aAbout n K D an sn t g q w (nI j) = aboutR n K D an sn t g q w j := by unfold aAbout; rw [if_pos (inR_nI hj (by decide)), tn_nI (by omega)]
    rw [ea] at hR
    match j, hj with
    | 0, _ =>
      refine x_tableIn (off := 58) (tgt := 72) dX9_about_14 (by decide) (by decide) (by decide) (by decide) ?_
      refine x_aload_n dX9_about_72 rfl rfl ?_
      refine x_getv (hN.v (by decide) f1) dX9_about_73 fX9_114 rfl rfl (by decide) ?_
      exact hR _ _ _ _ dX9_about_76 (⟨rfl, hS⟩)
    | 1, _ =>
      refine x_tableIn (off := 63) (tgt := 77) dX9_about_14 (by decide) (by decide) (by decide) (by decide) ?_
      refine x_aload_n dX9_about_77 rfl rfl ?_
      refine x_getv (hN.v (by decide) f2) dX9_about_78 fX9_117 rfl rfl (by decide) ?_
      exact hR _ _ _ _ dX9_about_81 (⟨rfl, hS⟩)
    | 2, _ =>
      refine x_tableIn (off := 68) (tgt := 82) dX9_about_14 (by decide) (by decide) (by decide) (by decide) ?_
      refine x_aload_n dX9_about_82 rfl rfl ?_
      refine x_getv (hN.v (by decide) f3) dX9_about_83 fX9_120 rfl rfl (by decide) ?_
      exact hR _ _ _ _ dX9_about_86 (⟨rfl, hS⟩)
    | 3, _ =>
      refine x_tableIn (off := 73) (tgt := 87) dX9_about_14 (by decide) (by decide) (by decide) (by decide) ?_
      refine x_aload_n dX9_about_87 rfl rfl ?_
      refine x_getr dX9_about_88 fX9_34 rfl rfl (by decide) ?_
      refine x_bipush (v := nI 30) dX9_about_91 (by decide) ?_
      refine x_ialdN dX9_about_93 rfl (by decide) (by omega) (by decide) (hN.v (by decide) hg) ?_
      exact hR _ _ _ _ dX9_about_94 (⟨rfl, hS⟩)
    | 4, _ =>
      refine x_tableIn (off := 81) (tgt := 95) dX9_about_14 (by decide) (by decide) (by decide) (by decide) ?_
      refine x_aload_n dX9_about_95 rfl rfl ?_
      refine x_aload_n dX9_about_96 rfl rfl ?_
      refine x_getr dX9_about_97 fX9_34 rfl rfl (by decide) ?_
      refine x_callVi dX9_about_100 mvX9_figuresOf kX9_156 (c_figuresOf E (d + 2) N 49 n q w (hN.v (by decide) f1) (hp.fr hN (by decide))) rfl (by decide) (by omega) rfl rfl (Nat.le_of_ble_eq_true rfl) ?_
      rintro _ _ ⟨rfl, rfl⟩
      exact hR _ _ _ _ dX9_about_103 (⟨rfl, hS⟩)
    | 5, _ =>
      refine x_tableIn (off := 90) (tgt := 104) dX9_about_14 (by decide) (by decide) (by decide) (by decide) ?_
      refine x_aload_n dX9_about_104 rfl rfl ?_
      refine x_aload_n dX9_about_105 rfl rfl ?_
      refine x_getr dX9_about_106 fX9_34 rfl rfl (by decide) ?_
      refine x_callVi dX9_about_109 mvX9_slipsOf kX9_160 (c_slipsOf E (d + 2) N 49 n q w (hN.v (by decide) f1) (hp.fr hN (by decide))) rfl (by decide) (by omega) rfl rfl (Nat.le_of_ble_eq_true rfl) ?_
      rintro _ _ ⟨rfl, rfl⟩
      exact hR _ _ _ _ dX9_about_112 (⟨rfl, hS⟩)
    | 6, _ =>
      refine x_tableIn (off := 99) (tgt := 113) dX9_about_14 (by decide) (by decide) (by decide) (by decide) ?_
      refine x_aload_n dX9_about_113 rfl rfl ?_
      refine x_callVi dX9_about_114 mvX9_partedLaid kX9_163 (c_partedLaid E (d + 2) N n K q w (hN.v (by decide) f2) f5 f4 hl) rfl (by decide) (by omega) rfl rfl (Nat.le_of_ble_eq_true rfl) ?_
      rintro _ _ ⟨rfl, rfl⟩
      exact hR _ _ _ _ dX9_about_117 (⟨rfl, hS⟩)
    | 7, _ =>
      refine x_tableIn (off := 104) (tgt := 118) dX9_about_14 (by decide) (by decide) (by decide) (by decide) ?_
      refine x_aload_n dX9_about_118 rfl rfl ?_
      refine x_callVi dX9_about_119 mvX9_wires kX9_166 (c_wires E d N n q w (hN.v (by decide) f1) (hp.fr hN (by decide))) rfl (by decide) (by omega) rfl rfl (Nat.le_of_ble_eq_true rfl) ?_
      rintro _ N2 ⟨rfl, hN2⟩
      have hN3 : Fr M N2 [56, 57, 50, 58] := (hN.wd (by decide)).tr hN2 (by decide)
      exact hR _ _ _ _ dX9_about_122 (⟨rfl, hN3.Sc (by decide) (by decide)⟩)
    | 8, _ =>
      refine x_tableIn (off := 109) (tgt := 123) dX9_about_14 (by decide) (by decide) (by decide) (by decide) ?_
      refine x_aload_n dX9_about_123 rfl rfl ?_
      refine x_getv (hN.v (by decide) ha) dX9_about_124 fX9_127 rfl rfl (by decide) ?_
      exact hR _ _ _ _ dX9_about_127 (⟨rfl, hS⟩)
    | 9, _ =>
      refine x_tableIn (off := 114) (tgt := 128) dX9_about_14 (by decide) (by decide) (by decide) (by decide) ?_
      refine x_aload_n dX9_about_128 rfl rfl ?_
      refine x_getv (hN.v (by decide) hs) dX9_about_129 fX9_169 rfl rfl (by decide) ?_
      exact hR _ _ _ _ dX9_about_132 (⟨rfl, hS⟩)
    | 10, _ =>
      refine x_tableIn (off := 119) (tgt := 133) dX9_about_14 (by decide) (by decide) (by decide) (by decide) ?_
      refine x_aload_n dX9_about_133 rfl rfl ?_
      refine x_getv (hN.v (by decide) ht) dX9_about_134 fX9_78 rfl rfl (by decide) ?_
      exact hR _ _ _ _ dX9_about_137 (⟨rfl, hS⟩)
    | k + 11, h => exact absurd h (by omega)
  · refine x_tableOut (tgt := 138) dX9_about_14 (by omega) (by decide) ?_
    refine x_bipush (v := -2) dX9_about_138 (by decide) ?_
    exact hR _ _ _ _ dX9_about_140 (⟨by unfold aAbout; rw [if_neg hx], hS⟩)
set_option maxHeartbeats 8000000 in
theorem cM_cell (E : Ev) (d : Nat) (M : PM) (n K D : Nat) (q w kd pt nd : Nat → Nat) (r c x : Int32) (hT : M.1 40 0 = nI 0) (hF : Fm M n K D kd pt nd) (hp : Pg M 49 n q w) (hqK : ∀ r c, r < n → c < 5 → q (5 * r + c) < 4 * K) : Ci E (d + 1) mX9_cell [.ref (ad E 40), .int r, .int c, .int x] M (fun v N => v = aCell n kd q w r c x ∧ Sc M N) := by
  obtain ⟨f1, f2, f3, f4, f5, f6, f7, f8, f9⟩ := id hF
  refine Ct.ofi [some (.ref (ad E 40)), some (.int r), some (.int c), some (.int x), none] (own := RX9) rfl (by decide) (Nat.le_of_ble_eq_true rfl) rfl (fun C hR => ?_)
  refine x_aload_n dX9_cell_0 rfl rfl ?_
  refine x_iconst (v := nI 0) dX9_cell_1 (by decide) ?_
  refine x_put dX9_cell_2 pX9_68 rfl rfl (by decide) rfl rfl ?_
  rw [thr hT]
  refine x_iload_n dX9_cell_5 rfl rfl ?_
  refine x_i2l dX9_cell_6 ?_
  refine x_lconst (v := 0) dX9_cell_7 rfl ?_
  refine x_aload_n dX9_cell_8 rfl rfl ?_
  refine x_getv (f1) dX9_cell_9 fX9_114 rfl rfl (by decide) ?_
  refine x_iconst (v := nI 1) dX9_cell_12 (by decide) ?_
  refine x_isub dX9_cell_13 ?_
  refine x_i2l dX9_cell_14 ?_
  refine x_callSi dX9_cell_15 msX9_in kX9_74 (c_in3 E d M r _ _ 0 ((n : Int) - 1) rfl (tl1 (by omega))) (by omega) rfl rfl (Nat.le_of_ble_eq_true rfl) ?_
  rintro _ _ ⟨rfl, rfl⟩
  rcases ixc r n (by omega) with ⟨r, hr, rfl, hrt⟩ | hr
  rotate_left
  · refine x_if_neB (tgt := 23) dX9_cell_18 (by decide) (fun hc => ?_) (fun hc => ?_)
    · exact absurd (of_decide_eq_true hc) (by omega)
    · refine x_iconst (v := -1) dX9_cell_21 (by decide) ?_
      exact hR _ _ _ _ dX9_cell_22 (⟨by unfold aCell; rw [if_neg hr], Sc.rf⟩)
  refine x_if_neB (tgt := 23) dX9_cell_18 (by decide) (fun hc => ?_) (fun hc => ?_)
  rotate_left
  · exact absurd (of_decide_eq_false hc) (by omega)
  refine x_iload_n dX9_cell_23 rfl rfl ?_
  refine x_i2l dX9_cell_24 ?_
  refine x_lconst (v := 0) dX9_cell_25 rfl ?_
  refine x_ldc2 dX9_cell_26 qX9_172 ?_
  refine x_callSi dX9_cell_29 msX9_in kX9_74 (c_in3 E d M c _ _ 0 4 rfl rfl) (by omega) rfl rfl (Nat.le_of_ble_eq_true rfl) ?_
  rintro _ _ ⟨rfl, rfl⟩
  rcases ixc c 5 (by omega) with ⟨c, hc5, rfl, hct⟩ | hc5
  rotate_left
  · refine x_if_neB (tgt := 38) dX9_cell_32 (by decide) (fun hc => ?_) (fun hc => ?_)
    · exact absurd (of_decide_eq_true hc) (by omega)
    · refine x_bipush (v := -2) dX9_cell_35 (by decide) ?_
      exact hR _ _ _ _ dX9_cell_37 (⟨by unfold aCell; rw [if_pos (inR_nI hr (by omega)), if_neg hc5], Sc.rf⟩)
  refine x_if_neB (tgt := 38) dX9_cell_32 (by decide) (fun hc => ?_) (fun hc => ?_)
  rotate_left
  · exact absurd (of_decide_eq_false hc) (by omega)
  have hcell := hp.2.2.2.1 r c hr hc5
  have hwr := hp.2.2.2.2 r hr
  refine x_aload_n dX9_cell_38 rfl rfl ?_
  refine x_aload_n dX9_cell_39 rfl rfl ?_
  refine x_getr dX9_cell_40 fX9_34 rfl rfl (by decide) ?_
  refine x_callVv dX9_cell_43 mvX9_layHalves kX9_152 (c_layHalves E d M 49 n q w f1 hp) rfl (by decide) (by omega) rfl rfl (Nat.le_of_ble_eq_true rfl) ?_
  rintro N ⟨hN, hl⟩
  refine x_aload_n dX9_cell_46 rfl rfl ?_
  refine x_getr dX9_cell_47 fX9_34 rfl rfl (by decide) ?_
  refine x_iconst (v := nI 5) dX9_cell_50 (by decide) ?_
  refine x_iconst (v := nI 5) dX9_cell_51 (by decide) ?_
  refine x_iload_n dX9_cell_52 rfl rfl ?_
  refine x_imulN dX9_cell_53 ?_
  refine x_iaddN dX9_cell_54 ?_
  refine x_iload_n dX9_cell_55 rfl rfl ?_
  refine x_iaddN dX9_cell_56 ?_
  refine x_ialdN dX9_cell_57 rfl (by decide) (by omega) (by decide) (hN.v (by decide) hcell.1) ?_
  refine xis5_4 dX9_cell_58 rfl ?_
  refine x_iload_n dX9_cell_60 rfl rfl ?_
  have hS : Sc M N := hN.Sc (by decide) (by decide)
  have e0 : aCell n kd q w (nI r) (nI c) x = if inR x 4 then cellR n kd q w r c (tn x) else -2 := by
    unfold aCell; rw [if_pos (inR_nI hr (by omega)), if_pos (inR_nI hc5 (by decide)), tn_nI (by omega), tn_nI (by omega)]
  rw [e0] at hR
  rcases ixc x 4 (by decide) with ⟨j, hj, rfl, hxt⟩ | hx
  · rw [if_pos (inR_nI hj (by decide)), tn_nI (by omega)] at hR
    match j, hj with
    | 0, _ =>
      refine x_tableIn (off := 31) (tgt := 92) dX9_cell_61 (by decide) (by decide) (by decide) (by decide) ?_
      refine x_iload dX9_cell_92 rfl ?_
      refine x_iconst (v := nI 4) dX9_cell_94 (by decide) ?_
      refine x_idivN dX9_cell_95 (by omega) (by omega) (by omega) ?_
      exact hR _ _ _ _ dX9_cell_96 (⟨rfl, hS⟩)
    | 1, _ =>
      refine x_tableIn (off := 36) (tgt := 97) dX9_cell_61 (by decide) (by decide) (by decide) (by decide) ?_
      refine x_iload dX9_cell_97 rfl ?_
      refine x_iconst (v := nI 4) dX9_cell_99 (by decide) ?_
      refine x_iremN dX9_cell_100 (by omega) (by omega) (by omega) ?_
      exact hR _ _ _ _ dX9_cell_101 (⟨rfl, hS⟩)
    | 2, _ =>
      refine x_tableIn (off := 41) (tgt := 102) dX9_cell_61 (by decide) (by decide) (by decide) (by decide) ?_
      refine x_iload_n dX9_cell_102 rfl rfl ?_
      refine x_aload_n dX9_cell_103 rfl rfl ?_
      refine x_getr dX9_cell_104 fX9_34 rfl rfl (by decide) ?_
      refine x_iload_n dX9_cell_107 rfl rfl ?_
      refine x_ialdN dX9_cell_108 rfl (by decide) (by omega) (by decide) (hN.v (by decide) hwr.1) ?_
      refine x_icmp_geN (tgt := 116) dX9_cell_109 (by decide) (by omega) (by omega) (fun hc => ?_) (fun hc => ?_)
      · refine x_iconst (v := nI 1) dX9_cell_116 (by decide) ?_
        exact hR _ _ _ _ dX9_cell_117 (⟨by show nI 1 = nI (hf w r c); unfold hf; rw [if_neg (by omega)], hS⟩)
      · refine x_iconst (v := nI 0) dX9_cell_112 (by decide) ?_
        refine x_goto (tgt := 117) dX9_cell_113 (by decide) ?_
        exact hR _ _ _ _ dX9_cell_117 (⟨by show nI 0 = nI (hf w r c); unfold hf; rw [if_pos (by omega)], hS⟩)
    | 3, _ =>
      refine x_tableIn (off := 57) (tgt := 118) dX9_cell_61 (by decide) (by decide) (by decide) (by decide) ?_
      refine x_aload_n dX9_cell_118 rfl rfl ?_
      refine x_aload_n dX9_cell_119 rfl rfl ?_
      refine x_getr dX9_cell_120 fX9_34 rfl rfl (by decide) ?_
      refine x_iload_n dX9_cell_123 rfl rfl ?_
      refine x_iload_n dX9_cell_124 rfl rfl ?_
      refine x_callVi dX9_cell_125 mvX9_countsFor kX9_134 (c_countsFor E d N 49 n r c K D q w kd pt nd (hF.fr hN (by decide) (by decide) (by decide) (by decide)) (hp.fr hN (by decide)) hl hr hc5 hqK) rfl (by decide) (by omega) rfl rfl (Nat.le_of_ble_eq_true rfl) ?_
      rintro _ _ ⟨rfl, rfl⟩
      exact hR _ _ _ _ dX9_cell_128 (⟨rfl, hS⟩)
    | k + 4, h => exact absurd h (by omega)
  · refine x_tableOut (tgt := 129) dX9_cell_61 (by omega) (by decide) ?_
    refine x_bipush (v := -2) dX9_cell_129 (by decide) ?_
    exact hR _ _ _ _ dX9_cell_131 (⟨by rw [if_neg hx], hS⟩)
set_option maxHeartbeats 8000000 in
theorem cM_kin (E : Ev) (d : Nat) (M : PM) (n K D : Nat) (q w kd pt nd : Nat → Nat) (k x : Int32) (hT : M.1 40 0 = nI 0) (hF : Fm M n K D kd pt nd) (hp : Pg M 49 n q w) (hqK : ∀ r c, r < n → c < 5 → q (5 * r + c) < 4 * K) : Ci E (d + 3) mX9_kin [.ref (ad E 40), .int k, .int x] M (fun v N => v = aKin n K kd q w k x ∧ Sc M N) := by
  obtain ⟨f1, f2, f3, f4, f5, f6, f7, f8, f9⟩ := id hF
  refine Ct.ofi [some (.ref (ad E 40)), some (.int k), some (.int x)] (own := RX9) rfl (by decide) (Nat.le_of_ble_eq_true rfl) rfl (fun C hR => ?_)
  refine x_aload_n dX9_kin_0 rfl rfl ?_
  refine x_iconst (v := nI 0) dX9_kin_1 (by decide) ?_
  refine x_put dX9_kin_2 pX9_68 rfl rfl (by decide) rfl rfl ?_
  rw [thr hT]
  refine x_iload_n dX9_kin_5 rfl rfl ?_
  refine x_i2l dX9_kin_6 ?_
  refine x_lconst (v := 0) dX9_kin_7 rfl ?_
  refine x_aload_n dX9_kin_8 rfl rfl ?_
  refine x_getv (f2) dX9_kin_9 fX9_117 rfl rfl (by decide) ?_
  refine x_iconst (v := nI 1) dX9_kin_12 (by decide) ?_
  refine x_isub dX9_kin_13 ?_
  refine x_i2l dX9_kin_14 ?_
  refine x_callSi dX9_kin_15 msX9_in kX9_74 (c_in3 E d M k _ _ 0 ((K : Int) - 1) rfl (tl1 (by omega))) (by omega) rfl rfl (Nat.le_of_ble_eq_true rfl) ?_
  rintro _ _ ⟨rfl, rfl⟩
  rcases ixc k K (by omega) with ⟨k, hk, rfl, hkt⟩ | hk
  rotate_left
  · refine x_if_neB (tgt := 23) dX9_kin_18 (by decide) (fun hc => ?_) (fun hc => ?_)
    · exact absurd (of_decide_eq_true hc) (by omega)
    · refine x_iconst (v := -1) dX9_kin_21 (by decide) ?_
      exact hR _ _ _ _ dX9_kin_22 (⟨by unfold aKin; rw [if_neg hk], Sc.rf⟩)
  refine x_if_neB (tgt := 23) dX9_kin_18 (by decide) (fun hc => ?_) (fun hc => ?_)
  rotate_left
  · exact absurd (of_decide_eq_false hc) (by omega)
  refine x_aload_n dX9_kin_23 rfl rfl ?_
  refine x_aload_n dX9_kin_24 rfl rfl ?_
  refine x_getr dX9_kin_25 fX9_34 rfl rfl (by decide) ?_
  refine x_callVv dX9_kin_28 mvX9_layHalves kX9_152 (c_layHalves E d M 49 n q w f1 hp) rfl (by decide) (by omega) rfl rfl (Nat.le_of_ble_eq_true rfl) ?_
  rintro N ⟨hN, hl⟩
  refine x_iload_n dX9_kin_31 rfl rfl ?_
  have hS : Sc M N := hN.Sc (by decide) (by decide)
  have e0 : aKin n K kd q w (nI k) x = if inR x 5 then kinR n kd q w k (tn x) else -2 := by
    unfold aKin; rw [if_pos (inR_nI hk (by omega)), tn_nI (by omega)]
  rw [e0] at hR
  have hF2 := hF.fr hN (by decide) (by decide) (by decide) (by decide)
  have hp2 := hp.fr hN (by decide)
  rcases ixc x 5 (by decide) with ⟨j, hj, rfl, hxt⟩ | hx
  · rw [if_pos (inR_nI hj (by decide)), tn_nI (by omega)] at hR
    match j, hj with
    | 0, _ =>
      refine x_tableIn (off := 36) (tgt := 68) dX9_kin_32 (by decide) (by decide) (by decide) (by decide) ?_
      refine x_aload_n dX9_kin_68 rfl rfl ?_
      refine x_getr dX9_kin_69 fX9_13 rfl rfl (by decide) ?_
      refine x_iload_n dX9_kin_72 rfl rfl ?_
      refine x_ialdN dX9_kin_73 rfl (by decide) (by omega) (by decide) (hN.v (by decide) (f7 k (by omega)).1) ?_
      exact hR _ _ _ _ dX9_kin_74 (⟨rfl, hS⟩)
    | 1, _ =>
      refine x_tableIn (off := 43) (tgt := 75) dX9_kin_32 (by decide) (by decide) (by decide) (by decide) ?_
      refine x_aload_n dX9_kin_75 rfl rfl ?_
      refine x_getr dX9_kin_76 fX9_56 rfl rfl (by decide) ?_
      refine x_iload_n dX9_kin_79 rfl rfl ?_
      refine x_ialdN dX9_kin_80 rfl (by decide) (by omega) (by decide) (hl.1 k (by omega)) ?_
      exact hR _ _ _ _ dX9_kin_81 (⟨rfl, hS⟩)
    | 2, _ =>
      refine x_tableIn (off := 50) (tgt := 82) dX9_kin_32 (by decide) (by decide) (by decide) (by decide) ?_
      refine x_aload_n dX9_kin_82 rfl rfl ?_
      refine x_getr dX9_kin_83 fX9_59 rfl rfl (by decide) ?_
      refine x_iload_n dX9_kin_86 rfl rfl ?_
      refine x_ialdN dX9_kin_87 rfl (by decide) (by omega) (by decide) (hl.2 k (by omega)) ?_
      exact hR _ _ _ _ dX9_kin_88 (⟨rfl, hS⟩)
    | 3, _ =>
      refine x_tableIn (off := 57) (tgt := 89) dX9_kin_32 (by decide) (by decide) (by decide) (by decide) ?_
      refine x_aload_n dX9_kin_89 rfl rfl ?_
      refine x_iload_n dX9_kin_90 rfl rfl ?_
      refine x_iconst (v := nI 0) dX9_kin_91 (by decide) ?_
      refine x_callVi dX9_kin_92 mvX9_countsOf kX9_174 (c_countsOf E d N n K D k 0 q w kd pt nd hF2 hp2 hl (by omega) (by decide) hqK) rfl (by decide) (by omega) rfl rfl (Nat.le_of_ble_eq_true rfl) ?_
      rintro _ _ ⟨rfl, rfl⟩
      exact hR _ _ _ _ dX9_kin_95 (⟨rfl, hS⟩)
    | 4, _ =>
      refine x_tableIn (off := 64) (tgt := 96) dX9_kin_32 (by decide) (by decide) (by decide) (by decide) ?_
      refine x_aload_n dX9_kin_96 rfl rfl ?_
      refine x_iload_n dX9_kin_97 rfl rfl ?_
      refine x_iconst (v := nI 1) dX9_kin_98 (by decide) ?_
      refine x_callVi dX9_kin_99 mvX9_countsOf kX9_174 (c_countsOf E d N n K D k 1 q w kd pt nd hF2 hp2 hl (by omega) (by decide) hqK) rfl (by decide) (by omega) rfl rfl (Nat.le_of_ble_eq_true rfl) ?_
      rintro _ _ ⟨rfl, rfl⟩
      exact hR _ _ _ _ dX9_kin_102 (⟨rfl, hS⟩)
    | k + 5, h => exact absurd h (by omega)
  · refine x_tableOut (tgt := 103) dX9_kin_32 (by omega) (by decide) ?_
    refine x_bipush (v := -2) dX9_kin_103 (by decide) ?_
    exact hR _ _ _ _ dX9_kin_105 (⟨by rw [if_neg hx], hS⟩)
set_option maxHeartbeats 8000000 in
theorem cM_has (E : Ev) (d : Nat) (M : PM) (n K D : Nat) (q w kd pt nd : Nat → Nat) (h p : Int32) (hT : M.1 40 0 = nI 0) (hF : Fm M n K D kd pt nd) (hp : Pg M 49 n q w) (hqK : ∀ r c, r < n → c < 5 → q (5 * r + c) < 4 * K) : Ci E (d + 2) mX9_has [.ref (ad E 40), .int h, .int p] M (fun v N => v = aHas n kd q w h p ∧ Sc M N) := by
  obtain ⟨f1, f2, f3, f4, f5, f6, f7, f8, f9⟩ := id hF
  refine Ct.ofi [some (.ref (ad E 40)), some (.int h), some (.int p)] (own := RX9) rfl (by decide) (Nat.le_of_ble_eq_true rfl) rfl (fun C hR => ?_)
  have bad : ¬ (inR h 2 ∧ inR p 4) → X E (d + 2) RX9 cX9_has 3 C 27 [some (.ref (ad E 40)), some (.int h), some (.int p)] [] M := by
    intro hb
    refine x_bipush (v := -2) dX9_has_27 (by decide) ?_
    exact hR _ _ _ _ dX9_has_29 (⟨by unfold aHas; rw [if_neg hb], Sc.rf⟩)
  refine x_aload_n dX9_has_0 rfl rfl ?_
  refine x_iconst (v := nI 0) dX9_has_1 (by decide) ?_
  refine x_put dX9_has_2 pX9_68 rfl rfl (by decide) rfl rfl ?_
  rw [thr hT]
  refine x_iload_n dX9_has_5 rfl rfl ?_
  refine x_i2l dX9_has_6 ?_
  refine x_lconst (v := 0) dX9_has_7 rfl ?_
  refine x_lconst (v := 1) dX9_has_8 rfl ?_
  refine x_callSi dX9_has_9 msX9_in kX9_74 (c_in3 E d M h _ _ 0 1 rfl rfl) (by omega) rfl rfl (Nat.le_of_ble_eq_true rfl) ?_
  rintro _ _ ⟨rfl, rfl⟩
  refine x_if_eqB (tgt := 27) dX9_has_12 (by decide) (fun hc => ?_) (fun hc => ?_)
  · exact bad (fun e => of_decide_eq_false hc (by omega))
  have h1 := of_decide_eq_true hc
  refine x_iload_n dX9_has_15 rfl rfl ?_
  refine x_i2l dX9_has_16 ?_
  refine x_lconst (v := 0) dX9_has_17 rfl ?_
  refine x_ldc2 dX9_has_18 qX9_177 ?_
  refine x_callSi dX9_has_21 msX9_in kX9_74 (c_in3 E d M p _ _ 0 3 rfl rfl) (by omega) rfl rfl (Nat.le_of_ble_eq_true rfl) ?_
  rintro _ _ ⟨rfl, rfl⟩
  refine x_if_neB (tgt := 30) dX9_has_24 (by decide) (fun hc => ?_) (fun hc => ?_)
  rotate_left
  · refine x_bipush (v := -2) dX9_has_27 (by decide) ?_
    exact hR _ _ _ _ dX9_has_29 ⟨by unfold aHas; rw [if_neg (fun e => of_decide_eq_false hc (by omega))], Sc.rf⟩
  have h2 := of_decide_eq_true hc
  rcases ixc h 2 (by decide) with ⟨h, hh, rfl, _⟩ | hx
  rotate_left
  · exact absurd h1 (by omega)
  rcases ixc p 4 (by decide) with ⟨p, hpp, rfl, _⟩ | hx
  rotate_left
  · exact absurd h2 (by omega)
  refine x_aload_n dX9_has_30 rfl rfl ?_
  refine x_aload_n dX9_has_31 rfl rfl ?_
  refine x_getr dX9_has_32 fX9_34 rfl rfl (by decide) ?_
  refine x_callVv dX9_has_35 mvX9_layHalves kX9_152 (c_layHalves E d M 49 n q w f1 hp) rfl (by decide) (by omega) rfl rfl (Nat.le_of_ble_eq_true rfl) ?_
  rintro N ⟨hN, hl⟩
  refine x_aload_n dX9_has_38 rfl rfl ?_
  refine x_aload_n dX9_has_39 rfl rfl ?_
  refine x_getr dX9_has_40 fX9_34 rfl rfl (by decide) ?_
  refine x_iload_n dX9_has_43 rfl rfl ?_
  refine x_iload_n dX9_has_44 rfl rfl ?_
  refine x_bipush (v := nI 31) dX9_has_45 (by decide) ?_
  refine x_callVi dX9_has_47 mvX9_countOf kX9_138 (c_countOf E d N 49 n K D h p 31 q w kd pt nd (hF.fr hN (by decide) (by decide) (by decide) (by decide)) (hp.fr hN (by decide)) hl (by omega) hpp (by decide) hqK) rfl (by decide) (by omega) rfl rfl (Nat.le_of_ble_eq_true rfl) ?_
  rintro _ _ ⟨rfl, rfl⟩
  exact hR _ _ _ _ dX9_has_50 (⟨by unfold aHas; rw [if_pos ⟨inR_nI hh (by decide), inR_nI hpp (by decide)⟩, tn_nI (by omega), tn_nI (by omega)], hN.Sc (by decide) (by decide)⟩)
set_option maxHeartbeats 8000000 in
theorem cM_can (E : Ev) (d : Nat) (M : PM) (n K D : Nat) (q w kd pt nd : Nat → Nat) (h : Int32) (hT : M.1 40 0 = nI 0) (hF : Fm M n K D kd pt nd) (hp : Pg M 49 n q w) (hqK : ∀ r c, r < n → c < 5 → q (5 * r + c) < 4 * K) : Ci E (d + 3) mX9_can [.ref (ad E 40), .int h] M (fun v N => v = aCan n D kd pt nd q w h ∧ Sc M N) := by
  obtain ⟨f1, f2, f3, f4, f5, f6, f7, f8, f9⟩ := id hF
  refine Ct.ofi [some (.ref (ad E 40)), some (.int h)] (own := RX9) rfl (by decide) (Nat.le_of_ble_eq_true rfl) rfl (fun C hR => ?_)
  refine x_aload_n dX9_can_0 rfl rfl ?_
  refine x_iconst (v := nI 0) dX9_can_1 (by decide) ?_
  refine x_put dX9_can_2 pX9_68 rfl rfl (by decide) rfl rfl ?_
  rw [thr hT]
  refine x_iload_n dX9_can_5 rfl rfl ?_
  refine x_i2l dX9_can_6 ?_
  refine x_lconst (v := 0) dX9_can_7 rfl ?_
  refine x_lconst (v := 1) dX9_can_8 rfl ?_
  refine x_callSi dX9_can_9 msX9_in kX9_74 (c_in3 E d M h _ _ 0 1 rfl rfl) (by omega) rfl rfl (Nat.le_of_ble_eq_true rfl) ?_
  rintro _ _ ⟨rfl, rfl⟩
  refine x_if_neB (tgt := 18) dX9_can_12 (by decide) (fun hc => ?_) (fun hc => ?_)
  rotate_left
  · refine x_bipush (v := -2) dX9_can_15 (by decide) ?_
    exact hR _ _ _ _ dX9_can_17 (⟨by unfold aCan; rw [if_neg (fun e => of_decide_eq_false hc (by omega))], Sc.rf⟩)
  have h1 := of_decide_eq_true hc
  rcases ixc h 2 (by decide) with ⟨h, hh, rfl, _⟩ | hx
  rotate_left
  · exact absurd h1 (by omega)
  refine x_aload_n dX9_can_18 rfl rfl ?_
  refine x_aload_n dX9_can_19 rfl rfl ?_
  refine x_getr dX9_can_20 fX9_34 rfl rfl (by decide) ?_
  refine x_callVv dX9_can_23 mvX9_layHalves kX9_152 (c_layHalves E d M 49 n q w f1 hp) rfl (by decide) (by omega) rfl rfl (Nat.le_of_ble_eq_true rfl) ?_
  rintro N ⟨hN, hl⟩
  refine x_aload_n dX9_can_26 rfl rfl ?_
  refine x_aload_n dX9_can_27 rfl rfl ?_
  refine x_getr dX9_can_28 fX9_34 rfl rfl (by decide) ?_
  refine x_iload_n dX9_can_31 rfl rfl ?_
  refine x_bipush (v := nI 31) dX9_can_32 (by decide) ?_
  refine x_callVi dX9_can_34 mvX9_canOf kX9_179 (c_canOf E d N 49 n K D h 31 q w kd pt nd (hF.fr hN (by decide) (by decide) (by decide) (by decide)) (hp.fr hN (by decide)) hl (by omega) (by decide) hqK) rfl (by decide) (by omega) rfl rfl (Nat.le_of_ble_eq_true rfl) ?_
  rintro _ _ ⟨rfl, rfl⟩
  exact hR _ _ _ _ dX9_can_37 (⟨by unfold aCan; rw [if_pos (inR_nI hh (by decide)), tn_nI (by omega)], hN.Sc (by decide) (by decide)⟩)
