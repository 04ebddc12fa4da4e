-- ===== the component: the fewest parted, the best wire =====
theorem lvc_hit (n : Nat) : hitC n (fun _ => true) (6 ^ n) = lvc n := by
  unfold hitC lvc lvk
  refine fb_sm_cong (fun k _ => ?_)
  rw [Bool.and_true]
theorem nI_ltw {a b : Nat} (ha : a < 100000) (hb : b < 100000) : nI a < nI b ↔ a < b := by
  rw [Int32.lt_iff_toInt_lt, nI_toInt (by omega), nI_toInt (by omega)]
  omega
theorem n9_lt {a : Nat} (ha : a < 100000) : (-9 : Int32) < nI a := by
  rw [Int32.lt_iff_toInt_lt, nI_toInt (by omega), show (-9 : Int32).toInt = -9 by decide]
  omega
theorem pop_D : ∀ D, D < 5 → ∀ s, s < 2 ^ D → pop s ≤ D := by decide
def PF (N : PM) (e : Nat) (s : Int32 × Int32) : Prop := N.1 39 1 = s.2 ∧ N.1 39 2 = s.1 ∧ ∃ c, c ≤ e ∧ N.1 39 0 = nI c ∧ (c = 0 ↔ s.2 = -9)
theorem PF.fr {M N : PM} {e : Nat} {s : Int32 × Int32} {cs : List Nat} (h : PF M e s) (hf : Fr M N cs) (hc : 39 ∉ cs) : PF N e s := by
  unfold PF
  rw [hf.2 39 hc]
  exact h
theorem PF.up {N : PM} {e e' : Nat} {s : Int32 × Int32} (h : PF N e s) (he : e ≤ e') : PF N e' s := by
  obtain ⟨h1, h2, c, h3, h4⟩ := h
  exact ⟨h1, h2, c, by omega, h4⟩
theorem PF.hit {N : PM} {e c p f : Nat} {s : Int32 × Int32} (hc : c ≤ e) (hp : p ≤ 5) (h9 : c = 0 ↔ s.2 = -9) (o0 : N.1 39 0 = nI (c + 1)) (o1 : N.1 39 1 = (if c = 0 ∨ nI p < s.2 then nI p else s.2)) (o2 : N.1 39 2 = (if c = 0 ∨ nI p < s.2 then nI f else s.1)) : PF N (e + 1) (fewT true p f s) := by
  unfold fewT
  by_cases z : c = 0 ∨ nI p < s.2
  · rw [if_pos z] at o1 o2
    rw [if_pos ⟨rfl, by rw [← h9]; exact z⟩]
    exact ⟨o1, o2, c + 1, by omega, o0, fun y => absurd y (by omega), fun y => absurd y (nI_n9 (by omega))⟩
  · rw [if_neg z] at o1 o2
    rw [if_neg (fun y => z (by rw [← h9] at y; exact y.2))]
    exact ⟨o1, o2, c + 1, by omega, o0, fun y => absurd y (by omega), fun y => absurd (Or.inl (h9.mpr y)) z⟩
theorem fewT_f {p f : Nat} {s : Int32 × Int32} : fewT false p f s = s := by
  unfold fewT
  rw [if_neg (fun z => by cases z.1)]
set_option maxHeartbeats 8000000 in
theorem k_fewest (E : Ev) (d : Nat) (M : PM) (n K D x0 x : Nat) (q w kd pt nd : Nat → Nat) (hH : Hc M n K D kd pt nd) (hT : Tb M 13 n q w) (hx0 : x0 < D) (hx : x < 2) (hqK : ∀ r c, r < n → c < 5 → q (5 * r + c) < 4 * K) : Ci E (d + 4) mX8_fewest [.ref (ad E 0), .int (nI x0), .int (nI x)] M (fun v N => v = (if x = 0 then (fewS kd q n K x0 pt nd (6 ^ n)).1 else (fewS kd q n K x0 pt nd (6 ^ n)).2) ∧ Fr M N [32, 33, 37, 38, 39]) := by
  obtain ⟨f1, f2, f3, f4, f5, f6, f7, f8, f9⟩ := id hH
  have h6 := p6 f4
  refine Ct.ofi [some (.ref (ad E 0)), some (.int (nI x0)), some (.int (nI x)), none] (own := RX8) rfl (by decide) (Nat.le_of_ble_eq_true rfl) rfl (fun C hR => ?_)
  have start : X E (d + 4) RX8 cX8_fewest 4 C 22 [some (.ref (ad E 0)), some (.int (nI x0)), some (.int (nI x)), none] [] M := by
    refine x_aload_n dX8_fewest_22 rfl rfl ?_
    refine x_getr dX8_fewest_23 fX8_77 rfl rfl (by decide) ?_
    refine x_callVv dX8_fewest_26 mvX2_begin kX8_200 (k_pbegin E (d + 3) M) rfl (by decide) (by omega) rfl rfl (Nat.le_of_ble_eq_true rfl) ?_
    rintro N1 ⟨hN1, p0, p1, p2⟩
    refine x_aload_n dX8_fewest_29 rfl rfl ?_
    refine x_getr dX8_fewest_30 fX8_70 rfl rfl (by decide) ?_
    refine x_aload_n dX8_fewest_33 rfl rfl ?_
    refine x_getr dX8_fewest_34 fX8_19 rfl rfl (by decide) ?_
    refine x_getv (hN1.v (by decide) f1) dX8_fewest_37 fX8_103 rfl rfl (by decide) ?_
    refine x_callVv dX8_fewest_40 mvX7_begin kX8_201 (k_wbegin E (d + 2) N1 n f4) rfl (by decide) (by omega) rfl rfl (Nat.le_of_ble_eq_true rfl) ?_
    rintro N0 ⟨hN0, hw0, hs0⟩
    refine x_iconst (v := nI 0) dX8_fewest_43 (by decide) ?_
    refine xis4_3 dX8_fewest_44 rfl ?_
    have done : ∀ t N, t ≤ 7776 → Fr M N [32, 33, 37, 38, 39] → N.1 37 2 = nI 0 → PF N (6 ^ n) (fewS kd q n K x0 pt nd (6 ^ n)) → X E (d + 4) RX8 cX8_fewest 4 C 45 [some (.ref (ad E 0)), some (.int (nI x0)), some (.int (nI x)), some (.int (nI t))] [] N := by
      intro t N ht hN hs hP
      have fin : X E (d + 4) RX8 cX8_fewest 4 C 145 [some (.ref (ad E 0)), some (.int (nI x0)), some (.int (nI x)), some (.int (nI t))] [] N := by
        refine x_iload_n dX8_fewest_145 rfl rfl ?_
        refine x_if_neN (tgt := 159) dX8_fewest_146 (by decide) (by omega) (fun hc => ?_) (fun hc => ?_)
        · refine x_aload_n dX8_fewest_159 rfl rfl ?_
          refine x_getr dX8_fewest_160 fX8_77 rfl rfl (by decide) ?_
          refine x_getv (hP.1) dX8_fewest_163 fX8_232 rfl rfl (by decide) ?_
          exact hR _ _ _ _ dX8_fewest_166 (⟨by rw [if_neg hc], hN⟩)
        · refine x_aload_n dX8_fewest_149 rfl rfl ?_
          refine x_getr dX8_fewest_150 fX8_77 rfl rfl (by decide) ?_
          refine x_getv (hP.2.1) dX8_fewest_153 fX8_229 rfl rfl (by decide) ?_
          refine x_goto (tgt := 166) dX8_fewest_156 (by decide) ?_
          exact hR _ _ _ _ dX8_fewest_166 (⟨by rw [if_pos hc], hN⟩)
      refine x_iload_n dX8_fewest_45 rfl rfl ?_
      refine x_sipush (v := nI 7776) dX8_fewest_46 (by decide) ?_
      refine x_icmp_geN (tgt := 145) dX8_fewest_49 (by decide) (by omega) (by omega) (fun hc => ?_) (fun hc => ?_)
      · exact fin
      refine x_aload_n dX8_fewest_52 rfl rfl ?_
      refine x_getr dX8_fewest_53 fX8_70 rfl rfl (by decide) ?_
      refine x_getv (hs) dX8_fewest_56 fX8_204 rfl rfl (by decide) ?_
      refine x_if_eqN (tgt := 145) dX8_fewest_59 (by decide) (by omega) (fun hc => ?_) (fun hc => ?_)
      · exact fin
      · exact absurd rfl hc
    have key : ∀ c, ∀ e t N, 6 ^ n - e ≤ c → e < 6 ^ n → lvk n e = true → t ≤ e → Fr M N [32, 33, 37, 38, 39] → WrC N n (wn n e) → N.1 37 2 = nI 1 → PF N e (fewS kd q n K x0 pt nd e) → X E (d + 4) RX8 cX8_fewest 4 C 45 [some (.ref (ad E 0)), some (.int (nI x0)), some (.int (nI x)), some (.int (nI t))] [] N := by
      intro c
      induction c with
      | zero => intro e t N hbb he; exact absurd hbb (by omega)
      | succ c ih =>
        intro e t N hbb he hl ht hN hw hs hP
        have hTN : Tb N 13 n q w := hT.fr hN (by decide) (by decide)
        have hHN : Hc N n K D kd pt nd := hH.fr hN (by decide) (by decide) (by decide) (by decide)
        have hst : fewS kd q n K x0 pt nd (e + 1) = fewT (bcA kd q (wn n e) n pt nd x0) (pdA q (wn n e) n K) (fig (wn n e) n) (fewS kd q n K x0 pt nd e) := by
          show (if lvk n e = true then _ else _) = _
          rw [if_pos hl]
        refine x_iload_n dX8_fewest_45 rfl rfl ?_
        refine x_sipush (v := nI 7776) dX8_fewest_46 (by decide) ?_
        refine x_icmp_geN (tgt := 145) dX8_fewest_49 (by decide) (by omega) (by omega) (fun hc => ?_) (fun hc => ?_)
        · exact absurd hc (by omega)
        refine x_aload_n dX8_fewest_52 rfl rfl ?_
        refine x_getr dX8_fewest_53 fX8_70 rfl rfl (by decide) ?_
        refine x_getv (hs) dX8_fewest_56 fX8_204 rfl rfl (by decide) ?_
        refine x_if_eqN (tgt := 145) dX8_fewest_59 (by decide) (by omega) (fun hc => ?_) (fun hc => ?_)
        · exact absurd hc (by decide)
        refine x_aload_n dX8_fewest_62 rfl rfl ?_
        refine x_getr dX8_fewest_63 fX8_56 rfl rfl (by decide) ?_
        refine x_aload_n dX8_fewest_66 rfl rfl ?_
        refine x_getr dX8_fewest_67 fX8_31 rfl rfl (by decide) ?_
        refine x_getr dX8_fewest_70 fX8_139 rfl rfl (by decide) ?_
        refine x_aload_n dX8_fewest_73 rfl rfl ?_
        refine x_getr dX8_fewest_74 fX8_70 rfl rfl (by decide) ?_
        refine x_getr dX8_fewest_77 fX8_208 rfl rfl (by decide) ?_
        refine x_callVv dX8_fewest_80 mvX5_take kX8_209 (k_take E d N 14 38 n K D q (wn n e) kd pt nd hHN (Cw_w hTN hw) hqK) rfl (by decide) (by omega) rfl rfl (Nat.le_of_ble_eq_true rfl) ?_
        rintro N2 ⟨hN2, hl2, ht2⟩
        have hP2 := hP.fr hN2 (by decide)
        have hw2 : WrC N2 n (wn n e) := ⟨hN2.v (by decide) hw.1, hw.2.1, fun r hr => ⟨hN2.v (by decide) (hw.2.2 r hr).1, (hw.2.2 r hr).2⟩⟩
        have hs2 : N2.1 37 2 = nI 1 := hN2.v (by decide) hs
        have hF2 : Fr M N2 [32, 33, 37, 38, 39] := hN.tr hN2 (by decide)
        have hH2 : Hc N2 n K D kd pt nd := hH.fr hF2 (by decide) (by decide) (by decide) (by decide)
        have tail : ∀ N3, Fr N2 N3 [39] → PF N3 (e + 1) (fewS kd q n K x0 pt nd (e + 1)) → X E (d + 4) RX8 cX8_fewest 4 C 132 [some (.ref (ad E 0)), some (.int (nI x0)), some (.int (nI x)), some (.int (nI t))] [] N3 := by
          intro N3 hN3 hP3
          have hw3 : WrC N3 n (wn n e) := ⟨hN3.v (by decide) hw2.1, hw.2.1, fun r hr => ⟨hN3.v (by decide) (hw2.2.2 r hr).1, (hw.2.2 r hr).2⟩⟩
          have hs3 : N3.1 37 2 = nI 1 := hN3.v (by decide) hs2
          have hF3 : Fr M N3 [32, 33, 37, 38, 39] := hF2.tr hN3 (by decide)
          refine x_aload_n dX8_fewest_132 rfl rfl ?_
          refine x_getr dX8_fewest_133 fX8_70 rfl rfl (by decide) ?_
          refine x_callVv dX8_fewest_136 mvX7_advance kX8_226 (k_advance E (d + 1) N3 n (wn n e) hw3) rfl (by decide) (by omega) rfl rfl (Nat.le_of_ble_eq_true rfl) ?_
          rintro N4 ⟨hN4, ha4⟩
          refine xinc4_3N dX8_fewest_139 rfl ?_
          refine x_goto (tgt := 45) dX8_fewest_142 (by decide) ?_
          have hP4 := hP3.fr hN4 (by decide)
          rcases adv_use he hl hw3 hs3 ha4 with ⟨g1, m, g2, g3⟩ | ⟨m, g1, g2, g3, g4, g5⟩
          · refine done (t + 1) N4 (by omega) (hF3.tr hN4 (by decide)) g1 ?_
            rw [← g2, fewS_gap g3]
            exact hP4.up (by omega)
          · refine ih _ (t + 1) N4 (by omega) g1 g2 (by omega) (hF3.tr hN4 (by decide)) g5 g4 ?_
            rw [fewS_gap g3]
            exact hP4.up (by omega)
        refine x_aload_n dX8_fewest_83 rfl rfl ?_
        refine x_getr dX8_fewest_84 fX8_56 rfl rfl (by decide) ?_
        refine x_iload_n dX8_fewest_87 rfl rfl ?_
        refine x_iconst (v := nI 0) dX8_fewest_88 (by decide) ?_
        refine x_bipush (v := nI 31) dX8_fewest_89 (by decide) ?_
        refine x_callVi dX8_fewest_91 mvX5_isDone kX8_238 (k_isDone E (d + 2) N2 n K D x0 0 31 q (wn n e) kd pt nd hH2 ht2 hx0 (by decide) (by decide) hqK) rfl (by decide) (by omega) rfl rfl (Nat.le_of_ble_eq_true rfl) ?_
        rintro _ _ ⟨rfl, rfl⟩
        refine x_if_eqB (tgt := 132) dX8_fewest_94 (by decide) (fun hc => ?_) (fun hc => ?_)
        · refine tail N2 Fr.rf ?_
          rw [hst, show bcA kd q (wn n e) n pt nd x0 = false from decide_eq_false (fun z => of_decide_eq_false hc z.1), fewT_f]
          exact hP2.up (by omega)
        have g1 := hc
        refine x_aload_n dX8_fewest_97 rfl rfl ?_
        refine x_getr dX8_fewest_98 fX8_56 rfl rfl (by decide) ?_
        refine x_iload_n dX8_fewest_101 rfl rfl ?_
        refine x_iconst (v := nI 1) dX8_fewest_102 (by decide) ?_
        refine x_bipush (v := nI 31) dX8_fewest_103 (by decide) ?_
        refine x_callVi dX8_fewest_105 mvX5_isDone kX8_238 (k_isDone E (d + 2) N2 n K D x0 1 31 q (wn n e) kd pt nd hH2 ht2 hx0 (by decide) (by decide) hqK) rfl (by decide) (by omega) rfl rfl (Nat.le_of_ble_eq_true rfl) ?_
        rintro _ _ ⟨rfl, rfl⟩
        refine x_if_eqB (tgt := 132) dX8_fewest_108 (by decide) (fun hc => ?_) (fun hc => ?_)
        · refine tail N2 Fr.rf ?_
          rw [hst, show bcA kd q (wn n e) n pt nd x0 = false from decide_eq_false (fun z => of_decide_eq_false hc z.2), fewT_f]
          exact hP2.up (by omega)
        have hb : bcA kd q (wn n e) n pt nd x0 = true := decide_eq_true ⟨of_decide_eq_true g1, of_decide_eq_true hc⟩
        obtain ⟨q1, q2, cc, q3, q4, q5⟩ := hP2
        have hpd : pdA q (wn n e) n K ≤ 5 := pop_le _
        refine x_aload_n dX8_fewest_111 rfl rfl ?_
        refine x_getr dX8_fewest_112 fX8_77 rfl rfl (by decide) ?_
        refine x_aload_n dX8_fewest_115 rfl rfl ?_
        refine x_getr dX8_fewest_116 fX8_56 rfl rfl (by decide) ?_
        refine x_callVi dX8_fewest_119 mvX5_partedCount kX8_216 (k_partedCount E d N2 n K q (wn n e) hH2.2.1 f5 f4 hl2) rfl (by decide) (by omega) rfl rfl (Nat.le_of_ble_eq_true rfl) ?_
        rintro _ _ ⟨rfl, rfl⟩
        refine x_aload_n dX8_fewest_122 rfl rfl ?_
        refine x_getr dX8_fewest_123 fX8_70 rfl rfl (by decide) ?_
        refine x_callVi dX8_fewest_126 mvX7_figures kX8_219 (k_figures E (d + 2) N2 n (wn n e) hw2) rfl (by decide) (by omega) rfl rfl (Nat.le_of_ble_eq_true rfl) ?_
        rintro _ _ ⟨rfl, rfl⟩
        refine x_callVv dX8_fewest_129 mvX2_offer kX8_222 (k_offer E (d + 3) N2 cc _ _ _ _ q4 (by omega) q1 q2) rfl (by decide) (by omega) rfl rfl (Nat.le_of_ble_eq_true rfl) ?_
        rintro N3 ⟨hN3, o0, o1, o2⟩
        refine tail N3 hN3 ?_
        rw [hst, hb]
        exact PF.hit q3 hpd q5 o0 o1 o2
    exact key (6 ^ n) 0 0 N0 (Nat.sub_le _ _) (Nat.pow_pos (by decide)) (lvk_0 n) (Nat.le_refl _) ((hN1.wd (by decide) : Fr M N1 [32, 33, 37, 38, 39]).tr hN0 (by decide)) (hw0.cg (fun i _ => (wn_0 n i).symm)) hs0 ((show PF N1 0 (-9, -9) from ⟨p1, p2, 0, Nat.le_refl _, p0, fun _ => rfl, fun _ => rfl⟩).fr hN0 (by decide))
  refine x_aload_n dX8_fewest_0 rfl rfl ?_
  refine x_iload_n dX8_fewest_1 rfl rfl ?_
  refine x_callVi dX8_fewest_2 mvX8_isDeed kX8_235 (k_is_6 E (d + 3) M (nI x0) D f3 (by omega)) rfl (by decide) (by omega) rfl rfl (Nat.le_of_ble_eq_true rfl) ?_
  rintro _ _ ⟨rfl, rfl⟩
  refine x_if_neB (tgt := 10) dX8_fewest_5 (by decide) (fun hc => ?_) (fun hc => ?_)
  rotate_left
  · exact absurd (inR_nI hx0 (by omega)) (of_decide_eq_false hc)
  refine x_iload_n dX8_fewest_10 rfl rfl ?_
  refine x_if_eqN (tgt := 22) dX8_fewest_11 (by decide) (by omega) (fun hc => ?_) (fun hc => ?_)
  · exact start
  refine x_iload_n dX8_fewest_14 rfl rfl ?_
  refine x_iconst (v := nI 1) dX8_fewest_15 (by decide) ?_
  refine x_icmp_eqN (tgt := 22) dX8_fewest_16 (by decide) (by omega) (by omega) (fun hc => ?_) (fun hc => ?_)
  · exact start
  · exact absurd (by omega) hc
-- the best wire
def PB (N : PM) (D e : Nat) (s : Int32 × Int32 × Int32) : Prop := (N.1 39 0 = nI 0 ∧ s = (-9, -9, nI 0)) ∨ ∃ c f y p, 0 < c ∧ c ≤ e ∧ N.1 39 0 = nI c ∧ s = (nI f, nI y, nI p) ∧ y ≤ 2 * D ∧ p ≤ 5 ∧ N.1 39 1 = nI ((2 * D - y) * 6 + p) ∧ N.1 39 2 = nI f
theorem PB.fr {M N : PM} {D e : Nat} {s : Int32 × Int32 × Int32} {cs : List Nat} (h : PB M D e s) (hf : Fr M N cs) (hc : 39 ∉ cs) : PB N D e s := by
  unfold PB
  rw [hf.2 39 hc]
  exact h
theorem PB.up {N : PM} {D e e' : Nat} {s : Int32 × Int32 × Int32} (h : PB N D e s) (he : e ≤ e') : PB N D e' s := by
  rcases h with h | ⟨c, f, y, p, h1, h2, h3⟩
  · exact Or.inl h
  · exact Or.inr ⟨c, f, y, p, h1, by omega, h3⟩
theorem PB.hit {M N : PM} {D e c y p f : Nat} {s : Int32 × Int32 × Int32} (h : PB M D e s) (hD : D ≤ 4) (he : e < 10000) (h0 : M.1 39 0 = nI c) (hce : c ≤ e) (hy : y ≤ 2 * D) (hp : p ≤ 5) (o0 : N.1 39 0 = nI (c + 1)) (o1 : N.1 39 1 = (if c = 0 ∨ nI ((2 * D - y) * 6 + p) < M.1 39 1 then nI ((2 * D - y) * 6 + p) else M.1 39 1)) (o2 : N.1 39 2 = (if c = 0 ∨ nI ((2 * D - y) * 6 + p) < M.1 39 1 then nI f else M.1 39 2)) : PB N D (e + 1) (bestT p y f s) := by
  refine Or.inr ?_
  unfold bestT
  rcases h with ⟨h1, rfl⟩ | ⟨c', f0, y0, p0, h1, h2, h3, rfl, h4, h5, h6, h7⟩
  · have ec : c = 0 := (nI_eq (by omega) (by omega)).mp (h0.symm.trans h1)
    rw [if_pos (Or.inl ec)] at o1 o2
    rw [if_pos (Or.inl (n9_lt (by omega)))]
    exact ⟨c + 1, f, y, p, by omega, by omega, o0, rfl, hy, hp, o1, o2⟩
  · have ec : c = c' := (nI_eq (by omega) (by omega)).mp (h0.symm.trans h3)
    have iff : (c = 0 ∨ nI ((2 * D - y) * 6 + p) < M.1 39 1) ↔ (nI y0 < nI y ∨ (nI y = nI y0 ∧ nI p < nI p0)) := by
      rw [h6, nI_ltw (by omega) (by omega), nI_ltw (by omega) (by omega), nI_ltw (by omega) (by omega), nI_eq (by omega) (by omega)]
      omega
    by_cases z : c = 0 ∨ nI ((2 * D - y) * 6 + p) < M.1 39 1
    · rw [if_pos z] at o1 o2
      rw [if_pos (iff.mp z)]
      exact ⟨c + 1, f, y, p, by omega, by omega, o0, rfl, hy, hp, o1, o2⟩
    · rw [if_neg z] at o1 o2
      rw [if_neg (fun y => z (iff.mpr y))]
      exact ⟨c + 1, f0, y0, p0, by omega, by omega, o0, rfl, h4, h5, o1.trans h6, o2.trans h7⟩
theorem PB.ct {N : PM} {D e : Nat} {s : Int32 × Int32 × Int32} (h : PB N D e s) : ∃ c, c ≤ e ∧ N.1 39 0 = nI c := by
  rcases h with h | ⟨c, f, y, p, h1, h2, h3, _⟩
  · exact ⟨0, Nat.zero_le _, h.1⟩
  · exact ⟨c, h2, h3⟩
set_option maxHeartbeats 8000000 in
theorem k_best (E : Ev) (d : Nat) (M : PM) (n K D x : Nat) (q w kd pt nd : Nat → Nat) (hH : Hc M n K D kd pt nd) (hT : Tb M 13 n q w) (hx : x < 2) (hqK : ∀ r c, r < n → c < 5 → q (5 * r + c) < 4 * K) : Ci E (d + 4) mX8_best [.ref (ad E 0), .int (nI x)] M (fun v N => v = (if x = 0 then (bestS kd q n K D pt nd (6 ^ n)).1 else (bestS kd q n K D pt nd (6 ^ n)).2.1) ∧ Fr M N [32, 33, 37, 38, 39]) := by
  obtain ⟨f1, f2, f3, f4, f5, f6, f7, f8, f9⟩ := id hH
  have h6 := p6 f4
  refine Ct.ofi [some (.ref (ad E 0)), some (.int (nI x)), none, none, none] (own := RX8) rfl (by decide) (Nat.le_of_ble_eq_true rfl) rfl (fun C hR => ?_)
  have start : X E (d + 4) RX8 cX8_best 5 C 12 [some (.ref (ad E 0)), some (.int (nI x)), none, none, none] [] M := by
    refine x_iconst (v := nI 2) dX8_best_12 (by decide) ?_
    refine x_aload_n dX8_best_13 rfl rfl ?_
    refine x_getr dX8_best_14 fX8_19 rfl rfl (by decide) ?_
    refine x_getv (f3) dX8_best_17 fX8_109 rfl rfl (by decide) ?_
    refine x_imulN dX8_best_20 ?_
    refine xis5_2 dX8_best_21 rfl ?_
    refine x_aload_n dX8_best_22 rfl rfl ?_
    refine x_getr dX8_best_23 fX8_77 rfl rfl (by decide) ?_
    refine x_callVv dX8_best_26 mvX2_begin kX8_200 (k_pbegin E (d + 3) M) rfl (by decide) (by omega) rfl rfl (Nat.le_of_ble_eq_true rfl) ?_
    rintro N1 ⟨hN1, p0, p1, p2⟩
    refine x_aload_n dX8_best_29 rfl rfl ?_
    refine x_getr dX8_best_30 fX8_70 rfl rfl (by decide) ?_
    refine x_aload_n dX8_best_33 rfl rfl ?_
    refine x_getr dX8_best_34 fX8_19 rfl rfl (by decide) ?_
    refine x_getv (hN1.v (by decide) f1) dX8_best_37 fX8_103 rfl rfl (by decide) ?_
    refine x_callVv dX8_best_40 mvX7_begin kX8_201 (k_wbegin E (d + 2) N1 n f4) rfl (by decide) (by omega) rfl rfl (Nat.le_of_ble_eq_true rfl) ?_
    rintro N0 ⟨hN0, hw0, hs0⟩
    refine x_iconst (v := nI 0) dX8_best_43 (by decide) ?_
    refine xis5_3 dX8_best_44 rfl ?_
    have done : ∀ t N l4, t ≤ 7776 → Fr M N [32, 33, 37, 38, 39] → N.1 37 2 = nI 0 → PB N D (6 ^ n) (bestS kd q n K D pt nd (6 ^ n)) → (bestS kd q n K D pt nd (6 ^ n)).2.1 ≠ -9 → X E (d + 4) RX8 cX8_best 5 C 45 [some (.ref (ad E 0)), some (.int (nI x)), some (.int (nI (2 * D))), some (.int (nI t)), l4] [] N := by
      intro t N l4 ht hN hs hP hne
      rcases hP with ⟨_, hP⟩ | ⟨c, f, y, p, h1, h2, h3, hS, h4, h5, hc1, hc2⟩
      · rw [hP] at hne; exact absurd rfl hne
      have fin : X E (d + 4) RX8 cX8_best 5 C 144 [some (.ref (ad E 0)), some (.int (nI x)), some (.int (nI (2 * D))), some (.int (nI t)), l4] [] N := by
        rw [hS] at hR
        refine x_iload_n dX8_best_144 rfl rfl ?_
        refine x_if_neN (tgt := 158) dX8_best_145 (by decide) (by omega) (fun hc => ?_) (fun hc => ?_)
        · refine x_iload_n dX8_best_158 rfl rfl ?_
          refine x_aload_n dX8_best_159 rfl rfl ?_
          refine x_getr dX8_best_160 fX8_77 rfl rfl (by decide) ?_
          refine x_getv (hc1) dX8_best_163 fX8_232 rfl rfl (by decide) ?_
          refine x_bipush (v := nI 6) dX8_best_166 (by decide) ?_
          refine x_idivN dX8_best_168 (by omega) (by omega) (by omega) ?_
          refine x_isubN dX8_best_169 (by omega) ?_
          refine hR _ _ _ _ dX8_best_170 ⟨?_, hN⟩
          rw [if_neg hc]
          congr 1
          omega
        · refine x_aload_n dX8_best_148 rfl rfl ?_
          refine x_getr dX8_best_149 fX8_77 rfl rfl (by decide) ?_
          refine x_getv (hc2) dX8_best_152 fX8_229 rfl rfl (by decide) ?_
          refine x_goto (tgt := 170) dX8_best_155 (by decide) ?_
          exact hR _ _ _ _ dX8_best_170 (⟨by rw [if_pos hc], hN⟩)
      refine x_iload_n dX8_best_45 rfl rfl ?_
      refine x_sipush (v := nI 7776) dX8_best_46 (by decide) ?_
      refine x_icmp_geN (tgt := 144) dX8_best_49 (by decide) (by omega) (by omega) (fun hc => ?_) (fun hc => ?_)
      · exact fin
      refine x_aload_n dX8_best_52 rfl rfl ?_
      refine x_getr dX8_best_53 fX8_70 rfl rfl (by decide) ?_
      refine x_getv (hs) dX8_best_56 fX8_204 rfl rfl (by decide) ?_
      refine x_if_eqN (tgt := 144) dX8_best_59 (by decide) (by omega) (fun hc => ?_) (fun hc => ?_)
      · exact fin
      · exact absurd rfl hc
    have key : ∀ c, ∀ e t N l4, 6 ^ n - e ≤ c → e < 6 ^ n → lvk n e = true → t ≤ e → Fr M N [32, 33, 37, 38, 39] → WrC N n (wn n e) → N.1 37 2 = nI 1 → PB N D e (bestS kd q n K D pt nd e) → X E (d + 4) RX8 cX8_best 5 C 45 [some (.ref (ad E 0)), some (.int (nI x)), some (.int (nI (2 * D))), some (.int (nI t)), l4] [] N := by
      intro c
      induction c with
      | zero => intro e t N l4 hbb he; exact absurd hbb (by omega)
      | succ c ih =>
        intro e t N l4 hbb he hl ht hN hw hs hP
        have hTN : Tb N 13 n q w := hT.fr hN (by decide) (by decide)
        have hHN : Hc N n K D kd pt nd := hH.fr hN (by decide) (by decide) (by decide) (by decide)
        have hst : bestS kd q n K D pt nd (e + 1) = bestT (pdA q (wn n e) n K) (byA kd q (wn n e) n D pt nd) (fig (wn n e) n) (bestS kd q n K D pt nd e) := by
          show (if lvk n e = true then _ else _) = _
          rw [if_pos hl]
        have d0 := pop_D D (by omega) _ (canB_lt kd q (wn n e) n D pt nd 0 31)
        have d1 := pop_D D (by omega) _ (canB_lt kd q (wn n e) n D pt nd 1 31)
        have hpd : pdA q (wn n e) n K ≤ 5 := pop_le _
        refine x_iload_n dX8_best_45 rfl rfl ?_
        refine x_sipush (v := nI 7776) dX8_best_46 (by decide) ?_
        refine x_icmp_geN (tgt := 144) dX8_best_49 (by decide) (by omega) (by omega) (fun hc => ?_) (fun hc => ?_)
        · exact absurd hc (by omega)
        refine x_aload_n dX8_best_52 rfl rfl ?_
        refine x_getr dX8_best_53 fX8_70 rfl rfl (by decide) ?_
        refine x_getv (hs) dX8_best_56 fX8_204 rfl rfl (by decide) ?_
        refine x_if_eqN (tgt := 144) dX8_best_59 (by decide) (by omega) (fun hc => ?_) (fun hc => ?_)
        · exact absurd hc (by decide)
        refine x_aload_n dX8_best_62 rfl rfl ?_
        refine x_getr dX8_best_63 fX8_56 rfl rfl (by decide) ?_
        refine x_aload_n dX8_best_66 rfl rfl ?_
        refine x_getr dX8_best_67 fX8_31 rfl rfl (by decide) ?_
        refine x_getr dX8_best_70 fX8_139 rfl rfl (by decide) ?_
        refine x_aload_n dX8_best_73 rfl rfl ?_
        refine x_getr dX8_best_74 fX8_70 rfl rfl (by decide) ?_
        refine x_getr dX8_best_77 fX8_208 rfl rfl (by decide) ?_
        refine x_callVv dX8_best_80 mvX5_take kX8_209 (k_take E d N 14 38 n K D q (wn n e) kd pt nd hHN (Cw_w hTN hw) hqK) rfl (by decide) (by omega) rfl rfl (Nat.le_of_ble_eq_true rfl) ?_
        rintro N2 ⟨hN2, hl2, ht2⟩
        have hP2 := hP.fr hN2 (by decide)
        have hw2 : WrC N2 n (wn n e) := ⟨hN2.v (by decide) hw.1, hw.2.1, fun r hr => ⟨hN2.v (by decide) (hw.2.2 r hr).1, (hw.2.2 r hr).2⟩⟩
        have hs2 : N2.1 37 2 = nI 1 := hN2.v (by decide) hs
        have hF2 : Fr M N2 [32, 33, 37, 38, 39] := hN.tr hN2 (by decide)
        have hH2 : Hc N2 n K D kd pt nd := hH.fr hF2 (by decide) (by decide) (by decide) (by decide)
        obtain ⟨cc, q3, q4⟩ := hP2.ct
        refine x_iload_n dX8_best_83 rfl rfl ?_
        refine x_aload_n dX8_best_84 rfl rfl ?_
        refine x_getr dX8_best_85 fX8_56 rfl rfl (by decide) ?_
        refine x_iconst (v := nI 0) dX8_best_88 (by decide) ?_
        refine x_callVi dX8_best_89 mvX5_deedCount kX8_213 (k_deedCount E d N2 n K D 0 q (wn n e) kd pt nd hH2 ht2 (by decide) hqK) rfl (by decide) (by omega) rfl rfl (Nat.le_of_ble_eq_true rfl) ?_
        rintro _ _ ⟨rfl, rfl⟩
        refine x_isubN dX8_best_92 (by omega) ?_
        refine x_aload_n dX8_best_93 rfl rfl ?_
        refine x_getr dX8_best_94 fX8_56 rfl rfl (by decide) ?_
        refine x_iconst (v := nI 1) dX8_best_97 (by decide) ?_
        refine x_callVi dX8_best_98 mvX5_deedCount kX8_213 (k_deedCount E d N2 n K D 1 q (wn n e) kd pt nd hH2 ht2 (by decide) hqK) rfl (by decide) (by omega) rfl rfl (Nat.le_of_ble_eq_true rfl) ?_
        rintro _ _ ⟨rfl, rfl⟩
        refine x_isubN dX8_best_101 (by omega) ?_
        refine xis5_4 dX8_best_102 rfl ?_
        refine x_aload_n dX8_best_104 rfl rfl ?_
        refine x_getr dX8_best_105 fX8_77 rfl rfl (by decide) ?_
        refine x_iload dX8_best_108 rfl ?_
        refine x_bipush (v := nI 6) dX8_best_110 (by decide) ?_
        refine x_imulN dX8_best_112 ?_
        refine x_aload_n dX8_best_113 rfl rfl ?_
        refine x_getr dX8_best_114 fX8_56 rfl rfl (by decide) ?_
        refine x_callVi dX8_best_117 mvX5_partedCount kX8_216 (k_partedCount E d N2 n K q (wn n e) hH2.2.1 f5 f4 hl2) rfl (by decide) (by omega) rfl rfl (Nat.le_of_ble_eq_true rfl) ?_
        rintro _ _ ⟨rfl, rfl⟩
        refine x_iaddN dX8_best_120 ?_
        refine x_aload_n dX8_best_121 rfl rfl ?_
        refine x_getr dX8_best_122 fX8_70 rfl rfl (by decide) ?_
        refine x_callVi dX8_best_125 mvX7_figures kX8_219 (k_figures E (d + 2) N2 n (wn n e) hw2) rfl (by decide) (by omega) rfl rfl (Nat.le_of_ble_eq_true rfl) ?_
        rintro _ _ ⟨rfl, rfl⟩
        refine x_callVv dX8_best_128 mvX2_offer kX8_222 (k_offer E (d + 3) N2 cc _ _ _ _ q4 (by omega) rfl rfl) rfl (by decide) (by omega) rfl rfl (Nat.le_of_ble_eq_true rfl) ?_
        rintro N3 ⟨hN3, o0, o1, o2⟩
        rw [Nat.sub_sub] at o1 o2
        have hP3 : PB N3 D (e + 1) (bestS kd q n K D pt nd (e + 1)) := by
          rw [hst]
          exact hP2.hit f6 (by omega) q4 q3 (show pop (canB kd q (wn n e) n D pt nd 0 31) + pop (canB kd q (wn n e) n D pt nd 1 31) ≤ 2 * D by omega) hpd o0 o1 o2
        have hne3 : (bestS kd q n K D pt nd (e + 1)).2.1 ≠ -9 := by
          rcases hP3 with ⟨z, _⟩ | ⟨c, f, y, p, h1, h2, h3, hS, h4, _⟩
          · have := (nI_eq (by omega) (by omega)).mp (o0.symm.trans z); omega
          · rw [hS]; exact nI_n9 (by omega)
        have hw3 : WrC N3 n (wn n e) := ⟨hN3.v (by decide) hw2.1, hw.2.1, fun r hr => ⟨hN3.v (by decide) (hw2.2.2 r hr).1, (hw.2.2 r hr).2⟩⟩
        have hs3 : N3.1 37 2 = nI 1 := hN3.v (by decide) hs2
        have hF3 : Fr M N3 [32, 33, 37, 38, 39] := hF2.tr hN3 (by decide)
        refine x_aload_n dX8_best_131 rfl rfl ?_
        refine x_getr dX8_best_132 fX8_70 rfl rfl (by decide) ?_
        refine x_callVv dX8_best_135 mvX7_advance kX8_226 (k_advance E (d + 1) N3 n (wn n e) hw3) rfl (by decide) (by omega) rfl rfl (Nat.le_of_ble_eq_true rfl) ?_
        rintro N4 ⟨hN4, ha4⟩
        refine xinc5_3N dX8_best_138 rfl ?_
        refine x_goto (tgt := 45) dX8_best_141 (by decide) ?_
        have hP4 := hP3.fr hN4 (by decide)
        rcases adv_use he hl hw3 hs3 ha4 with ⟨g1, m, g2, g3⟩ | ⟨m, g1, g2, g3, g4, g5⟩
        · refine done (t + 1) N4 _ (by omega) (hF3.tr hN4 (by decide)) g1 ?_ ?_
          · rw [← g2, bestS_gap g3]
            exact hP4.up (by omega)
          · rw [← g2, bestS_gap g3]
            exact hne3
        · refine ih _ (t + 1) N4 _ (by omega) g1 g2 (by omega) (hF3.tr hN4 (by decide)) g5 g4 ?_
          rw [bestS_gap g3]
          exact hP4.up (by omega)
    exact key (6 ^ n) 0 0 N0 _ (Nat.sub_le _ _) (Nat.pow_pos (by decide)) (lvk_0 n) (Nat.le_refl _) ((hN1.wd (by decide) : Fr M N1 [32, 33, 37, 38, 39]).tr hN0 (by decide)) (hw0.cg (fun i _ => (wn_0 n i).symm)) hs0 ((show PB N1 D 0 (-9, -9, nI 0) from Or.inl ⟨p0, rfl⟩).fr hN0 (by decide))
  refine x_iload_n dX8_best_0 rfl rfl ?_
  refine x_if_eqN (tgt := 12) dX8_best_1 (by decide) (by omega) (fun hc => ?_) (fun hc => ?_)
  · exact start
  refine x_iload_n dX8_best_4 rfl rfl ?_
  refine x_iconst (v := nI 1) dX8_best_5 (by decide) ?_
  refine x_icmp_eqN (tgt := 12) dX8_best_6 (by decide) (by omega) (by omega) (fun hc => ?_) (fun hc => ?_)
  · exact start
  · exact absurd (by omega) hc
