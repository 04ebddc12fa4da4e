-- ===== the component: over all level wires =====
def PH (N : PM) (n : Nat) (s : Nat → Bool) (e : Nat) : Prop := N.1 39 0 = nI (hitC n s e) ∧ (0 < hitC n s e → N.1 39 1 = nI 0) ∧ N.1 39 2 = hitF n s e
theorem PH.fr {M N : PM} {n : Nat} {s : Nat → Bool} {e : Nat} {cs : List Nat} (h : PH M n s e) (hf : Fr M N cs) (hc : 39 ∉ cs) : PH N n s e := by
  unfold PH
  rw [hf.2 39 hc]
  exact h
theorem PH.gap {N : PM} {n : Nat} {s : Nat → Bool} {a m : Nat} (h : PH N n s a) (hg : ∀ j, a ≤ j → j < a + m → lvk n j = false) : PH N n s (a + m) := by
  unfold PH
  rw [hitC_gap hg, hitF_gap hg]
  exact h
theorem PH.miss {N : PM} {n : Nat} {s : Nat → Bool} {e : Nat} (h : PH N n s e) (hs : s e = false) : PH N n s (e + 1) := by
  unfold PH
  rw [hitC_s, hitF_s, hs, Bool.and_false, if_neg (by decide), if_neg (fun z => by cases z.1), Nat.add_zero]
  exact h
theorem PH.hit {M N : PM} {n : Nat} {s : Nat → Bool} {e : Nat} {c0 : Int32} (h : PH M n s e) (h1 : M.1 39 1 = c0) (hl : lvk n e = true) (hs : s e = true) (o0 : N.1 39 0 = nI (hitC n s e + 1)) (o1 : N.1 39 1 = (if hitC n s e = 0 ∨ nI 0 < c0 then nI 0 else c0)) (o2 : N.1 39 2 = (if hitC n s e = 0 ∨ nI 0 < c0 then nI (fig (wn n e) n) else hitF n s e)) : PH N n s (e + 1) := by
  unfold PH
  rw [hitC_s, hitF_s, hl, hs, Bool.and_true, if_pos rfl]
  by_cases z : hitC n s e = 0
  · rw [if_pos (Or.inl z)] at o1 o2
    rw [if_pos ⟨rfl, z⟩]
    exact ⟨o0, fun _ => o1, o2⟩
  · have hc0 : c0 = nI 0 := h1.symm.trans (h.2.1 (by omega))
    have hn : ¬ (hitC n s e = 0 ∨ nI 0 < c0) := by
      rw [hc0]
      rintro (y | y)
      · exact z y
      · exact absurd y (by decide)
    rw [if_neg hn] at o1 o2
    rw [if_neg (fun y => z y.2)]
    exact ⟨o0, fun _ => o1.trans hc0, o2⟩
theorem Cw_w {N : PM} {n : Nat} {q w u : Nat → Nat} (h : Tb N 13 n q w) (hw : WrC N n u) : Cw N 14 38 n q u :=
  ⟨rfl, by decide, rfl, by decide, h.1, h.2.1, hw.2.2⟩
theorem PH_0 {N : PM} {n : Nat} {s : Nat → Bool} (h0 : N.1 39 0 = nI 0) (h2 : N.1 39 2 = -9) : PH N n s 0 := ⟨h0, fun z => absurd z (Nat.lt_irrefl _), h2⟩
set_option maxHeartbeats 8000000 in
theorem k_wireCount (E : Ev) (d : Nat) (M : PM) (n : Nat) (hn : M.1 3 5 = nI n) (hn5 : n ≤ 5) : Ci E (d + 3) mX8_wireCount [.ref (ad E 0)] M (fun v N => v = nI (hitC n (fun _ => true) (6 ^ n)) ∧ Fr M N [37, 38]) := by
  have h6 := p6 hn5
  refine Ct.ofi [some (.ref (ad E 0)), none, none] (own := RX8) rfl (by decide) (Nat.le_of_ble_eq_true rfl) rfl (fun C hR => ?_)
  refine x_iconst (v := nI 0) dX8_wireCount_0 (by decide) ?_
  refine xis3_1 dX8_wireCount_1 rfl ?_
  refine x_aload_n dX8_wireCount_2 rfl rfl ?_
  refine x_getr dX8_wireCount_3 fX8_70 rfl rfl (by decide) ?_
  refine x_aload_n dX8_wireCount_6 rfl rfl ?_
  refine x_getr dX8_wireCount_7 fX8_19 rfl rfl (by decide) ?_
  refine x_getv (hn) dX8_wireCount_10 fX8_103 rfl rfl (by decide) ?_
  refine x_callVv dX8_wireCount_13 mvX7_begin kX8_201 (k_wbegin E (d + 1) M n hn5) rfl (by decide) (by omega) rfl rfl (Nat.le_of_ble_eq_true rfl) ?_
  rintro N0 ⟨hN0, hw0, hs0⟩
  refine x_iconst (v := nI 0) dX8_wireCount_16 (by decide) ?_
  refine xis3_2 dX8_wireCount_17 rfl ?_
  have done : ∀ t N, t ≤ 7776 → Fr M N [37, 38] → N.1 37 2 = nI 0 → X E (d + 3) RX8 cX8_wireCount 3 C 18 [some (.ref (ad E 0)), some (.int (nI (hitC n (fun _ => true) (6 ^ n)))), some (.int (nI t))] [] N := by
    intro t N ht hN hs
    have fin : X E (d + 3) RX8 cX8_wireCount 3 C 51 [some (.ref (ad E 0)), some (.int (nI (hitC n (fun _ => true) (6 ^ n)))), some (.int (nI t))] [] N := by
      refine x_iload_n dX8_wireCount_51 rfl rfl ?_
      exact hR _ _ _ _ dX8_wireCount_52 (⟨rfl, hN⟩)
    refine x_iload_n dX8_wireCount_18 rfl rfl ?_
    refine x_sipush (v := nI 7776) dX8_wireCount_19 (by decide) ?_
    refine x_icmp_geN (tgt := 51) dX8_wireCount_22 (by decide) (by omega) (by omega) (fun hc => ?_) (fun hc => ?_)
    · exact fin
    refine x_aload_n dX8_wireCount_25 rfl rfl ?_
    refine x_getr dX8_wireCount_26 fX8_70 rfl rfl (by decide) ?_
    refine x_getv (hs) dX8_wireCount_29 fX8_204 rfl rfl (by decide) ?_
    refine x_if_eqN (tgt := 51) dX8_wireCount_32 (by decide) (by omega) (fun hc => ?_) (fun hc => ?_)
    · exact fin
    · exact absurd rfl hc
  have key : ∀ b, ∀ e t N, 6 ^ n - e ≤ b → e < 6 ^ n → lvk n e = true → t ≤ e → Fr M N [37, 38] → WrC N n (wn n e) → N.1 37 2 = nI 1 → X E (d + 3) RX8 cX8_wireCount 3 C 18 [some (.ref (ad E 0)), some (.int (nI (hitC n (fun _ => true) e))), some (.int (nI t))] [] N := by
    intro b
    induction b with
    | zero => intro e t N hb he; exact absurd hb (by omega)
    | succ b ih =>
      intro e t N hb he hl ht hN hw hs
      have hle := hitC_le n (fun _ => true) e
      have hst : hitC n (fun _ => true) (e + 1) = hitC n (fun _ => true) e + 1 := by rw [hitC_s, hl]; rfl
      refine x_iload_n dX8_wireCount_18 rfl rfl ?_
      refine x_sipush (v := nI 7776) dX8_wireCount_19 (by decide) ?_
      refine x_icmp_geN (tgt := 51) dX8_wireCount_22 (by decide) (by omega) (by omega) (fun hc => ?_) (fun hc => ?_)
      · exact absurd hc (by omega)
      refine x_aload_n dX8_wireCount_25 rfl rfl ?_
      refine x_getr dX8_wireCount_26 fX8_70 rfl rfl (by decide) ?_
      refine x_getv (hs) dX8_wireCount_29 fX8_204 rfl rfl (by decide) ?_
      refine x_if_eqN (tgt := 51) dX8_wireCount_32 (by decide) (by omega) (fun hc => ?_) (fun hc => ?_)
      · exact absurd hc (by decide)
      refine xinc3_1N dX8_wireCount_35 rfl ?_
      refine x_aload_n dX8_wireCount_38 rfl rfl ?_
      refine x_getr dX8_wireCount_39 fX8_70 rfl rfl (by decide) ?_
      refine x_callVv dX8_wireCount_42 mvX7_advance kX8_226 (k_advance E d N n (wn n e) hw) rfl (by decide) (by omega) rfl rfl (Nat.le_of_ble_eq_true rfl) ?_
      rintro N1 ⟨hN1, ha⟩
      rcases adv_use he hl hw hs ha with ⟨g1, m, g2, g3⟩ | ⟨m, g1, g2, g3, g4, g5⟩
      · refine xinc3_2N dX8_wireCount_45 rfl ?_
        refine x_goto (tgt := 18) dX8_wireCount_48 (by decide) ?_
        have hg := hitC_gap (s := fun _ => true) g3
        rw [g2, hst] at hg
        rw [← hg]
        exact done (t + 1) N1 (by omega) (hN.tr hN1 (by decide)) g1
      · refine xinc3_2N dX8_wireCount_45 rfl ?_
        refine x_goto (tgt := 18) dX8_wireCount_48 (by decide) ?_
        have hg := hitC_gap (s := fun _ => true) g3
        rw [hst] at hg
        rw [← hg]
        exact ih _ (t + 1) N1 (by omega) g1 g2 (by omega) (hN.tr hN1 (by decide)) g5 g4
  exact key (6 ^ n) 0 0 N0 (Nat.sub_le _ _) (Nat.pow_pos (by decide)) (lvk_0 n) (Nat.le_refl _) hN0 (hw0.cg (fun i _ => (wn_0 n i).symm)) hs0
set_option maxHeartbeats 8000000 in
theorem k_fair (E : Ev) (d : Nat) (M : PM) (n K D a b x : Nat) (q w kd pt nd : Nat → Nat) (hH : Hc M n K D kd pt nd) (hT : Tb M 13 n q w) (ha : a < 10000) (hb : b < 10000) (hx : x < 2) (hqK : ∀ r c, r < n → c < 5 → q (5 * r + c) < 4 * K) : Ci E (d + 4) mX8_fair [.ref (ad E 0), .int (nI a), .int (nI b), .int (nI x)] M (fun v N => v = (if x = 0 then nI (hitC n (fun k => frA kd q (wn n k) n a b) (6 ^ n)) else hitF n (fun k => frA kd q (wn n k) n a b) (6 ^ n)) ∧ Fr M N [32, 33, 37, 38, 39]) := by
  obtain ⟨f1, f2, f3, f4, f5, f6, f7, f8, f9⟩ := id hH
  have h6 := p6 f4
  refine Ct.ofi [some (.ref (ad E 0)), some (.int (nI a)), some (.int (nI b)), some (.int (nI x)), none] (own := RX8) rfl (by decide) (Nat.le_of_ble_eq_true rfl) rfl (fun C hR => ?_)
  have start : X E (d + 4) RX8 cX8_fair 5 C 26 [some (.ref (ad E 0)), some (.int (nI a)), some (.int (nI b)), some (.int (nI x)), none] [] M := by
    refine x_aload_n dX8_fair_26 rfl rfl ?_
    refine x_getr dX8_fair_27 fX8_77 rfl rfl (by decide) ?_
    refine x_callVv dX8_fair_30 mvX2_begin kX8_200 (k_pbegin E (d + 3) M) rfl (by decide) (by omega) rfl rfl (Nat.le_of_ble_eq_true rfl) ?_
    rintro N1 ⟨hN1, p0, p1, p2⟩
    refine x_aload_n dX8_fair_33 rfl rfl ?_
    refine x_getr dX8_fair_34 fX8_70 rfl rfl (by decide) ?_
    refine x_aload_n dX8_fair_37 rfl rfl ?_
    refine x_getr dX8_fair_38 fX8_19 rfl rfl (by decide) ?_
    refine x_getv (hN1.v (by decide) f1) dX8_fair_41 fX8_103 rfl rfl (by decide) ?_
    refine x_callVv dX8_fair_44 mvX7_begin kX8_201 (k_wbegin E (d + 2) N1 n f4) rfl (by decide) (by omega) rfl rfl (Nat.le_of_ble_eq_true rfl) ?_
    rintro N0 ⟨hN0, hw0, hs0⟩
    refine x_iconst (v := nI 0) dX8_fair_47 (by decide) ?_
    refine xis5_4 dX8_fair_48 rfl ?_
    have done : ∀ t N, t ≤ 7776 → Fr M N [32, 33, 37, 38, 39] → N.1 37 2 = nI 0 → PH N n (fun k => frA kd q (wn n k) n a b) (6 ^ n) → X E (d + 4) RX8 cX8_fair 5 C 50 [some (.ref (ad E 0)), some (.int (nI a)), some (.int (nI b)), some (.int (nI x)), some (.int (nI t))] [] N := by
      intro t N ht hN hs hP
      have fin : X E (d + 4) RX8 cX8_fair 5 C 159 [some (.ref (ad E 0)), some (.int (nI a)), some (.int (nI b)), some (.int (nI x)), some (.int (nI t))] [] N := by
        refine x_iload_n dX8_fair_159 rfl rfl ?_
        refine x_if_neN (tgt := 173) dX8_fair_160 (by decide) (by omega) (fun hc => ?_) (fun hc => ?_)
        · refine x_aload_n dX8_fair_173 rfl rfl ?_
          refine x_getr dX8_fair_174 fX8_77 rfl rfl (by decide) ?_
          refine x_getv (hP.2.2) dX8_fair_177 fX8_229 rfl rfl (by decide) ?_
          exact hR _ _ _ _ dX8_fair_180 (⟨by rw [if_neg hc], hN⟩)
        · refine x_aload_n dX8_fair_163 rfl rfl ?_
          refine x_getr dX8_fair_164 fX8_77 rfl rfl (by decide) ?_
          refine x_getv (hP.1) dX8_fair_167 fX8_248 rfl rfl (by decide) ?_
          refine x_goto (tgt := 180) dX8_fair_170 (by decide) ?_
          exact hR _ _ _ _ dX8_fair_180 (⟨by rw [if_pos hc], hN⟩)
      refine x_iload dX8_fair_50 rfl ?_
      refine x_sipush (v := nI 7776) dX8_fair_52 (by decide) ?_
      refine x_icmp_geN (tgt := 159) dX8_fair_55 (by decide) (by omega) (by omega) (fun hc => ?_) (fun hc => ?_)
      · exact fin
      refine x_aload_n dX8_fair_58 rfl rfl ?_
      refine x_getr dX8_fair_59 fX8_70 rfl rfl (by decide) ?_
      refine x_getv (hs) dX8_fair_62 fX8_204 rfl rfl (by decide) ?_
      refine x_if_eqN (tgt := 159) dX8_fair_65 (by decide) (by omega) (fun hc => ?_) (fun hc => ?_)
      · exact fin
      · exact absurd rfl hc
    have key : ∀ c, ∀ e t N, 6 ^ n - e ≤ c → e < 6 ^ n → lvk n e = true → t ≤ e → Fr M N [32, 33, 37, 38, 39] → WrC N n (wn n e) → N.1 37 2 = nI 1 → PH N n (fun k => frA kd q (wn n k) n a b) e → X E (d + 4) RX8 cX8_fair 5 C 50 [some (.ref (ad E 0)), some (.int (nI a)), some (.int (nI b)), some (.int (nI x)), some (.int (nI t))] [] N := by
      intro c
      induction c with
      | zero => intro e t N hbb he; exact absurd hbb (by omega)
      | succ c ih =>
        intro e t N hbb he hl ht hN hw hs hP
        have hTN : Tb N 13 n q w := hT.fr hN (by decide) (by decide)
        have hHN : Hc N n K D kd pt nd := hH.fr hN (by decide) (by decide) (by decide) (by decide)
        refine x_iload dX8_fair_50 rfl ?_
        refine x_sipush (v := nI 7776) dX8_fair_52 (by decide) ?_
        refine x_icmp_geN (tgt := 159) dX8_fair_55 (by decide) (by omega) (by omega) (fun hc => ?_) (fun hc => ?_)
        · exact absurd hc (by omega)
        refine x_aload_n dX8_fair_58 rfl rfl ?_
        refine x_getr dX8_fair_59 fX8_70 rfl rfl (by decide) ?_
        refine x_getv (hs) dX8_fair_62 fX8_204 rfl rfl (by decide) ?_
        refine x_if_eqN (tgt := 159) dX8_fair_65 (by decide) (by omega) (fun hc => ?_) (fun hc => ?_)
        · exact absurd hc (by decide)
        refine x_aload_n dX8_fair_68 rfl rfl ?_
        refine x_getr dX8_fair_69 fX8_56 rfl rfl (by decide) ?_
        refine x_aload_n dX8_fair_72 rfl rfl ?_
        refine x_getr dX8_fair_73 fX8_31 rfl rfl (by decide) ?_
        refine x_getr dX8_fair_76 fX8_139 rfl rfl (by decide) ?_
        refine x_aload_n dX8_fair_79 rfl rfl ?_
        refine x_getr dX8_fair_80 fX8_70 rfl rfl (by decide) ?_
        refine x_getr dX8_fair_83 fX8_208 rfl rfl (by decide) ?_
        refine x_callVv dX8_fair_86 mvX5_take kX8_209 (k_take E d N 14 38 n K D q (wn n e) kd pt nd hHN (Cw_w hTN hw) hqK) rfl (by decide) (by omega) rfl rfl (Nat.le_of_ble_eq_true rfl) ?_
        rintro N2 ⟨hN2, hl2, ht2⟩
        have hK2 : N2.1 3 4 = nI K := hN2.v (by decide) hHN.2.1
        have hP2 := hP.fr hN2 (by decide)
        have hw2 : WrC N2 n (wn n e) := ⟨hN2.v (by decide) hw.1, hw.2.1, fun r hr => ⟨hN2.v (by decide) (hw.2.2 r hr).1, (hw.2.2 r hr).2⟩⟩
        have hs2 : N2.1 37 2 = nI 1 := hN2.v (by decide) hs
        have hF2 : Fr M N2 [32, 33, 37, 38, 39] := hN.tr hN2 (by decide)
        have w1 := woA_le (kd := kd) (q := q) (w := wn n e) (h := 0) (f := a) f4
        have w2 := woA_le (kd := kd) (q := q) (w := wn n e) (h := 1) (f := a) f4
        have w3 := woA_le (kd := kd) (q := q) (w := wn n e) (h := 0) (f := b) f4
        have w4 := woA_le (kd := kd) (q := q) (w := wn n e) (h := 1) (f := b) f4
        have tail : ∀ N3, Fr N2 N3 [39] → PH N3 n (fun k => frA kd q (wn n k) n a b) (e + 1) → X E (d + 4) RX8 cX8_fair 5 C 146 [some (.ref (ad E 0)), some (.int (nI a)), some (.int (nI b)), some (.int (nI x)), some (.int (nI t))] [] N3 := by
          intro N3 hN3 hP3
          have hw3 : WrC N3 n (wn n e) := ⟨hN3.v (by decide) hw2.1, hw.2.1, fun r hr => ⟨hN3.v (by decide) (hw2.2.2 r hr).1, (hw.2.2 r hr).2⟩⟩
          have hs3 : N3.1 37 2 = nI 1 := hN3.v (by decide) hs2
          have hF3 : Fr M N3 [32, 33, 37, 38, 39] := hF2.tr hN3 (by decide)
          refine x_aload_n dX8_fair_146 rfl rfl ?_
          refine x_getr dX8_fair_147 fX8_70 rfl rfl (by decide) ?_
          refine x_callVv dX8_fair_150 mvX7_advance kX8_226 (k_advance E (d + 1) N3 n (wn n e) hw3) rfl (by decide) (by omega) rfl rfl (Nat.le_of_ble_eq_true rfl) ?_
          rintro N4 ⟨hN4, ha4⟩
          refine xinc5_4N dX8_fair_153 rfl ?_
          refine x_goto (tgt := 50) dX8_fair_156 (by decide) ?_
          have hP4 := hP3.fr hN4 (by decide)
          rcases adv_use he hl hw3 hs3 ha4 with ⟨g1, m, g2, g3⟩ | ⟨m, g1, g2, g3, g4, g5⟩
          · exact done (t + 1) N4 (by omega) (hF3.tr hN4 (by decide)) g1 (g2 ▸ hP4.gap g3)
          · exact ih _ (t + 1) N4 (by omega) g1 g2 (by omega) (hF3.tr hN4 (by decide)) g5 g4 (hP4.gap g3)
        refine x_aload_n dX8_fair_89 rfl rfl ?_
        refine x_getr dX8_fair_90 fX8_56 rfl rfl (by decide) ?_
        refine x_iconst (v := nI 0) dX8_fair_93 (by decide) ?_
        refine x_iload_n dX8_fair_94 rfl rfl ?_
        refine x_callVi dX8_fair_95 mvX5_worth kX8_245 (k_worth E (d + 2) N2 n K 0 a q (wn n e) kd hK2 f5 ht2 (by decide) ha hqK) rfl (by decide) (by omega) rfl rfl (Nat.le_of_ble_eq_true rfl) ?_
        rintro _ _ ⟨rfl, rfl⟩
        refine x_aload_n dX8_fair_98 rfl rfl ?_
        refine x_getr dX8_fair_99 fX8_56 rfl rfl (by decide) ?_
        refine x_iconst (v := nI 1) dX8_fair_102 (by decide) ?_
        refine x_iload_n dX8_fair_103 rfl rfl ?_
        refine x_callVi dX8_fair_104 mvX5_worth kX8_245 (k_worth E (d + 2) N2 n K 1 a q (wn n e) kd hK2 f5 ht2 (by decide) ha hqK) rfl (by decide) (by omega) rfl rfl (Nat.le_of_ble_eq_true rfl) ?_
        rintro _ _ ⟨rfl, rfl⟩
        refine x_icmp_ltN (tgt := 146) dX8_fair_107 (by decide) (by omega) (by omega) (fun hc => ?_) (fun hc => ?_)
        · exact tail N2 Fr.rf (hP2.miss (decide_eq_false (fun z => by omega)))
        have g1 := hc
        refine x_aload_n dX8_fair_110 rfl rfl ?_
        refine x_getr dX8_fair_111 fX8_56 rfl rfl (by decide) ?_
        refine x_iconst (v := nI 1) dX8_fair_114 (by decide) ?_
        refine x_iload_n dX8_fair_115 rfl rfl ?_
        refine x_callVi dX8_fair_116 mvX5_worth kX8_245 (k_worth E (d + 2) N2 n K 1 b q (wn n e) kd hK2 f5 ht2 (by decide) hb hqK) rfl (by decide) (by omega) rfl rfl (Nat.le_of_ble_eq_true rfl) ?_
        rintro _ _ ⟨rfl, rfl⟩
        refine x_aload_n dX8_fair_119 rfl rfl ?_
        refine x_getr dX8_fair_120 fX8_56 rfl rfl (by decide) ?_
        refine x_iconst (v := nI 0) dX8_fair_123 (by decide) ?_
        refine x_iload_n dX8_fair_124 rfl rfl ?_
        refine x_callVi dX8_fair_125 mvX5_worth kX8_245 (k_worth E (d + 2) N2 n K 0 b q (wn n e) kd hK2 f5 ht2 (by decide) hb hqK) rfl (by decide) (by omega) rfl rfl (Nat.le_of_ble_eq_true rfl) ?_
        rintro _ _ ⟨rfl, rfl⟩
        refine x_icmp_ltN (tgt := 146) dX8_fair_128 (by decide) (by omega) (by omega) (fun hc => ?_) (fun hc => ?_)
        · exact tail N2 Fr.rf (hP2.miss (decide_eq_false (fun z => by omega)))
        have g2 := hc
        have hle := hitC_le n (fun k => frA kd q (wn n k) n a b) e
        refine x_aload_n dX8_fair_131 rfl rfl ?_
        refine x_getr dX8_fair_132 fX8_77 rfl rfl (by decide) ?_
        refine x_iconst (v := nI 0) dX8_fair_135 (by decide) ?_
        refine x_aload_n dX8_fair_136 rfl rfl ?_
        refine x_getr dX8_fair_137 fX8_70 rfl rfl (by decide) ?_
        refine x_callVi dX8_fair_140 mvX7_figures kX8_219 (k_figures E (d + 2) N2 n (wn n e) hw2) rfl (by decide) (by omega) rfl rfl (Nat.le_of_ble_eq_true rfl) ?_
        rintro _ _ ⟨rfl, rfl⟩
        refine x_callVv dX8_fair_143 mvX2_offer kX8_222 (k_offer E (d + 3) N2 _ _ _ _ _ hP2.1 (by omega) rfl hP2.2.2) rfl (by decide) (by omega) rfl rfl (Nat.le_of_ble_eq_true rfl) ?_
        rintro N3 ⟨hN3, o0, o1, o2⟩
        exact tail N3 hN3 (hP2.hit rfl hl (decide_eq_true ⟨g1, g2⟩) o0 o1 o2)
    exact key (6 ^ n) 0 0 N0 (Nat.sub_le _ _) (Nat.pow_pos (by decide)) (lvk_0 n) (Nat.le_refl _) ((hN1.wd (by decide) : Fr M N1 [32, 33, 37, 38, 39]).tr hN0 (by decide)) (hw0.cg (fun i _ => (wn_0 n i).symm)) hs0 ((PH_0 p0 p2).fr hN0 (by decide))
  refine x_iload_n dX8_fair_0 rfl rfl ?_
  refine x_callSi dX8_fair_1 msX8_isWorth kX8_242 (k_isWorth E (d + 3) M (nI a)) (by omega) rfl rfl (Nat.le_of_ble_eq_true rfl) ?_
  rintro _ _ ⟨rfl, rfl⟩
  refine x_if_eqB (tgt := 23) dX8_fair_4 (by decide) (fun hc => ?_) (fun hc => ?_)
  · exact absurd (inR_nI ha (by omega)) (of_decide_eq_false hc)
  refine x_iload_n dX8_fair_7 rfl rfl ?_
  refine x_callSi dX8_fair_8 msX8_isWorth kX8_242 (k_isWorth E (d + 3) M (nI b)) (by omega) rfl rfl (Nat.le_of_ble_eq_true rfl) ?_
  rintro _ _ ⟨rfl, rfl⟩
  refine x_if_eqB (tgt := 23) dX8_fair_11 (by decide) (fun hc => ?_) (fun hc => ?_)
  · exact absurd (inR_nI hb (by omega)) (of_decide_eq_false hc)
  refine x_iload_n dX8_fair_14 rfl rfl ?_
  refine x_if_eqN (tgt := 26) dX8_fair_15 (by decide) (by omega) (fun hc => ?_) (fun hc => ?_)
  · exact start
  refine x_iload_n dX8_fair_18 rfl rfl ?_
  refine x_iconst (v := nI 1) dX8_fair_19 (by decide) ?_
  refine x_icmp_eqN (tgt := 26) dX8_fair_20 (by decide) (by omega) (by omega) (fun hc => ?_) (fun hc => ?_)
  · exact start
  · exact absurd (by omega) hc
set_option maxHeartbeats 8000000 in
theorem k_traces (E : Ev) (d : Nat) (M : PM) (n K D x sn : Nat) (q w kd pt nd sk ss : Nat → Nat) (hH : Hc M n K D kd pt nd) (hT : Tb M 13 n q w) (hS : SnC M sn sk ss) (hx : x < 2) (hqK : ∀ r c, r < n → c < 5 → q (5 * r + c) < 4 * K) : Ci E (d + 4) mX8_traces [.ref (ad E 0), .int (nI x)] M (fun v N => v = (if x = 0 then nI (hitC n (fun k => snA q (wn n k) n K sk ss sn) (6 ^ n)) else hitF n (fun k => snA q (wn n k) n K sk ss sn) (6 ^ n)) ∧ Fr M N [32, 33, 37, 38, 39]) := by
  obtain ⟨f1, f2, f3, f4, f5, f6, f7, f8, f9⟩ := id hH
  have h6 := p6 f4
  refine Ct.ofi [some (.ref (ad E 0)), some (.int (nI x)), none] (own := RX8) rfl (by decide) (Nat.le_of_ble_eq_true rfl) rfl (fun C hR => ?_)
  have start : X E (d + 4) RX8 cX8_traces 3 C 12 [some (.ref (ad E 0)), some (.int (nI x)), none] [] M := by
    refine x_aload_n dX8_traces_12 rfl rfl ?_
    refine x_getr dX8_traces_13 fX8_77 rfl rfl (by decide) ?_
    refine x_callVv dX8_traces_16 mvX2_begin kX8_200 (k_pbegin E (d + 3) M) rfl (by decide) (by omega) rfl rfl (Nat.le_of_ble_eq_true rfl) ?_
    rintro N1 ⟨hN1, p0, p1, p2⟩
    refine x_aload_n dX8_traces_19 rfl rfl ?_
    refine x_getr dX8_traces_20 fX8_70 rfl rfl (by decide) ?_
    refine x_aload_n dX8_traces_23 rfl rfl ?_
    refine x_getr dX8_traces_24 fX8_19 rfl rfl (by decide) ?_
    refine x_getv (hN1.v (by decide) f1) dX8_traces_27 fX8_103 rfl rfl (by decide) ?_
    refine x_callVv dX8_traces_30 mvX7_begin kX8_201 (k_wbegin E (d + 2) N1 n f4) rfl (by decide) (by omega) rfl rfl (Nat.le_of_ble_eq_true rfl) ?_
    rintro N0 ⟨hN0, hw0, hs0⟩
    refine x_iconst (v := nI 0) dX8_traces_33 (by decide) ?_
    refine xis3_2 dX8_traces_34 rfl ?_
    have done : ∀ t N, t ≤ 7776 → Fr M N [32, 33, 37, 38, 39] → N.1 37 2 = nI 0 → PH N n (fun k => snA q (wn n k) n K sk ss sn) (6 ^ n) → X E (d + 4) RX8 cX8_traces 3 C 35 [some (.ref (ad E 0)), some (.int (nI x)), some (.int (nI t))] [] N := by
      intro t N ht hN hs hP
      have fin : X E (d + 4) RX8 cX8_traces 3 C 122 [some (.ref (ad E 0)), some (.int (nI x)), some (.int (nI t))] [] N := by
        refine x_iload_n dX8_traces_122 rfl rfl ?_
        refine x_if_neN (tgt := 136) dX8_traces_123 (by decide) (by omega) (fun hc => ?_) (fun hc => ?_)
        · refine x_aload_n dX8_traces_136 rfl rfl ?_
          refine x_getr dX8_traces_137 fX8_77 rfl rfl (by decide) ?_
          refine x_getv (hP.2.2) dX8_traces_140 fX8_229 rfl rfl (by decide) ?_
          exact hR _ _ _ _ dX8_traces_143 (⟨by rw [if_neg hc], hN⟩)
        · refine x_aload_n dX8_traces_126 rfl rfl ?_
          refine x_getr dX8_traces_127 fX8_77 rfl rfl (by decide) ?_
          refine x_getv (hP.1) dX8_traces_130 fX8_248 rfl rfl (by decide) ?_
          refine x_goto (tgt := 143) dX8_traces_133 (by decide) ?_
          exact hR _ _ _ _ dX8_traces_143 (⟨by rw [if_pos hc], hN⟩)
      refine x_iload_n dX8_traces_35 rfl rfl ?_
      refine x_sipush (v := nI 7776) dX8_traces_36 (by decide) ?_
      refine x_icmp_geN (tgt := 122) dX8_traces_39 (by decide) (by omega) (by omega) (fun hc => ?_) (fun hc => ?_)
      · exact fin
      refine x_aload_n dX8_traces_42 rfl rfl ?_
      refine x_getr dX8_traces_43 fX8_70 rfl rfl (by decide) ?_
      refine x_getv (hs) dX8_traces_46 fX8_204 rfl rfl (by decide) ?_
      refine x_if_eqN (tgt := 122) dX8_traces_49 (by decide) (by omega) (fun hc => ?_) (fun hc => ?_)
      · exact fin
      · exact absurd rfl hc
    have key : ∀ c, ∀ e t N, 6 ^ n - e ≤ c → e < 6 ^ n → lvk n e = true → t ≤ e → Fr M N [32, 33, 37, 38, 39] → WrC N n (wn n e) → N.1 37 2 = nI 1 → PH N n (fun k => snA q (wn n k) n K sk ss sn) e → X E (d + 4) RX8 cX8_traces 3 C 35 [some (.ref (ad E 0)), some (.int (nI x)), some (.int (nI t))] [] N := by
      intro c
      induction c with
      | zero => intro e t N hbb he; exact absurd hbb (by omega)
      | succ c ih =>
        intro e t N hbb he hl ht hN hw hs hP
        have hTN : Tb N 13 n q w := hT.fr hN (by decide) (by decide)
        have hHN : Hc N n K D kd pt nd := hH.fr hN (by decide) (by decide) (by decide) (by decide)
        refine x_iload_n dX8_traces_35 rfl rfl ?_
        refine x_sipush (v := nI 7776) dX8_traces_36 (by decide) ?_
        refine x_icmp_geN (tgt := 122) dX8_traces_39 (by decide) (by omega) (by omega) (fun hc => ?_) (fun hc => ?_)
        · exact absurd hc (by omega)
        refine x_aload_n dX8_traces_42 rfl rfl ?_
        refine x_getr dX8_traces_43 fX8_70 rfl rfl (by decide) ?_
        refine x_getv (hs) dX8_traces_46 fX8_204 rfl rfl (by decide) ?_
        refine x_if_eqN (tgt := 122) dX8_traces_49 (by decide) (by omega) (fun hc => ?_) (fun hc => ?_)
        · exact absurd hc (by decide)
        refine x_aload_n dX8_traces_52 rfl rfl ?_
        refine x_getr dX8_traces_53 fX8_56 rfl rfl (by decide) ?_
        refine x_aload_n dX8_traces_56 rfl rfl ?_
        refine x_getr dX8_traces_57 fX8_31 rfl rfl (by decide) ?_
        refine x_getr dX8_traces_60 fX8_139 rfl rfl (by decide) ?_
        refine x_aload_n dX8_traces_63 rfl rfl ?_
        refine x_getr dX8_traces_64 fX8_70 rfl rfl (by decide) ?_
        refine x_getr dX8_traces_67 fX8_208 rfl rfl (by decide) ?_
        refine x_callVv dX8_traces_70 mvX5_take kX8_209 (k_take E d N 14 38 n K D q (wn n e) kd pt nd hHN (Cw_w hTN hw) hqK) rfl (by decide) (by omega) rfl rfl (Nat.le_of_ble_eq_true rfl) ?_
        rintro N2 ⟨hN2, hl2, ht2⟩
        have hK2 : N2.1 3 4 = nI K := hN2.v (by decide) hHN.2.1
        have hP2 := hP.fr hN2 (by decide)
        have hw2 : WrC N2 n (wn n e) := ⟨hN2.v (by decide) hw.1, hw.2.1, fun r hr => ⟨hN2.v (by decide) (hw.2.2 r hr).1, (hw.2.2 r hr).2⟩⟩
        have hs2 : N2.1 37 2 = nI 1 := hN2.v (by decide) hs
        have hF2 : Fr M N2 [32, 33, 37, 38, 39] := hN.tr hN2 (by decide)
        have hS2 : SnC N2 sn sk ss := ⟨hF2.v (by decide) hS.1, hS.2.1, fun i hi => by rw [hF2.2 35 (by decide), hF2.2 36 (by decide)]; exact hS.2.2 i hi⟩
        have tail : ∀ N3, Fr N2 N3 [39] → PH N3 n (fun k => snA q (wn n k) n K sk ss sn) (e + 1) → X E (d + 4) RX8 cX8_traces 3 C 109 [some (.ref (ad E 0)), some (.int (nI x)), some (.int (nI t))] [] N3 := by
          intro N3 hN3 hP3
          have hw3 : WrC N3 n (wn n e) := ⟨hN3.v (by decide) hw2.1, hw.2.1, fun r hr => ⟨hN3.v (by decide) (hw2.2.2 r hr).1, (hw.2.2 r hr).2⟩⟩
          have hs3 : N3.1 37 2 = nI 1 := hN3.v (by decide) hs2
          have hF3 : Fr M N3 [32, 33, 37, 38, 39] := hF2.tr hN3 (by decide)
          refine x_aload_n dX8_traces_109 rfl rfl ?_
          refine x_getr dX8_traces_110 fX8_70 rfl rfl (by decide) ?_
          refine x_callVv dX8_traces_113 mvX7_advance kX8_226 (k_advance E (d + 1) N3 n (wn n e) hw3) rfl (by decide) (by omega) rfl rfl (Nat.le_of_ble_eq_true rfl) ?_
          rintro N4 ⟨hN4, ha4⟩
          refine xinc3_2N dX8_traces_116 rfl ?_
          refine x_goto (tgt := 35) dX8_traces_119 (by decide) ?_
          have hP4 := hP3.fr hN4 (by decide)
          rcases adv_use he hl hw3 hs3 ha4 with ⟨g1, m, g2, g3⟩ | ⟨m, g1, g2, g3, g4, g5⟩
          · exact done (t + 1) N4 (by omega) (hF3.tr hN4 (by decide)) g1 (g2 ▸ hP4.gap g3)
          · exact ih _ (t + 1) N4 (by omega) g1 g2 (by omega) (hF3.tr hN4 (by decide)) g5 g4 (hP4.gap g3)
        refine x_aload_n dX8_traces_73 rfl rfl ?_
        refine x_getr dX8_traces_74 fX8_63 rfl rfl (by decide) ?_
        refine x_aload_n dX8_traces_77 rfl rfl ?_
        refine x_getr dX8_traces_78 fX8_56 rfl rfl (by decide) ?_
        refine x_aload_n dX8_traces_81 rfl rfl ?_
        refine x_getr dX8_traces_82 fX8_19 rfl rfl (by decide) ?_
        refine x_getv (hK2) dX8_traces_85 fX8_106 rfl rfl (by decide) ?_
        refine x_callVi dX8_traces_88 mvX3_agreesWith kX8_272 (k_agreesWith E (d + 1) N2 n K sn q (wn n e) sk ss f5 f4 hl2 hS2) rfl (by decide) (by omega) rfl rfl (Nat.le_of_ble_eq_true rfl) ?_
        rintro _ _ ⟨rfl, rfl⟩
        refine x_if_eqB (tgt := 109) dX8_traces_91 (by decide) (fun hc => ?_) (fun hc => ?_)
        · exact tail N2 Fr.rf (hP2.miss hc)
        have hle := hitC_le n (fun k => snA q (wn n k) n K sk ss sn) e
        refine x_aload_n dX8_traces_94 rfl rfl ?_
        refine x_getr dX8_traces_95 fX8_77 rfl rfl (by decide) ?_
        refine x_iconst (v := nI 0) dX8_traces_98 (by decide) ?_
        refine x_aload_n dX8_traces_99 rfl rfl ?_
        refine x_getr dX8_traces_100 fX8_70 rfl rfl (by decide) ?_
        refine x_callVi dX8_traces_103 mvX7_figures kX8_219 (k_figures E (d + 2) N2 n (wn n e) hw2) rfl (by decide) (by omega) rfl rfl (Nat.le_of_ble_eq_true rfl) ?_
        rintro _ _ ⟨rfl, rfl⟩
        refine x_callVv dX8_traces_106 mvX2_offer kX8_222 (k_offer E (d + 3) N2 _ _ _ _ _ hP2.1 (by omega) rfl hP2.2.2) rfl (by decide) (by omega) rfl rfl (Nat.le_of_ble_eq_true rfl) ?_
        rintro N3 ⟨hN3, o0, o1, o2⟩
        exact tail N3 hN3 (hP2.hit rfl hl hc o0 o1 o2)
    exact key (6 ^ n) 0 0 N0 (Nat.sub_le _ _) (Nat.pow_pos (by decide)) (lvk_0 n) (Nat.le_refl _) ((hN1.wd (by decide) : Fr M N1 [32, 33, 37, 38, 39]).tr hN0 (by decide)) (hw0.cg (fun i _ => (wn_0 n i).symm)) hs0 ((PH_0 p0 p2).fr hN0 (by decide))
  refine x_iload_n dX8_traces_0 rfl rfl ?_
  refine x_if_eqN (tgt := 12) dX8_traces_1 (by decide) (by omega) (fun hc => ?_) (fun hc => ?_)
  · exact start
  refine x_iload_n dX8_traces_4 rfl rfl ?_
  refine x_iconst (v := nI 1) dX8_traces_5 (by decide) ?_
  refine x_icmp_eqN (tgt := 12) dX8_traces_6 (by decide) (by omega) (by omega) (fun hc => ?_) (fun hc => ?_)
  · exact start
  · exact absurd (by omega) hc
