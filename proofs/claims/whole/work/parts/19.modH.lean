-- ===== the reference: traces, shares, rests, chances =====
theorem sau_v {M : PM} {c k j : Nat} {v x : Int32} (h : j ≠ k) (hv : M.1 c j = v) : (sa M c (upd (M.1 c) k x)).1 c j = v := by rw [sa_1, pk_un h]; exact hv
/-- on which side kin is: 0, 1, both 2, none 3 -/
def sdA (q w : Nat → Nat) (n k : Nat) : Nat := if 0 < lf q w n k then (if 0 < rg q w n k then 2 else 0) else (if 0 < rg q w n k then 1 else 3)
def snA (q w : Nat → Nat) (n K : Nat) (sk ss : Nat → Nat) : Nat → Bool
  | 0 => true
  | i + 1 => snA q w n K sk ss i && (decide (K ≤ sk i) || decide (sdA q w n (sk i) = ss i))
set_option maxHeartbeats 8000000 in
theorem c_isSeen (E : Ev) (d : Nat) (M : PM) (n K sn : Nat) (q w sk ss : Nat → Nat) (hK : M.1 40 5 = nI K) (hK5 : K ≤ 5) (hn5 : n ≤ 5) (hl : Ld M n q w) (hs : SnM M sn sk ss) : Ci E d mX9_isSeen [.ref (ad E 40)] M (fun v N => v = bI (snA q w n K sk ss sn) ∧ M = N) := by
  obtain ⟨s1, s2, s3⟩ := hs
  refine Ct.ofz [some (.ref (ad E 40)), none, none, none, none] (own := RX9) rfl (by decide) (Nat.le_of_ble_eq_true rfl) rfl (fun C hR => ?_)
  refine x_iconst (v := nI 1) dX9_isSeen_0 (by decide) ?_
  refine xis5_1 dX9_isSeen_1 rfl ?_
  refine x_iconst (v := nI 0) dX9_isSeen_2 (by decide) ?_
  refine xis5_2 dX9_isSeen_3 rfl ?_
  have key : ∀ i, i ≤ sn → ∀ l3 l4, X E d RX9 cX9_isSeen 5 C 4 [some (.ref (ad E 40)), some (.int (bI (snA q w n K sk ss i))), some (.int (nI i)), l3, l4] [] M := by
    refine up_loop sn ?_ ?_
    · intro l3 l4
      refine x_iload_n dX9_isSeen_4 rfl rfl ?_
      refine x_aload_n dX9_isSeen_5 rfl rfl ?_
      refine x_getv (s1) dX9_isSeen_6 fX9_169 rfl rfl (by decide) ?_
      refine x_icmp_geN (tgt := 106) dX9_isSeen_9 (by decide) (by omega) (by omega) (fun hc => ?_) (fun hc => ?_)
      · refine x_iload_n dX9_isSeen_106 rfl rfl ?_
        exact hR _ _ _ _ dX9_isSeen_107 (by first | exact bI_n _ | decide) (⟨rfl, rfl⟩)
      · exact absurd hc (by omega)
    · intro i hi ih l3 l4
      obtain ⟨g1, g2, g3, g4⟩ := s3 i hi
      have b1 := lf_le (q := q) (w := w) (k := sk i) hn5
      have b2 := rg_le (q := q) (w := w) (k := sk i) hn5
      rw [show snA q w n K sk ss (i + 1) = (snA q w n K sk ss i && (decide (K ≤ sk i) || decide (sdA q w n (sk i) = ss i))) from rfl] at ih
      refine x_iload_n dX9_isSeen_4 rfl rfl ?_
      refine x_aload_n dX9_isSeen_5 rfl rfl ?_
      refine x_getv (s1) dX9_isSeen_6 fX9_169 rfl rfl (by decide) ?_
      refine x_icmp_geN (tgt := 106) dX9_isSeen_9 (by decide) (by omega) (by omega) (fun hc => ?_) (fun hc => ?_)
      · exact absurd hc (by omega)
      refine x_aload_n dX9_isSeen_12 rfl rfl ?_
      refine x_getr dX9_isSeen_13 fX9_50 rfl rfl (by decide) ?_
      refine x_iload_n dX9_isSeen_16 rfl rfl ?_
      refine x_ialdN dX9_isSeen_17 rfl (by decide) (by omega) (by decide) (g1) ?_
      refine xis5_3 dX9_isSeen_18 rfl ?_
      refine x_iload_n dX9_isSeen_19 rfl rfl ?_
      refine x_aload_n dX9_isSeen_20 rfl rfl ?_
      refine x_getv (hK) dX9_isSeen_21 fX9_117 rfl rfl (by decide) ?_
      refine x_icmp_geN (tgt := 100) dX9_isSeen_24 (by decide) (by omega) (by omega) (fun hc => ?_) (fun hc => ?_)
      · rw [decide_eq_true hc, Bool.true_or, Bool.and_true] at ih
        refine xinc5_2N dX9_isSeen_100 rfl ?_
        refine x_goto (tgt := 4) dX9_isSeen_103 (by decide) ?_
        exact ih _ _
      rw [decide_eq_false (show ¬ K ≤ sk i by omega), Bool.false_or] at ih
      have cont : ∀ v : Int32, (v = nI (ss i) ↔ sdA q w n (sk i) = ss i) → X E d RX9 cX9_isSeen 5 C 77 [some (.ref (ad E 40)), some (.int (bI (snA q w n K sk ss i))), some (.int (nI i)), some (.int (nI (sk i))), l4] [.int v] M := by
        intro v hv
        refine xis5_4 dX9_isSeen_77 rfl ?_
        refine x_iload_n dX9_isSeen_79 rfl rfl ?_
        refine x_if_eqB (tgt := 98) dX9_isSeen_80 (by decide) (fun hc => ?_) (fun hc => ?_)
        · refine x_iconst (v := nI 0) dX9_isSeen_98 (by decide) ?_
          refine xis5_1 dX9_isSeen_99 rfl ?_
          refine xinc5_2N dX9_isSeen_100 rfl ?_
          refine x_goto (tgt := 4) dX9_isSeen_103 (by decide) ?_
          rw [hc, Bool.false_and] at ih
          exact ih _ _
        rw [hc, Bool.true_and] at ih
        refine x_iload dX9_isSeen_83 rfl ?_
        refine x_aload_n dX9_isSeen_85 rfl rfl ?_
        refine x_getr dX9_isSeen_86 fX9_53 rfl rfl (by decide) ?_
        refine x_iload_n dX9_isSeen_89 rfl rfl ?_
        refine x_ialdN dX9_isSeen_90 rfl (by decide) (by omega) (by decide) (g2) ?_
        refine x_icmp_ne (tgt := 98) dX9_isSeen_91 (by decide) (fun hc => ?_) (fun hc => ?_)
        · rw [decide_eq_false (fun e => hc (hv.mpr e))] at ih
          refine x_iconst (v := nI 0) dX9_isSeen_98 (by decide) ?_
          refine xis5_1 dX9_isSeen_99 rfl ?_
          refine xinc5_2N dX9_isSeen_100 rfl ?_
          refine x_goto (tgt := 4) dX9_isSeen_103 (by decide) ?_
          exact ih _ _
        · rw [decide_eq_true (hv.mp hc)] at ih
          refine x_iconst (v := nI 1) dX9_isSeen_94 (by decide) ?_
          refine x_goto (tgt := 99) dX9_isSeen_95 (by decide) ?_
          refine xis5_1 dX9_isSeen_99 rfl ?_
          refine xinc5_2N dX9_isSeen_100 rfl ?_
          refine x_goto (tgt := 4) dX9_isSeen_103 (by decide) ?_
          exact ih _ _
      have cN : ∀ a, a < 4 → sdA q w n (sk i) = a → (nI a = nI (ss i) ↔ sdA q w n (sk i) = ss i) := by
        intro a ha e
        rw [nI_eq (by omega) (by omega), e]
      refine x_aload_n dX9_isSeen_27 rfl rfl ?_
      refine x_getr dX9_isSeen_28 fX9_56 rfl rfl (by decide) ?_
      refine x_iload_n dX9_isSeen_31 rfl rfl ?_
      refine x_ialdN dX9_isSeen_32 rfl (by decide) (by omega) (by decide) (hl.1 _ g3) ?_
      refine x_if_leN (tgt := 49) dX9_isSeen_33 (by decide) (by omega) (fun hc => ?_) (fun hc => ?_)
      · have h0 := hc
        refine x_aload_n dX9_isSeen_49 rfl rfl ?_
        refine x_getr dX9_isSeen_50 fX9_56 rfl rfl (by decide) ?_
        refine x_iload_n dX9_isSeen_53 rfl rfl ?_
        refine x_ialdN dX9_isSeen_54 rfl (by decide) (by omega) (by decide) (hl.1 _ g3) ?_
        refine x_if_leN (tgt := 62) dX9_isSeen_55 (by decide) (by omega) (fun hc => ?_) (fun hc => ?_)
        · refine x_aload_n dX9_isSeen_62 rfl rfl ?_
          refine x_getr dX9_isSeen_63 fX9_59 rfl rfl (by decide) ?_
          refine x_iload_n dX9_isSeen_66 rfl rfl ?_
          refine x_ialdN dX9_isSeen_67 rfl (by decide) (by omega) (by decide) (hl.2 _ g3) ?_
          refine x_if_leN (tgt := 75) dX9_isSeen_68 (by decide) (by omega) (fun hc => ?_) (fun hc => ?_)
          · refine x_bipush (v := -9) dX9_isSeen_75 (by decide) ?_
            have e3 : sdA q w n (sk i) = 3 := by unfold sdA; rw [if_neg (by omega), if_neg (by omega)]
            refine cont _ ⟨fun e => ?_, fun e => by rw [e3] at e; omega⟩
            exact absurd (congrArg Int32.toInt e) (by rw [nI_toInt (by omega)]; have : (-9 : Int32).toInt = -9 := by decide
                                                      rw [this]; omega)
          · refine x_iconst (v := nI 1) dX9_isSeen_71 (by decide) ?_
            refine x_goto (tgt := 77) dX9_isSeen_72 (by decide) ?_
            exact cont _ (cN 1 (by decide) (by unfold sdA; rw [if_neg (by omega), if_pos (by omega)]))
        · exact absurd hc (by omega)
      · have h0 := hc
        refine x_aload_n dX9_isSeen_36 rfl rfl ?_
        refine x_getr dX9_isSeen_37 fX9_59 rfl rfl (by decide) ?_
        refine x_iload_n dX9_isSeen_40 rfl rfl ?_
        refine x_ialdN dX9_isSeen_41 rfl (by decide) (by omega) (by decide) (hl.2 _ g3) ?_
        refine x_if_leN (tgt := 49) dX9_isSeen_42 (by decide) (by omega) (fun hc => ?_) (fun hc => ?_)
        · have h1 := hc
          refine x_aload_n dX9_isSeen_49 rfl rfl ?_
          refine x_getr dX9_isSeen_50 fX9_56 rfl rfl (by decide) ?_
          refine x_iload_n dX9_isSeen_53 rfl rfl ?_
          refine x_ialdN dX9_isSeen_54 rfl (by decide) (by omega) (by decide) (hl.1 _ g3) ?_
          refine x_if_leN (tgt := 62) dX9_isSeen_55 (by decide) (by omega) (fun hc => ?_) (fun hc => ?_)
          · exact absurd hc (by omega)
          · refine x_iconst (v := nI 0) dX9_isSeen_58 (by decide) ?_
            refine x_goto (tgt := 77) dX9_isSeen_59 (by decide) ?_
            exact cont _ (cN 0 (by decide) (by unfold sdA; rw [if_pos (by omega), if_neg (by omega)]))
        · refine x_iconst (v := nI 2) dX9_isSeen_45 (by decide) ?_
          refine x_goto (tgt := 77) dX9_isSeen_46 (by decide) ?_
          exact cont _ (cN 2 (by decide) (by unfold sdA; rw [if_pos (by omega), if_pos (by omega)]))
  exact key 0 (by omega) _ _
set_option maxHeartbeats 8000000 in
theorem cM_traces_no (E : Ev) (d : Nat) (M : PM) (x : Int32) (hT : M.1 40 0 = nI 0) (hx : ¬ inR x 2) : Ci E (d + 1) mX9_traces [.ref (ad E 40), .int x] M (fun v N => v = -2 ∧ M = N) := by
  refine Ct.ofi [some (.ref (ad E 40)), some (.int x), none, none] (own := RX9) rfl (by decide) (Nat.le_of_ble_eq_true rfl) rfl (fun C hR => ?_)
  refine x_aload_n dX9_traces_0 rfl rfl ?_
  refine x_iconst (v := nI 0) dX9_traces_1 (by decide) ?_
  refine x_put dX9_traces_2 pX9_68 rfl rfl (by decide) rfl rfl ?_
  rw [thr hT]
  refine x_iload_n dX9_traces_5 rfl rfl ?_
  refine x_i2l dX9_traces_6 ?_
  refine x_lconst (v := 0) dX9_traces_7 rfl ?_
  refine x_lconst (v := 1) dX9_traces_8 rfl ?_
  refine x_callSi dX9_traces_9 msX9_in kX9_74 (c_in3 E d M x _ _ 0 1 rfl rfl) (by omega) rfl rfl (Nat.le_of_ble_eq_true rfl) ?_
  rintro _ _ ⟨rfl, rfl⟩
  refine x_if_neB (tgt := 18) dX9_traces_12 (by decide) (fun hc => ?_) (fun hc => ?_)
  · exact absurd (of_decide_eq_true hc) (by omega)
  · refine x_bipush (v := -2) dX9_traces_15 (by decide) ?_
    exact hR _ _ _ _ dX9_traces_17 (⟨rfl, rfl⟩)
theorem Fm.fa {M N : PM} {n K D : Nat} {kd pt nd : Nat → Nat} {cs ks : List Nat} (h : Fm M n K D kd pt nd) (hf : Fa M N cs ks) (h2 : 42 ∉ cs) (h3 : 43 ∉ cs) (h4 : 44 ∉ cs) (k4 : 4 ∉ ks) (k5 : 5 ∉ ks) (k7 : 7 ∉ ks) : Fm N n K D kd pt nd := by
  obtain ⟨f1, f2, f3, f4, f5, f6, f7, f8, f9⟩ := h
  unfold Fm
  rw [hf.2.2 4 k4, hf.2.2 5 k5, hf.2.2 7 k7, hf.2.1 42 h2 (by decide), hf.2.1 43 h3 (by decide), hf.2.1 44 h4 (by decide)]
  exact ⟨f1, f2, f3, f4, f5, f6, f7, f8, f9⟩
theorem SnM.fa {M N : PM} {sn : Nat} {sk ss : Nat → Nat} {cs ks : List Nat} (h : SnM M sn sk ss) (hf : Fa M N cs ks) (h2 : 54 ∉ cs) (h3 : 55 ∉ cs) (k4 : 23 ∉ ks) : SnM N sn sk ss := by
  unfold SnM
  rw [hf.2.2 23 k4, hf.2.1 54 h2 (by decide), hf.2.1 55 h3 (by decide)]
  exact h
theorem Fa.Sc {M N : PM} {cs ks : List Nat} (h : Fa M N cs ks) (h1 : ∀ c ∈ cs, c ∈ scr) (h2 : ∀ k ∈ ks, k ∈ scf) : Sc M N :=
  ⟨h.1, fun c hc => h.2.1 c (fun e => hc (h1 c e)) (fun e => hc (by rw [e]; decide)), fun k hk => h.2.2 k (fun e => hk (h2 k e))⟩
set_option maxHeartbeats 8000000 in
theorem cM_traces (E : Ev) (d : Nat) (M : PM) (n K D x sn : Nat) (q w kd pt nd sk ss : Nat → Nat) (hT : M.1 40 0 = nI 0) (hF : Fm M n K D kd pt nd) (hp : Pg M 49 n q w) (hs : SnM M sn sk ss) (hx : x < 2) : Ci E (d + 2) mX9_traces [.ref (ad E 40), .int (nI x)] M (fun v N => v = (if x = 0 then nI (hitC n (fun k => snA q (wn n k) n K sk ss sn) (6 ^ n)) else hitF n (fun k => snA q (wn n k) n K sk ss sn) (6 ^ n)) ∧ Fa M N [50, 56, 57, 58] [30, 31]) := by
  obtain ⟨f1, f2, f3, f4, f5, f6, f7, f8, f9⟩ := id hF
  have h6 := p6 f4
  have hxt : (nI x).toInt = (x : Int) := nI_toInt (by omega)
  refine Ct.ofi [some (.ref (ad E 40)), some (.int (nI x)), none, none] (own := RX9) rfl (by decide) (Nat.le_of_ble_eq_true rfl) rfl (fun C hR => ?_)
  refine x_aload_n dX9_traces_0 rfl rfl ?_
  refine x_iconst (v := nI 0) dX9_traces_1 (by decide) ?_
  refine x_put dX9_traces_2 pX9_68 rfl rfl (by decide) rfl rfl ?_
  rw [thr hT]
  refine x_iload_n dX9_traces_5 rfl rfl ?_
  refine x_i2l dX9_traces_6 ?_
  refine x_lconst (v := 0) dX9_traces_7 rfl ?_
  refine x_lconst (v := 1) dX9_traces_8 rfl ?_
  refine x_callSi dX9_traces_9 msX9_in kX9_74 (c_in3 E d M _ _ _ 0 1 rfl rfl) (by omega) rfl rfl (Nat.le_of_ble_eq_true rfl) ?_
  rintro _ _ ⟨rfl, rfl⟩
  refine x_if_neB (tgt := 18) dX9_traces_12 (by decide) (fun hc => ?_) (fun hc => ?_)
  rotate_left
  · exact absurd (of_decide_eq_false hc) (by omega)
  refine x_aload_n dX9_traces_18 rfl rfl ?_
  refine x_iconst (v := nI 0) dX9_traces_19 (by decide) ?_
  refine x_put dX9_traces_20 pX9_222 rfl rfl (by decide) rfl rfl ?_
  refine x_aload_n dX9_traces_23 rfl rfl ?_
  refine x_bipush (v := -9) dX9_traces_24 (by decide) ?_
  refine x_put dX9_traces_26 pX9_225 rfl rfl (by decide) rfl rfl ?_
  refine x_iconst (v := nI 0) dX9_traces_29 (by decide) ?_
  refine xis4_2 dX9_traces_30 rfl ?_
  have key : ∀ i, i ≤ 6 ^ n → ∀ N l3, Fa M N [50, 56, 57, 58] [30, 31] → N.1 40 30 = nI (hitC n (fun k => snA q (wn n k) n K sk ss sn) i) → N.1 40 31 = hitF n (fun k => snA q (wn n k) n K sk ss sn) i → X E (d + 2) RX9 cX9_traces 4 C 31 [some (.ref (ad E 40)), some (.int (nI x)), some (.int (nI i)), l3] [] N := by
    refine up_loop (6 ^ n) ?_ ?_
    · intro N l3 hN h30 h31
      refine x_iload_n dX9_traces_31 rfl rfl ?_
      refine x_bipush (v := nI 6) dX9_traces_32 (by decide) ?_
      refine x_aload_n dX9_traces_34 rfl rfl ?_
      refine x_getv (hN.f (by decide) f1) dX9_traces_35 fX9_114 rfl rfl (by decide) ?_
      refine x_callSi dX9_traces_38 msX9_power kX9_142 (c_power E (d + 1) N 6 n (by omega)) (by omega) rfl rfl (Nat.le_of_ble_eq_true rfl) ?_
      rintro _ _ ⟨rfl, rfl⟩
      refine x_icmp_geN (tgt := 119) dX9_traces_41 (by decide) (by omega) (by omega) (fun hc => ?_) (fun hc => ?_)
      · refine x_iload_n dX9_traces_119 rfl rfl ?_
        refine x_if_neN (tgt := 130) dX9_traces_120 (by decide) (by omega) (fun hc => ?_) (fun hc => ?_)
        · refine x_aload_n dX9_traces_130 rfl rfl ?_
          refine x_getv (h31) dX9_traces_131 fX9_225 rfl rfl (by decide) ?_
          exact hR _ _ _ _ dX9_traces_134 (⟨by rw [if_neg hc], hN⟩)
        · refine x_aload_n dX9_traces_123 rfl rfl ?_
          refine x_getv (h30) dX9_traces_124 fX9_222 rfl rfl (by decide) ?_
          refine x_goto (tgt := 134) dX9_traces_127 (by decide) ?_
          exact hR _ _ _ _ dX9_traces_134 (⟨by rw [if_pos hc], hN⟩)
      · exact absurd hc (by omega)
    · intro i hi ih N l3 hN h30 h31
      rw [hitC_s, hitF_s] at ih
      have hcl := hitC_le n (fun k => snA q (wn n k) n K sk ss sn) i
      refine x_iload_n dX9_traces_31 rfl rfl ?_
      refine x_bipush (v := nI 6) dX9_traces_32 (by decide) ?_
      refine x_aload_n dX9_traces_34 rfl rfl ?_
      refine x_getv (hN.f (by decide) f1) dX9_traces_35 fX9_114 rfl rfl (by decide) ?_
      refine x_callSi dX9_traces_38 msX9_power kX9_142 (c_power E (d + 1) N 6 n (by omega)) (by omega) rfl rfl (Nat.le_of_ble_eq_true rfl) ?_
      rintro _ _ ⟨rfl, rfl⟩
      refine x_icmp_geN (tgt := 119) dX9_traces_41 (by decide) (by omega) (by omega) (fun hc => ?_) (fun hc => ?_)
      · exact absurd hc (by omega)
      refine x_aload_n dX9_traces_44 rfl rfl ?_
      refine x_iload_n dX9_traces_45 rfl rfl ?_
      refine x_callVi dX9_traces_46 mvX9_layWire kX9_148 (c_layWire E d N n i q w (hN.f (by decide) f1) (hp.to (hN.2.1 49 (by decide) (by decide))) hi) rfl (by decide) (by omega) rfl rfl (Nat.le_of_ble_eq_true rfl) ?_
      rintro _ N2 ⟨rfl, hN2, hlv⟩
      have hN2a : Fa N N2 [50, 56, 57, 58] [30, 31] := (hN2.wd (by decide) : Fr N N2 [50, 56, 57, 58]).Fa (by decide)
      have hN2' : Fa M N2 [50, 56, 57, 58] [30, 31] := hN.tr hN2a (fun _ h => h) (fun _ h => h)
      have h30' := hN2.v (c := 40) (by decide) h30
      have h31' := hN2.v (c := 40) (by decide) h31
      refine x_if_eqB (tgt := 113) dX9_traces_49 (by decide) (fun hc => ?_) (fun hc => ?_)
      · refine xinc4_2N dX9_traces_113 rfl ?_
        refine x_goto (tgt := 31) dX9_traces_116 (by decide) ?_
        have e0 : ¬ ((lvk n i && snA q (wn n i) n K sk ss sn) = true) := by unfold lvk; rw [hc]; simp
        rw [if_neg e0, if_neg (fun e => e0 e.1), Nat.add_zero] at ih
        exact ih _ _ hN2' h30' h31'
      have hP2 := hlv hc
      have hlt : lvk n i = true := hc
      rw [hlt, Bool.true_and] at ih
      refine x_aload_n dX9_traces_52 rfl rfl ?_
      refine x_aload_n dX9_traces_53 rfl rfl ?_
      refine x_getr dX9_traces_54 fX9_37 rfl rfl (by decide) ?_
      refine x_callVv dX9_traces_57 mvX9_layHalves kX9_152 (c_layHalves E (d + 1) N2 50 n q (wn n i) (hN2'.f (by decide) f1) hP2) rfl (by decide) (by omega) rfl rfl (Nat.le_of_ble_eq_true rfl) ?_
      rintro N3 ⟨hN3, hl3⟩
      have hN3a : Fa N2 N3 [50, 56, 57, 58] [30, 31] := (hN3.wd (by decide) : Fr N2 N3 [50, 56, 57, 58]).Fa (by decide)
      have hN3' : Fa M N3 [50, 56, 57, 58] [30, 31] := hN2'.tr hN3a (fun _ h => h) (fun _ h => h)
      have k30 := hN3.v (c := 40) (by decide) h30'
      have k31 := hN3.v (c := 40) (by decide) h31'
      have hP3 := hP2.fr hN3 (by decide)
      refine x_aload_n dX9_traces_60 rfl rfl ?_
      refine x_callVi dX9_traces_61 mvX9_isSeen kX9_228 (c_isSeen E (d + 1) N3 n K sn q (wn n i) sk ss (hN3'.f (by decide) f2) f5 f4 hl3 (hs.fa hN3' (by decide) (by decide) (by decide))) rfl (by decide) (by omega) rfl rfl (Nat.le_of_ble_eq_true rfl) ?_
      rintro _ _ ⟨rfl, rfl⟩
      refine xis4_3 dX9_traces_64 rfl ?_
      refine x_aload_n dX9_traces_65 rfl rfl ?_
      refine x_iload_n dX9_traces_66 rfl rfl ?_
      refine x_if_eqB (tgt := 88) dX9_traces_67 (by decide) (fun hc => ?_) (fun hc => ?_)
      · rw [hc, if_neg (by decide), if_neg (fun e => absurd e.1 (by decide)), Nat.add_zero] at ih
        refine x_aload_n dX9_traces_88 rfl rfl ?_
        refine x_getv (k31) dX9_traces_89 fX9_225 rfl rfl (by decide) ?_
        refine x_put dX9_traces_92 pX9_225 rfl rfl (by decide) rfl rfl ?_
        refine x_aload_n dX9_traces_95 rfl rfl ?_
        refine x_dup dX9_traces_96 rfl ?_
        refine x_getv (sau_v (by decide) k30) dX9_traces_97 fX9_222 rfl rfl (by decide) ?_
        refine x_iload_n dX9_traces_100 rfl rfl ?_
        refine x_if_eqB (tgt := 108) dX9_traces_101 (by decide) (fun hc => ?_) (fun hc => ?_)
        · refine x_iconst (v := nI 0) dX9_traces_108 (by decide) ?_
          refine x_iaddN dX9_traces_109 ?_
          refine x_put dX9_traces_110 pX9_222 rfl rfl (by decide) rfl rfl ?_
          refine xinc4_2N dX9_traces_113 rfl ?_
          refine x_goto (tgt := 31) dX9_traces_116 (by decide) ?_
          refine ih _ _ ((hN3'.up (by decide)).up (by decide)) ?_ ?_
          · rw [sa_1, pk_us, Nat.add_zero]
          · rw [sa_1, pk_un (by decide), sa_1, pk_us]
        · rename_i z; rw [z] at hc; cases hc
      · have hyes := hc
        rw [hyes, if_pos rfl] at ih
        refine x_aload_n dX9_traces_70 rfl rfl ?_
        refine x_getv (k30) dX9_traces_71 fX9_222 rfl rfl (by decide) ?_
        refine x_if_neN (tgt := 88) dX9_traces_74 (by decide) (by omega) (fun hc => ?_) (fun hc => ?_)
        · rw [if_neg (fun e => hc e.2)] at ih
          refine x_aload_n dX9_traces_88 rfl rfl ?_
          refine x_getv (k31) dX9_traces_89 fX9_225 rfl rfl (by decide) ?_
          refine x_put dX9_traces_92 pX9_225 rfl rfl (by decide) rfl rfl ?_
          refine x_aload_n dX9_traces_95 rfl rfl ?_
          refine x_dup dX9_traces_96 rfl ?_
          refine x_getv (sau_v (by decide) k30) dX9_traces_97 fX9_222 rfl rfl (by decide) ?_
          refine x_iload_n dX9_traces_100 rfl rfl ?_
          refine x_if_eqB (tgt := 108) dX9_traces_101 (by decide) (fun hc => ?_) (fun hc => ?_)
          · rw [hyes] at hc; cases hc
          · refine x_iconst (v := nI 1) dX9_traces_104 (by decide) ?_
            refine x_goto (tgt := 109) dX9_traces_105 (by decide) ?_
            refine x_iaddN dX9_traces_109 ?_
            refine x_put dX9_traces_110 pX9_222 rfl rfl (by decide) rfl rfl ?_
            refine xinc4_2N dX9_traces_113 rfl ?_
            refine x_goto (tgt := 31) dX9_traces_116 (by decide) ?_
            refine ih _ _ ((hN3'.up (by decide)).up (by decide)) ?_ ?_
            · rw [sa_1, pk_us]
            · rw [sa_1, pk_un (by decide), sa_1, pk_us]
        · rw [if_pos ⟨rfl, hc⟩] at ih
          refine x_aload_n dX9_traces_77 rfl rfl ?_
          refine x_aload_n dX9_traces_78 rfl rfl ?_
          refine x_getr dX9_traces_79 fX9_37 rfl rfl (by decide) ?_
          refine x_callVi dX9_traces_82 mvX9_figuresOf kX9_156 (c_figuresOf E (d + 1) N3 50 n q (wn n i) (hN3'.f (by decide) f1) hP3) rfl (by decide) (by omega) rfl rfl (Nat.le_of_ble_eq_true rfl) ?_
          rintro _ _ ⟨rfl, rfl⟩
          refine x_goto (tgt := 92) dX9_traces_85 (by decide) ?_
          refine x_put dX9_traces_92 pX9_225 rfl rfl (by decide) rfl rfl ?_
          refine x_aload_n dX9_traces_95 rfl rfl ?_
          refine x_dup dX9_traces_96 rfl ?_
          refine x_getv (sau_v (by decide) k30) dX9_traces_97 fX9_222 rfl rfl (by decide) ?_
          refine x_iload_n dX9_traces_100 rfl rfl ?_
          refine x_if_eqB (tgt := 108) dX9_traces_101 (by decide) (fun hc => ?_) (fun hc => ?_)
          · rw [hyes] at hc; cases hc
          · refine x_iconst (v := nI 1) dX9_traces_104 (by decide) ?_
            refine x_goto (tgt := 109) dX9_traces_105 (by decide) ?_
            refine x_iaddN dX9_traces_109 ?_
            refine x_put dX9_traces_110 pX9_222 rfl rfl (by decide) rfl rfl ?_
            refine xinc4_2N dX9_traces_113 rfl ?_
            refine x_goto (tgt := 31) dX9_traces_116 (by decide) ?_
            refine ih _ _ ((hN3'.up (by decide)).up (by decide)) ?_ ?_
            · rw [sa_1, pk_us]
            · rw [sa_1, pk_un (by decide), sa_1, pk_us]
  refine key 0 (Nat.zero_le _) _ _ ((Fa.rf.up (by decide)).up (by decide)) ?_ ?_
  · rw [sa_1, pk_un (by decide), sa_1, pk_us]; rfl
  · rw [sa_1, pk_us]; rfl
/-- what one has that pulls or not -/
def plr (half own its m : Nat) : Nat := if own = 1 ∧ its = 0 then (if (if half = 0 then m else 5 - m) < 5 then (if half = 0 then m else 5 - m) + 1 else (if half = 0 then m else 5 - m)) else if own = 0 ∧ its = 1 then (if half = 0 then m else 5 - m) - 1 else (if half = 0 then m else 5 - m)
def plA (w : Nat → Nat) (half own its n : Nat) : Nat := fb_sm (fun r => plr half own its (w r)) n
theorem plr_le {half own its m : Nat} (h : m ≤ 5) : plr half own its m ≤ 5 := by unfold plr; repeat (first | split | omega)
theorem plA_le {w : Nat → Nat} {half own its n : Nat} (hn : n ≤ 5) (hw : ∀ r, r < n → w r ≤ 5) : plA w half own its n ≤ 25 := by
  have h1 : plA w half own its n ≤ n * 5 := fb_sm_bound (fun k hk => plr_le (hw k hk))
  omega
set_option maxHeartbeats 8000000 in
theorem c_pulled (E : Ev) (d : Nat) (M : PM) (n h o t : Nat) (q w : Nat → Nat) (hn : M.1 40 4 = nI n) (hp : Pg M 49 n q w) (hh : h < 2) (ho : o < 2) (ht : t < 2) : Ci E d mX9_pulled [.ref (ad E 40), .int (nI h), .int (nI o), .int (nI t)] M (fun v N => v = nI (plA w h o t n) - nI (2 * o) ∧ M = N) := by
  have hn5 := hp.2.2.1
  refine Ct.ofi [some (.ref (ad E 40)), some (.int (nI h)), some (.int (nI o)), some (.int (nI t)), none, none, none] (own := RX9) rfl (by decide) (Nat.le_of_ble_eq_true rfl) rfl (fun C hR => ?_)
  refine x_iconst (v := nI 0) dX9_pulled_0 (by decide) ?_
  refine xis7_4 dX9_pulled_1 rfl ?_
  refine x_iconst (v := nI 0) dX9_pulled_3 (by decide) ?_
  refine xis7_5 dX9_pulled_4 rfl ?_
  have key : ∀ r, r ≤ n → ∀ l6, X E d RX9 cX9_pulled 7 C 6 [some (.ref (ad E 40)), some (.int (nI h)), some (.int (nI o)), some (.int (nI t)), some (.int (nI (plA w h o t r))), some (.int (nI r)), l6] [] M := by
    refine up_loop n ?_ ?_
    · intro l6
      refine x_iload dX9_pulled_6 rfl ?_
      refine x_aload_n dX9_pulled_8 rfl rfl ?_
      refine x_getv (hn) dX9_pulled_9 fX9_114 rfl rfl (by decide) ?_
      refine x_icmp_geN (tgt := 102) dX9_pulled_12 (by decide) (by omega) (by omega) (fun hc => ?_) (fun hc => ?_)
      · refine x_iload dX9_pulled_102 rfl ?_
        refine x_iconst (v := nI 2) dX9_pulled_104 (by decide) ?_
        refine x_iload_n dX9_pulled_105 rfl rfl ?_
        refine x_imulN dX9_pulled_106 ?_
        refine x_isub dX9_pulled_107 ?_
        exact hR _ _ _ _ dX9_pulled_108 (⟨rfl, rfl⟩)
      · exact absurd hc (by omega)
    · intro r hr ih l6
      have hwr := hp.2.2.2.2 r hr
      rw [show plA w h o t (r + 1) = plA w h o t r + plr h o t (w r) from rfl] at ih
      refine x_iload dX9_pulled_6 rfl ?_
      refine x_aload_n dX9_pulled_8 rfl rfl ?_
      refine x_getv (hn) dX9_pulled_9 fX9_114 rfl rfl (by decide) ?_
      refine x_icmp_geN (tgt := 102) dX9_pulled_12 (by decide) (by omega) (by omega) (fun hc => ?_) (fun hc => ?_)
      · exact absurd hc (by omega)
      have fin : ∀ m', m' = plr h o t (w r) → X E d RX9 cX9_pulled 7 C 89 [some (.ref (ad E 40)), some (.int (nI h)), some (.int (nI o)), some (.int (nI t)), some (.int (nI (plA w h o t r))), some (.int (nI r)), some (.int (nI m'))] [] M := by
        intro m' e
        refine x_iload dX9_pulled_89 rfl ?_
        refine x_iload dX9_pulled_91 rfl ?_
        refine x_iaddN dX9_pulled_93 ?_
        refine xis7_4 dX9_pulled_94 rfl ?_
        refine xinc7_5N dX9_pulled_96 rfl ?_
        refine x_goto (tgt := 6) dX9_pulled_99 (by decide) ?_
        rw [e]
        exact ih _
      have mid : ∀ m, m = (if h = 0 then w r else 5 - w r) → X E d RX9 cX9_pulled 7 C 40 [some (.ref (ad E 40)), some (.int (nI h)), some (.int (nI o)), some (.int (nI t)), some (.int (nI (plA w h o t r))), some (.int (nI r)), some (.int (nI m))] [] M := by
        intro m em
        have hm5 : m ≤ 5 := by rw [em]; split <;> omega
        have sec : ∀ m1, (o = 0 → m1 = m) → (¬ (o = 0 ∧ t = 1) → m1 = plr h o t (w r)) → m1 ≤ 6 → X E d RX9 cX9_pulled 7 C 65 [some (.ref (ad E 40)), some (.int (nI h)), some (.int (nI o)), some (.int (nI t)), some (.int (nI (plA w h o t r))), some (.int (nI r)), some (.int (nI m1))] [] M := by
          intro m1 h0 h1 h6
          refine x_iload_n dX9_pulled_65 rfl rfl ?_
          refine x_if_neN (tgt := 89) dX9_pulled_66 (by decide) (by omega) (fun hc => ?_) (fun hc => ?_)
          · exact fin m1 (h1 (by omega))
          have ho0 := hc
          refine x_iload_n dX9_pulled_69 rfl rfl ?_
          refine x_iconst (v := nI 1) dX9_pulled_70 (by decide) ?_
          refine x_icmp_neN (tgt := 89) dX9_pulled_71 (by decide) (by omega) (by omega) (fun hc => ?_) (fun hc => ?_)
          · exact fin m1 (h1 (by omega))
          have ht1 : t = 1 := hc
          have ep : plr h o t (w r) = m - 1 := by unfold plr; rw [if_neg (by omega), if_pos ⟨ho0, ht1⟩, ← em]
          have hm := h0 ho0
          refine x_iload dX9_pulled_74 rfl ?_
          refine x_iload dX9_pulled_76 rfl ?_
          refine x_if_leN (tgt := 85) dX9_pulled_78 (by decide) (by omega) (fun hc => ?_) (fun hc => ?_)
          · refine x_iconst (v := nI 0) dX9_pulled_85 (by decide) ?_
            refine x_isubN dX9_pulled_86 (by omega) ?_
            refine xis7_6 dX9_pulled_87 rfl ?_
            exact fin _ (by omega)
          · refine x_iconst (v := nI 1) dX9_pulled_81 (by decide) ?_
            refine x_goto (tgt := 86) dX9_pulled_82 (by decide) ?_
            refine x_isubN dX9_pulled_86 (by omega) ?_
            refine xis7_6 dX9_pulled_87 rfl ?_
            exact fin _ (by omega)
        refine x_iload_n dX9_pulled_40 rfl rfl ?_
        refine x_iconst (v := nI 1) dX9_pulled_41 (by decide) ?_
        refine x_icmp_neN (tgt := 65) dX9_pulled_42 (by decide) (by omega) (by omega) (fun hc => ?_) (fun hc => ?_)
        · exact sec m (fun _ => rfl) (fun e => by unfold plr; rw [if_neg (by omega), if_neg e, ← em]) (by omega)
        have ho1 : o = 1 := hc
        refine x_iload_n dX9_pulled_45 rfl rfl ?_
        refine x_if_neN (tgt := 65) dX9_pulled_46 (by decide) (by omega) (fun hc => ?_) (fun hc => ?_)
        · exact sec m (fun _ => rfl) (fun e => by unfold plr; rw [if_neg (by omega), if_neg e, ← em]) (by omega)
        have ht0 : t = 0 := hc
        refine x_iload dX9_pulled_49 rfl ?_
        refine x_iload dX9_pulled_51 rfl ?_
        refine x_iconst (v := nI 5) dX9_pulled_53 (by decide) ?_
        refine x_icmp_geN (tgt := 61) dX9_pulled_54 (by decide) (by omega) (by omega) (fun hc => ?_) (fun hc => ?_)
        · refine x_iconst (v := nI 0) dX9_pulled_61 (by decide) ?_
          refine x_iaddN dX9_pulled_62 ?_
          refine xis7_6 dX9_pulled_63 rfl ?_
          exact sec _ (fun e => by omega) (fun _ => by unfold plr; rw [if_pos ⟨ho1, ht0⟩, ← em, if_neg (by omega)]; rfl) (by omega)
        · refine x_iconst (v := nI 1) dX9_pulled_57 (by decide) ?_
          refine x_goto (tgt := 62) dX9_pulled_58 (by decide) ?_
          refine x_iaddN dX9_pulled_62 ?_
          refine xis7_6 dX9_pulled_63 rfl ?_
          exact sec _ (fun e => by omega) (fun _ => by unfold plr; rw [if_pos ⟨ho1, ht0⟩, ← em, if_pos (by omega)]) (by omega)
      refine x_iload_n dX9_pulled_15 rfl rfl ?_
      refine x_if_neN (tgt := 29) dX9_pulled_16 (by decide) (by omega) (fun hc => ?_) (fun hc => ?_)
      · refine x_iconst (v := nI 5) dX9_pulled_29 (by decide) ?_
        refine x_aload_n dX9_pulled_30 rfl rfl ?_
        refine x_getr dX9_pulled_31 fX9_34 rfl rfl (by decide) ?_
        refine x_iload dX9_pulled_34 rfl ?_
        refine x_ialdN dX9_pulled_36 rfl (by decide) (by omega) (by decide) (hwr.1) ?_
        refine x_isubN dX9_pulled_37 (by omega) ?_
        refine xis7_6 dX9_pulled_38 rfl ?_
        exact mid _ (by rw [if_neg hc])
      · refine x_aload_n dX9_pulled_19 rfl rfl ?_
        refine x_getr dX9_pulled_20 fX9_34 rfl rfl (by decide) ?_
        refine x_iload dX9_pulled_23 rfl ?_
        refine x_ialdN dX9_pulled_25 rfl (by decide) (by omega) (by decide) (hwr.1) ?_
        refine x_goto (tgt := 38) dX9_pulled_26 (by decide) ?_
        refine xis7_6 dX9_pulled_38 rfl ?_
        exact mid _ (by rw [if_pos hc])
  exact key 0 (by omega) _
/-- a pair at rest -/
def rsA (w : Nat → Nat) (n a b : Nat) : Bool := decide (((plA w 0 (1 - a) b n : Int) - 2 * ((1 - a : Nat) : Int) ≤ (plA w 0 a b n : Int) - 2 * (a : Int)) ∧ ((plA w 1 (1 - b) a n : Int) - 2 * ((1 - b : Nat) : Int) ≤ (plA w 1 b a n : Int) - 2 * (b : Int)))
def rsC (w : Nat → Nat) (n k : Nat) : Nat := fb_sm (fun k => if rsA w n (k / 2) (k % 2) = true then 1 else 0) k
def rsF (w : Nat → Nat) (n : Nat) : Nat → Int32
  | 0 => -9
  | k + 1 => if rsA w n (k / 2) (k % 2) = true ∧ rsC w n k = 0 then nI (10 * (k / 2) + k % 2) else rsF w n k
theorem pl_toInt {w : Nat → Nat} {h o t n : Nat} (hn : n ≤ 5) (hw : ∀ r, r < n → w r ≤ 5) (ho : o < 2) : (nI (plA w h o t n) - nI (2 * o)).toInt = (plA w h o t n : Int) - 2 * (o : Int) := by
  have := plA_le (half := h) (own := o) (its := t) hn hw
  rw [pk_sub_toInt (by omega) (by omega)]
  omega
set_option maxHeartbeats 8000000 in
theorem cM_rests_no (E : Ev) (d : Nat) (M : PM) (x : Int32) (hT : M.1 40 0 = nI 0) (hx : ¬ inR x 2) : Ci E (d + 1) mX9_rests [.ref (ad E 40), .int x] M (fun v N => v = -2 ∧ M = N) := by
  refine Ct.ofi [some (.ref (ad E 40)), some (.int x), none, none, none] (own := RX9) rfl (by decide) (Nat.le_of_ble_eq_true rfl) rfl (fun C hR => ?_)
  refine x_aload_n dX9_rests_0 rfl rfl ?_
  refine x_iconst (v := nI 0) dX9_rests_1 (by decide) ?_
  refine x_put dX9_rests_2 pX9_68 rfl rfl (by decide) rfl rfl ?_
  rw [thr hT]
  refine x_iload_n dX9_rests_5 rfl rfl ?_
  refine x_i2l dX9_rests_6 ?_
  refine x_lconst (v := 0) dX9_rests_7 rfl ?_
  refine x_lconst (v := 1) dX9_rests_8 rfl ?_
  refine x_callSi dX9_rests_9 msX9_in kX9_74 (c_in3 E d M x _ _ 0 1 rfl rfl) (by omega) rfl rfl (Nat.le_of_ble_eq_true rfl) ?_
  rintro _ _ ⟨rfl, rfl⟩
  refine x_if_neB (tgt := 18) dX9_rests_12 (by decide) (fun hc => ?_) (fun hc => ?_)
  · exact absurd (of_decide_eq_true hc) (by omega)
  · refine x_bipush (v := -2) dX9_rests_15 (by decide) ?_
    exact hR _ _ _ _ dX9_rests_17 (⟨rfl, rfl⟩)
set_option maxHeartbeats 8000000 in
theorem cM_rests (E : Ev) (d : Nat) (M : PM) (n x : Nat) (q w : Nat → Nat) (hT : M.1 40 0 = nI 0) (hn : M.1 40 4 = nI n) (hp : Pg M 49 n q w) (hx : x < 2) : Ci E (d + 1) mX9_rests [.ref (ad E 40), .int (nI x)] M (fun v N => v = (if x = 0 then nI (rsC w n 4) else rsF w n 4) ∧ Fa M N [] [32, 33]) := by
  have hn5 := hp.2.2.1
  have hw5 : ∀ r, r < n → w r ≤ 5 := fun r hr => (hp.2.2.2.2 r hr).2
  have hxt : (nI x).toInt = (x : Int) := nI_toInt (by omega)
  refine Ct.ofi [some (.ref (ad E 40)), some (.int (nI x)), none, none, none] (own := RX9) rfl (by decide) (Nat.le_of_ble_eq_true rfl) rfl (fun C hR => ?_)
  refine x_aload_n dX9_rests_0 rfl rfl ?_
  refine x_iconst (v := nI 0) dX9_rests_1 (by decide) ?_
  refine x_put dX9_rests_2 pX9_68 rfl rfl (by decide) rfl rfl ?_
  rw [thr hT]
  refine x_iload_n dX9_rests_5 rfl rfl ?_
  refine x_i2l dX9_rests_6 ?_
  refine x_lconst (v := 0) dX9_rests_7 rfl ?_
  refine x_lconst (v := 1) dX9_rests_8 rfl ?_
  refine x_callSi dX9_rests_9 msX9_in kX9_74 (c_in3 E d M _ _ _ 0 1 rfl rfl) (by omega) rfl rfl (Nat.le_of_ble_eq_true rfl) ?_
  rintro _ _ ⟨rfl, rfl⟩
  refine x_if_neB (tgt := 18) dX9_rests_12 (by decide) (fun hc => ?_) (fun hc => ?_)
  rotate_left
  · exact absurd (of_decide_eq_false hc) (by omega)
  refine x_aload_n dX9_rests_18 rfl rfl ?_
  refine x_iconst (v := nI 0) dX9_rests_19 (by decide) ?_
  refine x_put dX9_rests_20 pX9_231 rfl rfl (by decide) rfl rfl ?_
  refine x_aload_n dX9_rests_23 rfl rfl ?_
  refine x_bipush (v := -9) dX9_rests_24 (by decide) ?_
  refine x_put dX9_rests_26 pX9_234 rfl rfl (by decide) rfl rfl ?_
  refine x_iconst (v := nI 0) dX9_rests_29 (by decide) ?_
  refine xis5_2 dX9_rests_30 rfl ?_
  have key : ∀ a, a ≤ 2 → ∀ N l3 l4, Fa M N [] [32, 33] → N.1 40 32 = nI (rsC w n (2 * a)) → N.1 40 33 = rsF w n (2 * a) → X E (d + 1) RX9 cX9_rests 5 C 31 [some (.ref (ad E 40)), some (.int (nI x)), some (.int (nI a)), l3, l4] [] N := by
    refine up_loop 2 ?_ ?_
    · intro N l3 l4 hN h32 h33
      refine x_iload_n dX9_rests_31 rfl rfl ?_
      refine x_iconst (v := nI 2) dX9_rests_32 (by decide) ?_
      refine x_icmp_geN (tgt := 148) dX9_rests_33 (by decide) (by omega) (by omega) (fun hc => ?_) (fun hc => ?_)
      · refine x_iload_n dX9_rests_148 rfl rfl ?_
        refine x_if_neN (tgt := 159) dX9_rests_149 (by decide) (by omega) (fun hc => ?_) (fun hc => ?_)
        · refine x_aload_n dX9_rests_159 rfl rfl ?_
          refine x_getv (h33) dX9_rests_160 fX9_234 rfl rfl (by decide) ?_
          exact hR _ _ _ _ dX9_rests_163 (⟨by rw [if_neg hc], hN⟩)
        · refine x_aload_n dX9_rests_152 rfl rfl ?_
          refine x_getv (h32) dX9_rests_153 fX9_231 rfl rfl (by decide) ?_
          refine x_goto (tgt := 163) dX9_rests_156 (by decide) ?_
          exact hR _ _ _ _ dX9_rests_163 (⟨by rw [if_pos hc], hN⟩)
      · exact absurd hc (by omega)
    · intro a ha ih N l3 l4 hN h32 h33
      refine x_iload_n dX9_rests_31 rfl rfl ?_
      refine x_iconst (v := nI 2) dX9_rests_32 (by decide) ?_
      refine x_icmp_geN (tgt := 148) dX9_rests_33 (by decide) (by omega) (by omega) (fun hc => ?_) (fun hc => ?_)
      · exact absurd hc (by omega)
      refine x_iconst (v := nI 0) dX9_rests_36 (by decide) ?_
      refine xis5_3 dX9_rests_37 rfl ?_
      have key2 : ∀ b, b ≤ 2 → ∀ N l4, Fa M N [] [32, 33] → N.1 40 32 = nI (rsC w n (2 * a + b)) → N.1 40 33 = rsF w n (2 * a + b) → X E (d + 1) RX9 cX9_rests 5 C 38 [some (.ref (ad E 40)), some (.int (nI x)), some (.int (nI a)), some (.int (nI b)), l4] [] N := by
        refine up_loop 2 ?_ ?_
        · intro N l4 hN h32 h33
          refine x_iload_n dX9_rests_38 rfl rfl ?_
          refine x_iconst (v := nI 2) dX9_rests_39 (by decide) ?_
          refine x_icmp_geN (tgt := 142) dX9_rests_40 (by decide) (by omega) (by omega) (fun hc => ?_) (fun hc => ?_)
          · refine xinc5_2N dX9_rests_142 rfl ?_
            refine x_goto (tgt := 31) dX9_rests_145 (by decide) ?_
            exact ih N _ _ hN h32 h33
          · exact absurd hc (by omega)
        · intro b hb ih2 N l4 hN h32 h33
          have hP2 : Pg N 49 n q w := hp.to (hN.2.1 49 (by decide) (by decide))
          have hn2 := hN.f (k := 4) (by decide) hn
          have ediv : (2 * a + b) / 2 = a := by omega
          have emod : (2 * a + b) % 2 = b := by omega
          rw [show 2 * a + (b + 1) = (2 * a + b) + 1 by omega] at ih2
          rw [show rsC w n (2 * a + b + 1) = rsC w n (2 * a + b) + if rsA w n ((2 * a + b) / 2) ((2 * a + b) % 2) = true then 1 else 0 from rfl, show rsF w n (2 * a + b + 1) = if rsA w n ((2 * a + b) / 2) ((2 * a + b) % 2) = true ∧ rsC w n (2 * a + b) = 0 then nI (10 * ((2 * a + b) / 2) + (2 * a + b) % 2) else rsF w n (2 * a + b) from rfl, ediv, emod] at ih2
          have hcl : rsC w n (2 * a + b) ≤ (2 * a + b) * 1 := fb_sm_bound (fun j _ => by split <;> omega)
          have t1 := pl_toInt (h := 0) (o := 1 - a) (t := b) hn5 hw5 (by omega)
          have t2 := pl_toInt (h := 0) (o := a) (t := b) hn5 hw5 (by omega)
          have t3 := pl_toInt (h := 1) (o := 1 - b) (t := a) hn5 hw5 (by omega)
          have t4 := pl_toInt (h := 1) (o := b) (t := a) hn5 hw5 (by omega)
          refine x_iload_n dX9_rests_38 rfl rfl ?_
          refine x_iconst (v := nI 2) dX9_rests_39 (by decide) ?_
          refine x_icmp_geN (tgt := 142) dX9_rests_40 (by decide) (by omega) (by omega) (fun hc => ?_) (fun hc => ?_)
          · exact absurd hc (by omega)
          have fin : ∀ p : Bool, p = rsA w n a b → X E (d + 1) RX9 cX9_rests 5 C 86 [some (.ref (ad E 40)), some (.int (nI x)), some (.int (nI a)), some (.int (nI b)), l4] [.int (bI p)] N := by
            intro p hpp
            rw [← hpp] at ih2
            refine xis5_4 dX9_rests_86 rfl ?_
            refine x_aload_n dX9_rests_88 rfl rfl ?_
            refine x_iload dX9_rests_89 rfl ?_
            refine x_if_eqB (tgt := 110) dX9_rests_91 (by decide) (fun hc => ?_) (fun hc => ?_)
            · rw [hc, if_neg (by decide), if_neg (fun e => absurd e.1 (by decide)), Nat.add_zero] at ih2
              refine x_aload_n dX9_rests_110 rfl rfl ?_
              refine x_getv (h33) dX9_rests_111 fX9_234 rfl rfl (by decide) ?_
              refine x_put dX9_rests_114 pX9_234 rfl rfl (by decide) rfl rfl ?_
              refine x_aload_n dX9_rests_117 rfl rfl ?_
              refine x_dup dX9_rests_118 rfl ?_
              refine x_getv (sau_v (by decide) h32) dX9_rests_119 fX9_231 rfl rfl (by decide) ?_
              refine x_iload dX9_rests_122 rfl ?_
              have hc2 := hc
              refine x_if_eqB (tgt := 131) dX9_rests_124 (by decide) (fun hc => ?_) (fun hc => ?_)
              · refine x_iconst (v := nI 0) dX9_rests_131 (by decide) ?_
                refine x_iaddN dX9_rests_132 ?_
                refine x_put dX9_rests_133 pX9_231 rfl rfl (by decide) rfl rfl ?_
                refine xinc5_3N dX9_rests_136 rfl ?_
                refine x_goto (tgt := 38) dX9_rests_139 (by decide) ?_
                refine ih2 _ _ ((hN.up (by decide)).up (by decide)) ?_ ?_
                · rw [sa_1, pk_us, Nat.add_zero]
                · rw [sa_1, pk_un (by decide), sa_1, pk_us]
              · rw [hc2] at hc; cases hc
            · have hy := hc
              rw [hy, if_pos rfl] at ih2
              refine x_aload_n dX9_rests_94 rfl rfl ?_
              refine x_getv (h32) dX9_rests_95 fX9_231 rfl rfl (by decide) ?_
              refine x_if_neN (tgt := 110) dX9_rests_98 (by decide) (by omega) (fun hc => ?_) (fun hc => ?_)
              · rw [if_neg (fun e => hc e.2)] at ih2
                refine x_aload_n dX9_rests_110 rfl rfl ?_
                refine x_getv (h33) dX9_rests_111 fX9_234 rfl rfl (by decide) ?_
                refine x_put dX9_rests_114 pX9_234 rfl rfl (by decide) rfl rfl ?_
                refine x_aload_n dX9_rests_117 rfl rfl ?_
                refine x_dup dX9_rests_118 rfl ?_
                refine x_getv (sau_v (by decide) h32) dX9_rests_119 fX9_231 rfl rfl (by decide) ?_
                refine x_iload dX9_rests_122 rfl ?_
                refine x_if_eqB (tgt := 131) dX9_rests_124 (by decide) (fun hc => ?_) (fun hc => ?_)
                · rw [hy] at hc; cases hc
                · refine x_iconst (v := nI 1) dX9_rests_127 (by decide) ?_
                  refine x_goto (tgt := 132) dX9_rests_128 (by decide) ?_
                  refine x_iaddN dX9_rests_132 ?_
                  refine x_put dX9_rests_133 pX9_231 rfl rfl (by decide) rfl rfl ?_
                  refine xinc5_3N dX9_rests_136 rfl ?_
                  refine x_goto (tgt := 38) dX9_rests_139 (by decide) ?_
                  refine ih2 _ _ ((hN.up (by decide)).up (by decide)) ?_ ?_
                  · rw [sa_1, pk_us]
                  · rw [sa_1, pk_un (by decide), sa_1, pk_us]
              · rw [if_pos ⟨rfl, hc⟩] at ih2
                refine x_bipush (v := nI 10) dX9_rests_101 (by decide) ?_
                refine x_iload_n dX9_rests_103 rfl rfl ?_
                refine x_imulN dX9_rests_104 ?_
                refine x_iload_n dX9_rests_105 rfl rfl ?_
                refine x_iaddN dX9_rests_106 ?_
                refine x_goto (tgt := 114) dX9_rests_107 (by decide) ?_
                refine x_put dX9_rests_114 pX9_234 rfl rfl (by decide) rfl rfl ?_
                refine x_aload_n dX9_rests_117 rfl rfl ?_
                refine x_dup dX9_rests_118 rfl ?_
                refine x_getv (sau_v (by decide) h32) dX9_rests_119 fX9_231 rfl rfl (by decide) ?_
                refine x_iload dX9_rests_122 rfl ?_
                refine x_if_eqB (tgt := 131) dX9_rests_124 (by decide) (fun hc => ?_) (fun hc => ?_)
                · rw [hy] at hc; cases hc
                · refine x_iconst (v := nI 1) dX9_rests_127 (by decide) ?_
                  refine x_goto (tgt := 132) dX9_rests_128 (by decide) ?_
                  refine x_iaddN dX9_rests_132 ?_
                  refine x_put dX9_rests_133 pX9_231 rfl rfl (by decide) rfl rfl ?_
                  refine xinc5_3N dX9_rests_136 rfl ?_
                  refine x_goto (tgt := 38) dX9_rests_139 (by decide) ?_
                  refine ih2 _ _ ((hN.up (by decide)).up (by decide)) ?_ ?_
                  · rw [sa_1, pk_us]
                  · rw [sa_1, pk_un (by decide), sa_1, pk_us]
          refine x_aload_n dX9_rests_43 rfl rfl ?_
          refine x_iconst (v := nI 0) dX9_rests_44 (by decide) ?_
          refine x_iconst (v := nI 1) dX9_rests_45 (by decide) ?_
          refine x_iload_n dX9_rests_46 rfl rfl ?_
          refine x_isubN dX9_rests_47 (by omega) ?_
          refine x_iload_n dX9_rests_48 rfl rfl ?_
          refine x_callVi dX9_rests_49 mvX9_pulled kX9_237 (c_pulled E d N n 0 (1 - a) b q w hn2 hP2 (by decide) (by omega) (by omega)) rfl (by decide) (by omega) rfl rfl (Nat.le_of_ble_eq_true rfl) ?_
          rintro _ _ ⟨rfl, rfl⟩
          refine x_aload_n dX9_rests_52 rfl rfl ?_
          refine x_iconst (v := nI 0) dX9_rests_53 (by decide) ?_
          refine x_iload_n dX9_rests_54 rfl rfl ?_
          refine x_iload_n dX9_rests_55 rfl rfl ?_
          refine x_callVi dX9_rests_56 mvX9_pulled kX9_237 (c_pulled E d N n 0 a b q w hn2 hP2 (by decide) (by omega) (by omega)) rfl (by decide) (by omega) rfl rfl (Nat.le_of_ble_eq_true rfl) ?_
          rintro _ _ ⟨rfl, rfl⟩
          refine x_icmp_gt (tgt := 85) dX9_rests_59 (by decide) (fun hc => ?_) (fun hc => ?_)
          · rw [Int32.lt_iff_toInt_lt] at hc
            refine x_iconst (v := nI 0) dX9_rests_85 (by decide) ?_
            exact fin false (by unfold rsA; exact (decide_eq_false (fun e => by omega)).symm)
          rw [Int32.lt_iff_toInt_lt] at hc
          have g1 := hc
          refine x_aload_n dX9_rests_62 rfl rfl ?_
          refine x_iconst (v := nI 1) dX9_rests_63 (by decide) ?_
          refine x_iconst (v := nI 1) dX9_rests_64 (by decide) ?_
          refine x_iload_n dX9_rests_65 rfl rfl ?_
          refine x_isubN dX9_rests_66 (by omega) ?_
          refine x_iload_n dX9_rests_67 rfl rfl ?_
          refine x_callVi dX9_rests_68 mvX9_pulled kX9_237 (c_pulled E d N n 1 (1 - b) a q w hn2 hP2 (by decide) (by omega) (by omega)) rfl (by decide) (by omega) rfl rfl (Nat.le_of_ble_eq_true rfl) ?_
          rintro _ _ ⟨rfl, rfl⟩
          refine x_aload_n dX9_rests_71 rfl rfl ?_
          refine x_iconst (v := nI 1) dX9_rests_72 (by decide) ?_
          refine x_iload_n dX9_rests_73 rfl rfl ?_
          refine x_iload_n dX9_rests_74 rfl rfl ?_
          refine x_callVi dX9_rests_75 mvX9_pulled kX9_237 (c_pulled E d N n 1 b a q w hn2 hP2 (by decide) (by omega) (by omega)) rfl (by decide) (by omega) rfl rfl (Nat.le_of_ble_eq_true rfl) ?_
          rintro _ _ ⟨rfl, rfl⟩
          refine x_icmp_gt (tgt := 85) dX9_rests_78 (by decide) (fun hc => ?_) (fun hc => ?_)
          · rw [Int32.lt_iff_toInt_lt] at hc
            refine x_iconst (v := nI 0) dX9_rests_85 (by decide) ?_
            exact fin false (by unfold rsA; exact (decide_eq_false (fun e => by omega)).symm)
          · rw [Int32.lt_iff_toInt_lt] at hc
            refine x_iconst (v := nI 1) dX9_rests_81 (by decide) ?_
            refine x_goto (tgt := 86) dX9_rests_82 (by decide) ?_
            exact fin true (by unfold rsA; exact (decide_eq_true ⟨by omega, by omega⟩).symm)
      exact key2 0 (by omega) N _ hN h32 h33
  refine key 0 (by omega) _ _ _ ((Fa.rf.up (by decide)).up (by decide)) ?_ ?_
  · rw [sa_1, pk_un (by decide), sa_1, pk_us]; rfl
  · rw [sa_1, pk_us]; rfl
