-- ===== the component: what was seen, wires, picks, acts =====
theorem sus {M : PM} {c k : Nat} {v : Int32} : (sa M c (upd (M.1 c) k v)).1 c k = v := by rw [sa_1, pk_us]
def SnC (M : PM) (sn : Nat) (sk ss : Nat → Nat) : Prop := M.1 34 2 = nI sn ∧ sn ≤ 6 ∧ ∀ i, i < sn → M.1 35 i = nI (sk i) ∧ M.1 36 i = nI (ss i) ∧ sk i < 5 ∧ ss i < 3
set_option maxHeartbeats 8000000 in
theorem k_snAppend_no (E : Ev) (d : Nat) (M : PM) (k s : Int32) (h : M.1 34 2 = nI 6) : Ci E d mX3_append [.ref (ad E 34), .int k, .int s] M (fun v N => v = bI false ∧ M = N) := by
  refine Ct.ofz [some (.ref (ad E 34)), some (.int k), some (.int s)] (own := RX3) rfl (by decide) (Nat.le_of_ble_eq_true rfl) rfl (fun C hR => ?_)
  refine x_aload_n dX3_append_0 rfl rfl ?_
  refine x_getv (h) dX3_append_1 fX3_18 rfl rfl (by decide) ?_
  refine x_bipush (v := nI 6) dX3_append_4 (by decide) ?_
  refine x_icmp_ltN (tgt := 11) dX3_append_6 (by decide) (by omega) (by omega) (fun hc => ?_) (fun hc => ?_)
  · exact absurd hc (by omega)
  refine x_iconst (v := nI 0) dX3_append_9 (by decide) ?_
  exact hR _ _ _ _ dX3_append_10 (by first | exact bI_n _ | decide) (⟨rfl, rfl⟩)
set_option maxHeartbeats 8000000 in
theorem k_snAppend (E : Ev) (d : Nat) (M : PM) (sn k s : Nat) (sk ss : Nat → Nat) (h : SnC M sn sk ss) (h6 : sn < 6) (hk : k < 5) (hs : s < 3) : Ci E d mX3_append [.ref (ad E 34), .int (nI k), .int (nI s)] M (fun v N => v = bI true ∧ Fr M N [34, 35, 36] ∧ SnC N (sn + 1) (uf sk sn k) (uf ss sn s)) := by
  obtain ⟨s1, s2, s3⟩ := h
  refine Ct.ofz [some (.ref (ad E 34)), some (.int (nI k)), some (.int (nI s))] (own := RX3) rfl (by decide) (Nat.le_of_ble_eq_true rfl) rfl (fun C hR => ?_)
  refine x_aload_n dX3_append_0 rfl rfl ?_
  refine x_getv (s1) dX3_append_1 fX3_18 rfl rfl (by decide) ?_
  refine x_bipush (v := nI 6) dX3_append_4 (by decide) ?_
  refine x_icmp_ltN (tgt := 11) dX3_append_6 (by decide) (by omega) (by omega) (fun hc => ?_) (fun hc => ?_)
  rotate_left
  · exact absurd hc (by omega)
  refine x_aload_n dX3_append_11 rfl rfl ?_
  refine x_getr dX3_append_12 fX3_9 rfl rfl (by decide) ?_
  refine x_aload_n dX3_append_15 rfl rfl ?_
  refine x_getv (s1) dX3_append_16 fX3_18 rfl rfl (by decide) ?_
  refine x_iload_n dX3_append_19 rfl rfl ?_
  refine x_iastN dX3_append_20 rfl (by decide) (by omega) (by decide) ?_
  refine x_aload_n dX3_append_21 rfl rfl ?_
  refine x_getr dX3_append_22 fX3_15 rfl rfl (by decide) ?_
  refine x_aload_n dX3_append_25 rfl rfl ?_
  refine x_getv (sa_v (by decide) s1) dX3_append_26 fX3_18 rfl rfl (by decide) ?_
  refine x_iload_n dX3_append_29 rfl rfl ?_
  refine x_iastN dX3_append_30 rfl (by decide) (by omega) (by decide) ?_
  refine x_aload_n dX3_append_31 rfl rfl ?_
  refine x_dup dX3_append_32 rfl ?_
  refine x_getv (sa_v (by decide) (sa_v (by decide) s1)) dX3_append_33 fX3_18 rfl rfl (by decide) ?_
  refine x_iconst (v := nI 1) dX3_append_36 (by decide) ?_
  refine x_iaddN dX3_append_37 ?_
  refine x_put dX3_append_38 pX3_18 rfl rfl (by decide) rfl rfl ?_
  refine x_iconst (v := nI 1) dX3_append_41 (by decide) ?_
  refine hR _ _ _ _ dX3_append_42 (by decide) ⟨rfl, ((Fr.rf.sa (by decide)).sa (by decide)).sa (by decide), sus, by omega, fun i hi => ?_⟩
  rw [sa_ne (by decide), sa_ne (by decide), sa_1, sa_ne (by decide), sa_1, sa_ne (by decide)]
  unfold uf
  by_cases e : i = sn
  · subst e; rw [pk_us, pk_us, if_pos rfl, if_pos rfl]; exact ⟨rfl, rfl, hk, hs⟩
  · rw [pk_un e, pk_un e, if_neg e, if_neg e]; exact s3 i (by omega)
set_option maxHeartbeats 8000000 in
theorem k_isSo (E : Ev) (d : Nat) (M : PM) (n k s : Nat) (q w : Nat → Nat) (hn5 : n ≤ 5) (hl : LdC M n q w) (hk : k < 5) (hs : s < 3) : Ci E (d + 1) mX3_isSo [.ref (ad E 31), .int (nI k), .int (nI s)] M (fun v N => v = bI (decide (sdA q w n k = s)) ∧ M = N) := by
  have b1 := lf_le (q := q) (w := w) (k := k) hn5
  have b2 := rg_le (q := q) (w := w) (k := k) hn5
  refine Ct.ofz [some (.ref (ad E 31)), some (.int (nI k)), some (.int (nI s)), none, none] (own := RX3) rfl (by decide) (Nat.le_of_ble_eq_true rfl) rfl (fun C hR => ?_)
  have cont : ∀ a b : Bool, decide (sdA q w n k = s) = (if s = 0 then a && !b else if s = 1 then b && !a else a && b) → X E (d + 1) RX3 cX3_isSo 5 C 31 [some (.ref (ad E 31)), some (.int (nI k)), some (.int (nI s)), some (.int (bI a)), some (.int (bI b))] [] M := by
    intro a b e
    refine x_iload_n dX3_isSo_31 rfl rfl ?_
    rcases (show s = 0 ∨ s = 1 ∨ s = 2 by omega) with rfl | rfl | rfl
    · rw [if_pos rfl] at e
      refine x_lookup (off := 28) (tgt := 60) dX3_isSo_32 (by decide) (by decide) (by decide) ?_
      refine x_iload_n dX3_isSo_60 rfl rfl ?_
      refine x_if_eqB (tgt := 73) dX3_isSo_61 (by decide) (fun hc => ?_) (fun hc => ?_)
      · refine x_iconst (v := nI 0) dX3_isSo_73 (by decide) ?_
        exact hR _ _ _ _ dX3_isSo_74 (by first | exact bI_n _ | decide) (⟨by rw [e, hc]; rfl, rfl⟩)
      have g := hc
      refine x_iload dX3_isSo_64 rfl ?_
      refine x_if_neB (tgt := 73) dX3_isSo_66 (by decide) (fun hc => ?_) (fun hc => ?_)
      · refine x_iconst (v := nI 0) dX3_isSo_73 (by decide) ?_
        exact hR _ _ _ _ dX3_isSo_74 (by first | exact bI_n _ | decide) (⟨by rw [e, g, hc]; rfl, rfl⟩)
      · refine x_iconst (v := nI 1) dX3_isSo_69 (by decide) ?_
        refine x_goto (tgt := 74) dX3_isSo_70 (by decide) ?_
        exact hR _ _ _ _ dX3_isSo_74 (by first | exact bI_n _ | decide) (⟨by rw [e, g, hc]; rfl, rfl⟩)
    · rw [if_neg (by decide), if_pos rfl] at e
      refine x_lookup (off := 43) (tgt := 75) dX3_isSo_32 (by decide) (by decide) (by decide) ?_
      refine x_iload dX3_isSo_75 rfl ?_
      refine x_if_eqB (tgt := 88) dX3_isSo_77 (by decide) (fun hc => ?_) (fun hc => ?_)
      · refine x_iconst (v := nI 0) dX3_isSo_88 (by decide) ?_
        exact hR _ _ _ _ dX3_isSo_89 (by first | exact bI_n _ | decide) (⟨by rw [e, hc]; rfl, rfl⟩)
      have g := hc
      refine x_iload_n dX3_isSo_80 rfl rfl ?_
      refine x_if_neB (tgt := 88) dX3_isSo_81 (by decide) (fun hc => ?_) (fun hc => ?_)
      · refine x_iconst (v := nI 0) dX3_isSo_88 (by decide) ?_
        exact hR _ _ _ _ dX3_isSo_89 (by first | exact bI_n _ | decide) (⟨by rw [e, g, hc]; rfl, rfl⟩)
      · refine x_iconst (v := nI 1) dX3_isSo_84 (by decide) ?_
        refine x_goto (tgt := 89) dX3_isSo_85 (by decide) ?_
        exact hR _ _ _ _ dX3_isSo_89 (by first | exact bI_n _ | decide) (⟨by rw [e, g, hc]; rfl, rfl⟩)
    · rw [if_neg (by decide), if_neg (by decide)] at e
      refine x_lookup (off := 58) (tgt := 90) dX3_isSo_32 (by decide) (by decide) (by decide) ?_
      refine x_iload_n dX3_isSo_90 rfl rfl ?_
      refine x_if_eqB (tgt := 103) dX3_isSo_91 (by decide) (fun hc => ?_) (fun hc => ?_)
      · refine x_iconst (v := nI 0) dX3_isSo_103 (by decide) ?_
        exact hR _ _ _ _ dX3_isSo_104 (by first | exact bI_n _ | decide) (⟨by rw [e, hc]; rfl, rfl⟩)
      have g := hc
      refine x_iload dX3_isSo_94 rfl ?_
      refine x_if_eqB (tgt := 103) dX3_isSo_96 (by decide) (fun hc => ?_) (fun hc => ?_)
      · refine x_iconst (v := nI 0) dX3_isSo_103 (by decide) ?_
        exact hR _ _ _ _ dX3_isSo_104 (by first | exact bI_n _ | decide) (⟨by rw [e, g, hc]; rfl, rfl⟩)
      · refine x_iconst (v := nI 1) dX3_isSo_99 (by decide) ?_
        refine x_goto (tgt := 104) dX3_isSo_100 (by decide) ?_
        exact hR _ _ _ _ dX3_isSo_104 (by first | exact bI_n _ | decide) (⟨by rw [e, g, hc]; rfl, rfl⟩)
  refine x_aload_n dX3_isSo_0 rfl rfl ?_
  refine x_iconst (v := nI 0) dX3_isSo_1 (by decide) ?_
  refine x_iload_n dX3_isSo_2 rfl rfl ?_
  refine x_callVi dX3_isSo_3 mvX5_cellsIn kX3_26 (k_cellsIn E d M n 0 k q w hl (by decide) hk) rfl (by decide) (by omega) rfl rfl (Nat.le_of_ble_eq_true rfl) ?_
  rintro _ _ ⟨rfl, rfl⟩
  rw [if_pos rfl]
  refine x_if_leN (tgt := 13) dX3_isSo_6 (by decide) (by omega) (fun hc => ?_) (fun hc => ?_)
  · have g := hc
    refine x_iconst (v := nI 0) dX3_isSo_13 (by decide) ?_
    refine xis5_3 dX3_isSo_14 rfl ?_
    refine x_aload_n dX3_isSo_15 rfl rfl ?_
    refine x_iconst (v := nI 1) dX3_isSo_16 (by decide) ?_
    refine x_iload_n dX3_isSo_17 rfl rfl ?_
    refine x_callVi dX3_isSo_18 mvX5_cellsIn kX3_26 (k_cellsIn E d M n 1 k q w hl (by decide) hk) rfl (by decide) (by omega) rfl rfl (Nat.le_of_ble_eq_true rfl) ?_
    rintro _ _ ⟨rfl, rfl⟩
    rw [if_neg (by decide)]
    refine x_if_leN (tgt := 28) dX3_isSo_21 (by decide) (by omega) (fun hc => ?_) (fun hc => ?_)
    · refine x_iconst (v := nI 0) dX3_isSo_28 (by decide) ?_
      refine xis5_4 dX3_isSo_29 rfl ?_
      exact cont false false (by unfold sdA; rw [if_neg (by omega), if_neg (by omega)]; rcases (show s = 0 ∨ s = 1 ∨ s = 2 by omega) with rfl | rfl | rfl <;> rfl)
    · refine x_iconst (v := nI 1) dX3_isSo_24 (by decide) ?_
      refine x_goto (tgt := 29) dX3_isSo_25 (by decide) ?_
      refine xis5_4 dX3_isSo_29 rfl ?_
      exact cont false true (by unfold sdA; rw [if_neg (by omega), if_pos (by omega)]; rcases (show s = 0 ∨ s = 1 ∨ s = 2 by omega) with rfl | rfl | rfl <;> rfl)
  · have g := hc
    refine x_iconst (v := nI 1) dX3_isSo_9 (by decide) ?_
    refine x_goto (tgt := 14) dX3_isSo_10 (by decide) ?_
    refine xis5_3 dX3_isSo_14 rfl ?_
    refine x_aload_n dX3_isSo_15 rfl rfl ?_
    refine x_iconst (v := nI 1) dX3_isSo_16 (by decide) ?_
    refine x_iload_n dX3_isSo_17 rfl rfl ?_
    refine x_callVi dX3_isSo_18 mvX5_cellsIn kX3_26 (k_cellsIn E d M n 1 k q w hl (by decide) hk) rfl (by decide) (by omega) rfl rfl (Nat.le_of_ble_eq_true rfl) ?_
    rintro _ _ ⟨rfl, rfl⟩
    rw [if_neg (by decide)]
    refine x_if_leN (tgt := 28) dX3_isSo_21 (by decide) (by omega) (fun hc => ?_) (fun hc => ?_)
    · refine x_iconst (v := nI 0) dX3_isSo_28 (by decide) ?_
      refine xis5_4 dX3_isSo_29 rfl ?_
      exact cont true false (by unfold sdA; rw [if_pos (by omega), if_neg (by omega)]; rcases (show s = 0 ∨ s = 1 ∨ s = 2 by omega) with rfl | rfl | rfl <;> rfl)
    · refine x_iconst (v := nI 1) dX3_isSo_24 (by decide) ?_
      refine x_goto (tgt := 29) dX3_isSo_25 (by decide) ?_
      refine xis5_4 dX3_isSo_29 rfl ?_
      exact cont true true (by unfold sdA; rw [if_pos (by omega), if_pos (by omega)]; rcases (show s = 0 ∨ s = 1 ∨ s = 2 by omega) with rfl | rfl | rfl <;> rfl)
theorem snA_no {q w : Nat → Nat} {n K : Nat} {sk ss : Nat → Nat} {i : Nat} (h : snA q w n K sk ss i = false) : ∀ m, snA q w n K sk ss (i + m) = false
  | 0 => h
  | m + 1 => by
    show (snA q w n K sk ss (i + m) && _) = false
    rw [snA_no h m, Bool.false_and]
set_option maxHeartbeats 8000000 in
theorem k_agreesWith (E : Ev) (d : Nat) (M : PM) (n K sn : Nat) (q w sk ss : Nat → Nat) (hK5 : K ≤ 5) (hn5 : n ≤ 5) (hl : LdC M n q w) (hs : SnC M sn sk ss) : Ci E (d + 2) mX3_agreesWith [.ref (ad E 34), .ref (ad E 31), .int (nI K)] M (fun v N => v = bI (snA q w n K sk ss sn) ∧ M = N) := by
  obtain ⟨s1, s2, s3⟩ := hs
  refine Ct.ofz [some (.ref (ad E 34)), some (.ref (ad E 31)), some (.int (nI K)), none] (own := RX3) rfl (by decide) (Nat.le_of_ble_eq_true rfl) rfl (fun C hR => ?_)
  refine x_iconst (v := nI 0) dX3_agreesWith_0 (by decide) ?_
  refine xis4_3 dX3_agreesWith_1 rfl ?_
  have key : ∀ i, i ≤ sn → snA q w n K sk ss i = true → X E (d + 2) RX3 cX3_agreesWith 4 C 2 [some (.ref (ad E 34)), some (.ref (ad E 31)), some (.int (nI K)), some (.int (nI i))] [] M := by
    refine up_loop sn ?_ ?_
    · intro ht
      refine x_iload_n dX3_agreesWith_2 rfl rfl ?_
      refine x_aload_n dX3_agreesWith_3 rfl rfl ?_
      refine x_getv (s1) dX3_agreesWith_4 fX3_18 rfl rfl (by decide) ?_
      refine x_icmp_geN (tgt := 47) dX3_agreesWith_7 (by decide) (by omega) (by omega) (fun hc => ?_) (fun hc => ?_)
      · refine x_iconst (v := nI 1) dX3_agreesWith_47 (by decide) ?_
        exact hR _ _ _ _ dX3_agreesWith_48 (by first | exact bI_n _ | decide) (⟨by rw [ht]; rfl, rfl⟩)
      · exact absurd hc (by omega)
    · intro i hi ih ht
      obtain ⟨g1, g2, g3, g4⟩ := s3 i hi
      have es : snA q w n K sk ss (i + 1) = (decide (K ≤ sk i) || decide (sdA q w n (sk i) = ss i)) := by
        show (snA q w n K sk ss i && _) = _
        rw [ht, Bool.true_and]
      refine x_iload_n dX3_agreesWith_2 rfl rfl ?_
      refine x_aload_n dX3_agreesWith_3 rfl rfl ?_
      refine x_getv (s1) dX3_agreesWith_4 fX3_18 rfl rfl (by decide) ?_
      refine x_icmp_geN (tgt := 47) dX3_agreesWith_7 (by decide) (by omega) (by omega) (fun hc => ?_) (fun hc => ?_)
      · exact absurd hc (by omega)
      refine x_aload_n dX3_agreesWith_10 rfl rfl ?_
      refine x_getr dX3_agreesWith_11 fX3_9 rfl rfl (by decide) ?_
      refine x_iload_n dX3_agreesWith_14 rfl rfl ?_
      refine x_ialdN dX3_agreesWith_15 rfl (by decide) (by omega) (by decide) (g1) ?_
      refine x_iload_n dX3_agreesWith_16 rfl rfl ?_
      refine x_icmp_geN (tgt := 41) dX3_agreesWith_17 (by decide) (by omega) (by omega) (fun hc => ?_) (fun hc => ?_)
      · refine xinc4_3N dX3_agreesWith_41 rfl ?_
        refine x_goto (tgt := 2) dX3_agreesWith_44 (by decide) ?_
        exact ih (by rw [es, decide_eq_true hc, Bool.true_or])
      have hlt := hc
      refine x_aload_n dX3_agreesWith_20 rfl rfl ?_
      refine x_aload_n dX3_agreesWith_21 rfl rfl ?_
      refine x_getr dX3_agreesWith_22 fX3_9 rfl rfl (by decide) ?_
      refine x_iload_n dX3_agreesWith_25 rfl rfl ?_
      refine x_ialdN dX3_agreesWith_26 rfl (by decide) (by omega) (by decide) (g1) ?_
      refine x_aload_n dX3_agreesWith_27 rfl rfl ?_
      refine x_getr dX3_agreesWith_28 fX3_15 rfl rfl (by decide) ?_
      refine x_iload_n dX3_agreesWith_31 rfl rfl ?_
      refine x_ialdN dX3_agreesWith_32 rfl (by decide) (by omega) (by decide) (g2) ?_
      refine x_callSi dX3_agreesWith_33 msX3_isSo kX3_22 (k_isSo E d M n (sk i) (ss i) q w hn5 hl g3 g4) (by omega) rfl rfl (Nat.le_of_ble_eq_true rfl) ?_
      rintro _ _ ⟨rfl, rfl⟩
      refine x_if_neB (tgt := 41) dX3_agreesWith_36 (by decide) (fun hc => ?_) (fun hc => ?_)
      · refine xinc4_3N dX3_agreesWith_41 rfl ?_
        refine x_goto (tgt := 2) dX3_agreesWith_44 (by decide) ?_
        exact ih (by rw [es, hc, Bool.or_true])
      · have e0 : snA q w n K sk ss (i + 1) = false := by rw [es, hc, decide_eq_false (by omega), Bool.or_false]
        have e1 := snA_no e0 (sn - (i + 1))
        rw [Nat.add_sub_cancel' hi] at e1
        refine x_iconst (v := nI 0) dX3_agreesWith_39 (by decide) ?_
        exact hR _ _ _ _ dX3_agreesWith_40 (by first | exact bI_n _ | decide) (⟨by rw [e1]; rfl, rfl⟩)
  exact key 0 (by omega) rfl
-- picks
set_option maxHeartbeats 8000000 in
theorem k_pbegin (E : Ev) (d : Nat) (M : PM) : Cv E d mX2_begin [.ref (ad E 39)] M (fun N => Fr M N [39] ∧ N.1 39 0 = nI 0 ∧ N.1 39 1 = -9 ∧ N.1 39 2 = -9) := by
  refine Ct.ofv [some (.ref (ad E 39))] (own := RX2) rfl (by decide) (Nat.le_of_ble_eq_true rfl) rfl (fun C hR => ?_)
  refine x_aload_n dX2_begin_0 rfl rfl ?_
  refine x_iconst (v := nI 0) dX2_begin_1 (by decide) ?_
  refine x_put dX2_begin_2 pX2_9 rfl rfl (by decide) rfl rfl ?_
  refine x_aload_n dX2_begin_5 rfl rfl ?_
  refine x_bipush (v := -9) dX2_begin_6 (by decide) ?_
  refine x_put dX2_begin_8 pX2_15 rfl rfl (by decide) rfl rfl ?_
  refine x_aload_n dX2_begin_11 rfl rfl ?_
  refine x_bipush (v := -9) dX2_begin_12 (by decide) ?_
  refine x_put dX2_begin_14 pX2_18 rfl rfl (by decide) rfl rfl ?_
  refine hR _ _ _ dX2_begin_17 ⟨((Fr.rf.sa (by decide)).sa (by decide)).sa (by decide), ?_, ?_, ?_⟩
  · rw [sa_1, pk_un (by decide), sa_1, pk_un (by decide), sa_1, pk_us]
  · rw [sa_1, pk_un (by decide), sa_1, pk_us]
  · rw [sa_1, pk_us]
set_option maxHeartbeats 8000000 in
theorem k_offer (E : Ev) (d : Nat) (M : PM) (n : Nat) (c w c0 w0 : Int32) (h0 : M.1 39 0 = nI n) (hn : n < 10000) (h1 : M.1 39 1 = c0) (h2 : M.1 39 2 = w0) : Cv E d mX2_offer [.ref (ad E 39), .int c, .int w] M (fun N => Fr M N [39] ∧ N.1 39 0 = nI (n + 1) ∧ N.1 39 1 = (if n = 0 ∨ c < c0 then c else c0) ∧ N.1 39 2 = (if n = 0 ∨ c < c0 then w else w0)) := by
  refine Ct.ofv [some (.ref (ad E 39)), some (.int c), some (.int w)] (own := RX2) rfl (by decide) (Nat.le_of_ble_eq_true rfl) rfl (fun C hR => ?_)
  have yes : n = 0 ∨ c < c0 → X E d RX2 cX2_offer 3 C 15 [some (.ref (ad E 39)), some (.int c), some (.int w)] [] M := by
    intro e
    refine x_aload_n dX2_offer_15 rfl rfl ?_
    refine x_iload_n dX2_offer_16 rfl rfl ?_
    refine x_put dX2_offer_17 pX2_15 rfl rfl (by decide) rfl rfl ?_
    refine x_aload_n dX2_offer_20 rfl rfl ?_
    refine x_iload_n dX2_offer_21 rfl rfl ?_
    refine x_put dX2_offer_22 pX2_18 rfl rfl (by decide) rfl rfl ?_
    refine x_aload_n dX2_offer_25 rfl rfl ?_
    refine x_dup dX2_offer_26 rfl ?_
    refine x_getv (sau_v (by decide) (sau_v (by decide) h0)) dX2_offer_27 fX2_9 rfl rfl (by decide) ?_
    refine x_iconst (v := nI 1) dX2_offer_30 (by decide) ?_
    refine x_iaddN dX2_offer_31 ?_
    refine x_put dX2_offer_32 pX2_9 rfl rfl (by decide) rfl rfl ?_
    refine hR _ _ _ dX2_offer_35 ⟨((Fr.rf.sa (by decide)).sa (by decide)).sa (by decide), sus, ?_, ?_⟩
    · rw [if_pos e, sa_1, pk_un (by decide), sa_1, pk_un (by decide), sa_1, pk_us]
    · rw [if_pos e, sa_1, pk_un (by decide), sa_1, pk_us]
  refine x_aload_n dX2_offer_0 rfl rfl ?_
  refine x_getv (h0) dX2_offer_1 fX2_9 rfl rfl (by decide) ?_
  refine x_if_eqN (tgt := 15) dX2_offer_4 (by decide) (by omega) (fun hc => ?_) (fun hc => ?_)
  · exact yes (Or.inl hc)
  have g := hc
  refine x_iload_n dX2_offer_7 rfl rfl ?_
  refine x_aload_n dX2_offer_8 rfl rfl ?_
  refine x_getv (h1) dX2_offer_9 fX2_15 rfl rfl (by decide) ?_
  refine x_icmp_ge (tgt := 25) dX2_offer_12 (by decide) (fun hc => ?_) (fun hc => ?_)
  · have hne : ¬ (n = 0 ∨ c < c0) := by
      rw [Int32.le_iff_toInt_le] at hc
      rw [Int32.lt_iff_toInt_lt]
      omega
    refine x_aload_n dX2_offer_25 rfl rfl ?_
    refine x_dup dX2_offer_26 rfl ?_
    refine x_getv (h0) dX2_offer_27 fX2_9 rfl rfl (by decide) ?_
    refine x_iconst (v := nI 1) dX2_offer_30 (by decide) ?_
    refine x_iaddN dX2_offer_31 ?_
    refine x_put dX2_offer_32 pX2_9 rfl rfl (by decide) rfl rfl ?_
    refine hR _ _ _ dX2_offer_35 ⟨Fr.rf.sa (by decide), sus, ?_, ?_⟩
    · rw [if_neg hne]; exact sau_v (by decide) h1
    · rw [if_neg hne]; exact sau_v (by decide) h2
  · exact yes (Or.inr (by rw [Int32.le_iff_toInt_le] at hc; rw [Int32.lt_iff_toInt_lt]; omega))
-- wires one after the other
def WrC (M : PM) (n : Nat) (w : Nat → Nat) : Prop := M.1 37 1 = nI n ∧ n ≤ 5 ∧ ∀ r, r < n → M.1 38 r = nI (w r) ∧ w r ≤ 5
def advR (w : Nat → Nat) : Nat → Option Nat
  | 0 => none
  | r + 1 => if w r < 5 ∧ (r = 0 ∨ w r ≤ w (r - 1)) then some r else advR w r
def advW (w : Nat → Nat) (r : Nat) : Nat → Nat := fun i => if i < r then w i else w r + 1 - (i - r)
theorem advR_lt {w : Nat → Nat} {r : Nat} : ∀ {n : Nat}, advR w n = some r → r < n ∧ w r < 5
  | 0, h => by cases h
  | n + 1, h => by
    unfold advR at h
    split at h
    · next z => cases h; exact ⟨Nat.lt_succ_self _, z.1⟩
    · have := advR_lt h; exact ⟨by omega, this.2⟩
theorem mx1 : ∀ a, a < 7 → (if nI 0 < nI a - nI 1 then nI a - nI 1 else nI 0) = nI (a - 1) := by decide
theorem mn5 : ∀ a, a < 6 → (if nI a < nI 5 then nI a else nI 5) = nI a := by decide
set_option maxHeartbeats 8000000 in
theorem k_wbegin (E : Ev) (d : Nat) (M : PM) (n : Nat) (hn : n ≤ 5) : Cv E (d + 1) mX7_begin [.ref (ad E 37), .int (nI n)] M (fun N => Fr M N [37, 38] ∧ WrC N n (fun _ => 0) ∧ N.1 37 2 = nI 1) := by
  refine Ct.ofv [some (.ref (ad E 37)), some (.int (nI n))] (own := RX7) rfl (by decide) (Nat.le_of_ble_eq_true rfl) rfl (fun C hR => ?_)
  refine x_aload_n dX7_begin_0 rfl rfl ?_
  refine x_iconst (v := nI 5) dX7_begin_1 (by decide) ?_
  refine x_iload_n dX7_begin_2 rfl rfl ?_
  refine x_mmin dX7_begin_3 kX7_15 (by omega) (Nat.le_of_ble_eq_true rfl) ?_
  rw [mn5 n (by omega)]
  refine x_put dX7_begin_6 pX7_21 rfl rfl (by decide) rfl rfl ?_
  refine x_aload_n dX7_begin_9 rfl rfl ?_
  refine x_getr dX7_begin_10 fX7_9 rfl rfl (by decide) ?_
  refine x_iconst (v := nI 0) dX7_begin_13 (by decide) ?_
  refine x_callSv dX7_begin_14 msJ7_fill_53178 kX7_25 (c_fill E d _ 38 5 (nI 0) rfl (by decide) (by decide)) (by omega) rfl rfl (Nat.le_of_ble_eq_true rfl) ?_
  rintro _ rfl
  refine x_aload_n dX7_begin_17 rfl rfl ?_
  refine x_iconst (v := nI 1) dX7_begin_18 (by decide) ?_
  refine x_put dX7_begin_19 pX7_31 rfl rfl (by decide) (by decide) (by decide) ?_
  refine hR _ _ _ dX7_begin_22 ⟨((Fr.rf.sa (by decide)).sa (by decide)).sa (by decide), ⟨?_, hn, fun r hr => ⟨?_, Nat.zero_le _⟩⟩, sus⟩
  · rw [sa_1, pk_un (by decide), sa_ne (by decide), sa_1, pk_us]
  · rw [sa_ne (by decide), sa_1, fa_fill_in (by omega)]
set_option maxHeartbeats 8000000 in
theorem k_figures (E : Ev) (d : Nat) (M : PM) (n : Nat) (w : Nat → Nat) (h : WrC M n w) : Ci E (d + 1) mX7_figures [.ref (ad E 37)] M (fun v N => v = nI (fig w n) ∧ M = N) := by
  refine Ct.ofi [some (.ref (ad E 37))] (own := RX7) rfl (by decide) (Nat.le_of_ble_eq_true rfl) rfl (fun C hR => ?_)
  refine x_aload_n dX7_figures_0 rfl rfl ?_
  refine x_getr dX7_figures_1 fX7_9 rfl rfl (by decide) ?_
  refine x_aload_n dX7_figures_4 rfl rfl ?_
  refine x_getv (h.1) dX7_figures_5 fX7_21 rfl rfl (by decide) ?_
  refine x_callSi dX7_figures_8 msX8_figuresOf kX7_35 (k_figuresOf E d M 38 n w rfl (by decide) h.2.1 (fun r hr => (h.2.2 r hr).1)) (by omega) rfl rfl (Nat.le_of_ble_eq_true rfl) ?_
  rintro _ _ ⟨rfl, rfl⟩
  exact hR _ _ _ _ dX7_figures_11 (⟨rfl, rfl⟩)
set_option maxHeartbeats 8000000 in
theorem k_putLeastBehind (E : Ev) (d : Nat) (M : PM) (n r : Nat) (w : Nat → Nat) (h : WrC M n w) (hr : r < n) : Cv E (d + 1) mX7_putLeastBehind [.ref (ad E 37), .int (nI r)] M (fun N => Fr M N [38] ∧ WrC N n (fun i => if i < r then w i else w r - (i - r))) := by
  obtain ⟨h1, h2, h3⟩ := h
  have hwr := h3 r hr
  refine Ct.ofv [some (.ref (ad E 37)), some (.int (nI r)), none] (own := RX7) rfl (by decide) (Nat.le_of_ble_eq_true rfl) rfl (fun C hR => ?_)
  refine x_iload_n dX7_putLeastBehind_0 rfl rfl ?_
  refine x_iconst (v := nI 1) dX7_putLeastBehind_1 (by decide) ?_
  refine x_iaddN dX7_putLeastBehind_2 ?_
  refine xis3_2 dX7_putLeastBehind_3 rfl ?_
  have key : ∀ j, j ≤ n - (r + 1) → ∀ N, Fr M N [38] → (∀ i, i < n → i ≤ r + j → N.1 38 i = nI (if i < r then w i else w r - (i - r))) → X E (d + 1) RX7 cX7_putLeastBehind 3 C 4 [some (.ref (ad E 37)), some (.int (nI r)), some (.int (nI (r + 1 + j)))] [] N := by
    refine up_loop (n - (r + 1)) ?_ ?_
    · intro N hN hk
      refine x_iload_n dX7_putLeastBehind_4 rfl rfl ?_
      refine x_aload_n dX7_putLeastBehind_5 rfl rfl ?_
      refine x_getv (hN.v (by decide) h1) dX7_putLeastBehind_6 fX7_21 rfl rfl (by decide) ?_
      refine x_icmp_geN (tgt := 38) dX7_putLeastBehind_9 (by decide) (by omega) (by omega) (fun hc => ?_) (fun hc => ?_)
      · refine hR _ _ _ dX7_putLeastBehind_38 ⟨hN, hN.v (by decide) h1, h2, fun i hi => ⟨hk i hi (by omega), ?_⟩⟩
        have := (h3 i hi).2
        show (if i < r then w i else w r - (i - r)) ≤ 5
        split <;> omega
      · exact absurd hc (by omega)
    · intro j hj ih N hN hk
      have hp := hk (r + 1 + j - 1) (by omega) (by omega)
      rw [if_neg (show ¬ r + 1 + j - 1 < r by omega)] at hp
      refine x_iload_n dX7_putLeastBehind_4 rfl rfl ?_
      refine x_aload_n dX7_putLeastBehind_5 rfl rfl ?_
      refine x_getv (hN.v (by decide) h1) dX7_putLeastBehind_6 fX7_21 rfl rfl (by decide) ?_
      refine x_icmp_geN (tgt := 38) dX7_putLeastBehind_9 (by decide) (by omega) (by omega) (fun hc => ?_) (fun hc => ?_)
      · exact absurd hc (by omega)
      refine x_aload_n dX7_putLeastBehind_12 rfl rfl ?_
      refine x_getr dX7_putLeastBehind_13 fX7_9 rfl rfl (by decide) ?_
      refine x_iload_n dX7_putLeastBehind_16 rfl rfl ?_
      refine x_iconst (v := nI 0) dX7_putLeastBehind_17 (by decide) ?_
      refine x_aload_n dX7_putLeastBehind_18 rfl rfl ?_
      refine x_getr dX7_putLeastBehind_19 fX7_9 rfl rfl (by decide) ?_
      refine x_iload_n dX7_putLeastBehind_22 rfl rfl ?_
      refine x_iconst (v := nI 1) dX7_putLeastBehind_23 (by decide) ?_
      refine x_isubN dX7_putLeastBehind_24 (by omega) ?_
      refine x_ialdN dX7_putLeastBehind_25 rfl (by decide) (by omega) (by decide) (hp) ?_
      refine x_iconst (v := nI 1) dX7_putLeastBehind_26 (by decide) ?_
      refine x_isub dX7_putLeastBehind_27 ?_
      refine x_mmax dX7_putLeastBehind_28 kX7_43 (by omega) (Nat.le_of_ble_eq_true rfl) ?_
      rw [mx1 _ (by omega)]
      refine x_iastN dX7_putLeastBehind_31 rfl (by decide) (by omega) (by decide) ?_
      refine xinc3_2N dX7_putLeastBehind_32 rfl ?_
      refine x_goto (tgt := 4) dX7_putLeastBehind_35 (by decide) ?_
      refine ih _ (hN.sa (by decide)) (fun i hi hij => ?_)
      rw [sa_1]
      by_cases e : i = r + 1 + j
      · subst e
        rw [pk_us, if_neg (by omega)]
        congr 1
        omega
      · rw [pk_un e]; exact hk i hi (by omega)
  refine key 0 (by omega) M Fr.rf (fun i hi hir => ?_)
  by_cases e : i < r
  · rw [if_pos e]; exact (h3 i hi).1
  · have : i = r := by omega
    subst this
    rw [if_neg e, Nat.sub_self, Nat.sub_zero]; exact hwr.1
set_option maxHeartbeats 8000000 in
theorem k_advance (E : Ev) (d : Nat) (M : PM) (n : Nat) (w : Nat → Nat) (h : WrC M n w) : Cv E (d + 2) mX7_advance [.ref (ad E 37)] M (fun N => Fr M N [37, 38] ∧ (advR w n = none → N.1 37 2 = nI 0) ∧ ∀ r, advR w n = some r → N.1 37 2 = M.1 37 2 ∧ WrC N n (advW w r)) := by
  obtain ⟨h1, h2, h3⟩ := id h
  refine Ct.ofv [some (.ref (ad E 37)), none] (own := RX7) rfl (by decide) (Nat.le_of_ble_eq_true rfl) rfl (fun C hR => ?_)
  refine x_aload_n dX7_advance_0 rfl rfl ?_
  refine x_getv (h1) dX7_advance_1 fX7_21 rfl rfl (by decide) ?_
  refine x_iconst (v := nI 1) dX7_advance_4 (by decide) ?_
  refine x_isub dX7_advance_5 ?_
  refine xis2_1 dX7_advance_6 rfl ?_
  have key : ∀ m, m ≤ n → advR w n = advR w m → X E (d + 2) RX7 cX7_advance 2 C 7 [some (.ref (ad E 37)), some (.int (nI m - nI 1))] [] M := by
    intro m
    induction m with
    | zero =>
      intro _ e
      have e1 : (nI 0 - nI 1).toInt = -1 := by decide
      refine x_iload_n dX7_advance_7 rfl rfl ?_
      refine x_if_lt (tgt := 64) dX7_advance_8 (by decide) (fun hc => ?_) (fun hc => ?_)
      · refine x_aload_n dX7_advance_64 rfl rfl ?_
        refine x_iconst (v := nI 0) dX7_advance_65 (by decide) ?_
        refine x_put dX7_advance_66 pX7_31 rfl rfl (by decide) (by decide) (by decide) ?_
        refine hR _ _ _ dX7_advance_69 ⟨Fr.rf.sa (by decide), fun _ => sus, fun r er => ?_⟩
        rw [e] at er
        cases er
      · rw [Int32.lt_iff_toInt_lt, e1, Int32.toInt_zero] at hc
        exact absurd hc (by decide)
    | succ m ih =>
      intro hm e
      have hwm := h3 m (by omega)
      rw [pk_sub (show 1 ≤ m + 1 by omega), Nat.add_sub_cancel]
      have skip : ¬ (w m < 5 ∧ (m = 0 ∨ w m ≤ w (m - 1))) → X E (d + 2) RX7 cX7_advance 2 C 58 [some (.ref (ad E 37)), some (.int (nI m))] [] M := by
        intro hne
        refine xinc2_1_m1 dX7_advance_58 rfl ?_
        refine x_goto (tgt := 7) dX7_advance_61 (by decide) ?_
        rw [sub1]
        refine ih (by omega) (e.trans ?_)
        show (if _ then _ else _) = _
        rw [if_neg hne]
      have doit : w m < 5 ∧ (m = 0 ∨ w m ≤ w (m - 1)) → X E (d + 2) RX7 cX7_advance 2 C 42 [some (.ref (ad E 37)), some (.int (nI m))] [] M := by
        intro hy
        have hW : WrC (sa M 38 (upd (M.1 38) m (nI (w m + 1)))) n (uf w m (w m + 1)) := by
          refine ⟨sa_v (by decide) h1, h2, fun i hi => ⟨sau_f (fun _ => (h3 i hi).1), ?_⟩⟩
          unfold uf
          have := (h3 i hi).2
          split <;> omega
        refine x_aload_n dX7_advance_42 rfl rfl ?_
        refine x_getr dX7_advance_43 fX7_9 rfl rfl (by decide) ?_
        refine x_iload_n dX7_advance_46 rfl rfl ?_
        refine x_dup2 dX7_advance_47 rfl rfl ?_
        refine x_ialdN dX7_advance_48 rfl (by decide) (by omega) (by decide) (hwm.1) ?_
        refine x_iconst (v := nI 1) dX7_advance_49 (by decide) ?_
        refine x_iaddN dX7_advance_50 ?_
        refine x_iastN dX7_advance_51 rfl (by decide) (by omega) (by decide) ?_
        refine x_aload_n dX7_advance_52 rfl rfl ?_
        refine x_iload_n dX7_advance_53 rfl rfl ?_
        refine x_callVv dX7_advance_54 mvX7_putLeastBehind kX7_39 (k_putLeastBehind E d (sa M 38 (upd (M.1 38) m (nI (w m + 1)))) n m (uf w m (w m + 1)) hW (by omega)) rfl (by decide) (by omega) rfl rfl (Nat.le_of_ble_eq_true rfl) ?_
        rintro N ⟨hN, hw⟩
        refine hR _ _ _ dX7_advance_57 ⟨(Fr.rf.sa (by decide)).tr hN (by decide), fun en => ?_, fun r er => ?_⟩
        · rw [e] at en
          unfold advR at en
          rw [if_pos hy] at en
          cases en
        · rw [e] at er
          unfold advR at er
          rw [if_pos hy] at er
          cases er
          refine ⟨hN.v (by decide) (sa_v (by decide) rfl), hw.1, h2, fun i hi => ?_⟩
          have hv : N.1 38 i = nI (if i < m then uf w m (w m + 1) i else uf w m (w m + 1) m - (i - m)) ∧ (if i < m then uf w m (w m + 1) i else uf w m (w m + 1) m - (i - m)) ≤ 5 := hw.2.2 i hi
          have ev : (if i < m then uf w m (w m + 1) i else uf w m (w m + 1) m - (i - m)) = advW w m i := by
            unfold uf advW
            by_cases z : i < m
            · rw [if_pos z, if_neg (by omega), if_pos z]
            · rw [if_neg z, if_pos rfl, if_neg z]
          rw [ev] at hv
          exact hv
      refine x_iload_n dX7_advance_7 rfl rfl ?_
      refine x_if_ltN (tgt := 64) dX7_advance_8 (by decide) (by omega) ?_
      refine x_aload_n dX7_advance_11 rfl rfl ?_
      refine x_getr dX7_advance_12 fX7_9 rfl rfl (by decide) ?_
      refine x_iload_n dX7_advance_15 rfl rfl ?_
      refine x_ialdN dX7_advance_16 rfl (by decide) (by omega) (by decide) (hwm.1) ?_
      refine x_iconst (v := nI 5) dX7_advance_17 (by decide) ?_
      refine x_icmp_geN (tgt := 58) dX7_advance_18 (by decide) (by omega) (by omega) (fun hc => ?_) (fun hc => ?_)
      · exact skip (by omega)
      have g := hc
      refine x_iload_n dX7_advance_21 rfl rfl ?_
      refine x_if_eqN (tgt := 42) dX7_advance_22 (by decide) (by omega) (fun hc => ?_) (fun hc => ?_)
      · exact doit (by omega)
      have g2 := hc
      have hwp := h3 (m - 1) (by omega)
      refine x_aload_n dX7_advance_25 rfl rfl ?_
      refine x_getr dX7_advance_26 fX7_9 rfl rfl (by decide) ?_
      refine x_iload_n dX7_advance_29 rfl rfl ?_
      refine x_ialdN dX7_advance_30 rfl (by decide) (by omega) (by decide) (hwm.1) ?_
      refine x_aload_n dX7_advance_31 rfl rfl ?_
      refine x_getr dX7_advance_32 fX7_9 rfl rfl (by decide) ?_
      refine x_iload_n dX7_advance_35 rfl rfl ?_
      refine x_iconst (v := nI 1) dX7_advance_36 (by decide) ?_
      refine x_isubN dX7_advance_37 (by omega) ?_
      refine x_ialdN dX7_advance_38 rfl (by decide) (by omega) (by decide) (hwp.1) ?_
      refine x_icmp_gtN (tgt := 58) dX7_advance_39 (by decide) (by omega) (by omega) (fun hc => ?_) (fun hc => ?_)
      · exact skip (by omega)
      · exact doit (by omega)
  exact key n (Nat.le_refl _) rfl
-- acts
def AcC (M : PM) (an : Nat) (R : Nat → Int32) (F : Nat → Nat) (G : Nat → Int32) : Prop := M.1 27 3 = nI an ∧ an ≤ 14 ∧ ∀ j, j < an → M.1 28 j = R j ∧ M.1 29 j = nI (F j) ∧ M.1 30 j = G j
set_option maxHeartbeats 8000000 in
theorem k_forget (E : Ev) (d : Nat) (M : PM) : Cv E d mX0_forget [.ref (ad E 27)] M (fun N => Fr M N [27] ∧ N.1 27 3 = nI 0) := by
  refine Ct.ofv [some (.ref (ad E 27))] (own := RX0) rfl (by decide) (Nat.le_of_ble_eq_true rfl) rfl (fun C hR => ?_)
  refine x_aload_n dX0_forget_0 rfl rfl ?_
  refine x_iconst (v := nI 0) dX0_forget_1 (by decide) ?_
  refine x_put dX0_forget_2 pX0_21 rfl rfl (by decide) rfl rfl ?_
  exact hR _ _ _ dX0_forget_5 ⟨Fr.rf.sa (by decide), sus⟩
set_option maxHeartbeats 8000000 in
theorem k_forgetFirst (E : Ev) (d : Nat) (M : PM) : Cv E (d + 1) mX0_forgetFirst [.ref (ad E 27)] M (fun N => Fr M N [27, 28, 29, 30] ∧ N.1 27 3 = nI 13 ∧ ∀ j, j < 13 → N.1 28 j = M.1 28 (j + 1) ∧ N.1 29 j = M.1 29 (j + 1) ∧ N.1 30 j = M.1 30 (j + 1)) := by
  refine Ct.ofv [some (.ref (ad E 27))] (own := RX0) rfl (by decide) (Nat.le_of_ble_eq_true rfl) rfl (fun C hR => ?_)
  refine x_aload_n dX0_forgetFirst_0 rfl rfl ?_
  refine x_bipush (v := nI 13) dX0_forgetFirst_1 (by decide) ?_
  refine x_put dX0_forgetFirst_3 pX0_21 rfl rfl (by decide) rfl rfl ?_
  refine x_aload_n dX0_forgetFirst_6 rfl rfl ?_
  refine x_getr dX0_forgetFirst_7 fX0_9 rfl rfl (by decide) ?_
  refine x_iconst (v := nI 1) dX0_forgetFirst_10 (by decide) ?_
  refine x_aload_n dX0_forgetFirst_11 rfl rfl ?_
  refine x_getr dX0_forgetFirst_12 fX0_9 rfl rfl (by decide) ?_
  refine x_iconst (v := nI 0) dX0_forgetFirst_15 (by decide) ?_
  refine x_aload_n dX0_forgetFirst_16 rfl rfl ?_
  refine x_getv (sus) dX0_forgetFirst_17 fX0_21 rfl rfl (by decide) ?_
  refine x_copy dX0_forgetFirst_20 kX0_28 (by omega) rfl rfl rfl (by decide) (by decide) (by decide) (by decide) (by decide) (by decide) (by decide) (Nat.le_of_ble_eq_true rfl) ?_
  refine x_aload_n dX0_forgetFirst_23 rfl rfl ?_
  refine x_getr dX0_forgetFirst_24 fX0_15 rfl rfl (by decide) ?_
  refine x_iconst (v := nI 1) dX0_forgetFirst_27 (by decide) ?_
  refine x_aload_n dX0_forgetFirst_28 rfl rfl ?_
  refine x_getr dX0_forgetFirst_29 fX0_15 rfl rfl (by decide) ?_
  refine x_iconst (v := nI 0) dX0_forgetFirst_32 (by decide) ?_
  refine x_aload_n dX0_forgetFirst_33 rfl rfl ?_
  refine x_getv (sa_v (by decide) sus) dX0_forgetFirst_34 fX0_21 rfl rfl (by decide) ?_
  refine x_copy dX0_forgetFirst_37 kX0_28 (by omega) rfl rfl rfl (by decide) (by decide) (by decide) (by decide) (by decide) (by decide) (by decide) (Nat.le_of_ble_eq_true rfl) ?_
  refine x_aload_n dX0_forgetFirst_40 rfl rfl ?_
  refine x_getr dX0_forgetFirst_41 fX0_18 rfl rfl (by decide) ?_
  refine x_iconst (v := nI 1) dX0_forgetFirst_44 (by decide) ?_
  refine x_aload_n dX0_forgetFirst_45 rfl rfl ?_
  refine x_getr dX0_forgetFirst_46 fX0_18 rfl rfl (by decide) ?_
  refine x_iconst (v := nI 0) dX0_forgetFirst_49 (by decide) ?_
  refine x_aload_n dX0_forgetFirst_50 rfl rfl ?_
  refine x_getv (sa_v (by decide) (sa_v (by decide) sus)) dX0_forgetFirst_51 fX0_21 rfl rfl (by decide) ?_
  refine x_copy dX0_forgetFirst_54 kX0_28 (by omega) rfl rfl rfl (by decide) (by decide) (by decide) (by decide) (by decide) (by decide) (by decide) (Nat.le_of_ble_eq_true rfl) ?_
  refine hR _ _ _ dX0_forgetFirst_57 ⟨(((Fr.rf.sa (by decide)).sa (by decide)).sa (by decide)).sa (by decide), sa_v (by decide) (sa_v (by decide) (sa_v (by decide) sus)), fun j hj => ⟨?_, ?_, ?_⟩⟩
  · rw [sa_ne (by decide), sa_ne (by decide), sa_1, pk_cpy_in (by rw [show (nI 0).toNatClampNeg = 0 from rfl]; omega) (by rw [show (nI 0).toNatClampNeg = 0 from rfl, show (nI 13).toNatClampNeg = 13 from rfl]; omega)]
    rw [show (nI 0).toNatClampNeg = 0 from rfl, show (nI 1).toNatClampNeg = 1 from rfl, Nat.sub_zero, Nat.add_comm, sa_ne (by decide)]
  · rw [sa_ne (by decide), sa_1, pk_cpy_in (by rw [show (nI 0).toNatClampNeg = 0 from rfl]; omega) (by rw [show (nI 0).toNatClampNeg = 0 from rfl, show (nI 13).toNatClampNeg = 13 from rfl]; omega)]
    rw [show (nI 0).toNatClampNeg = 0 from rfl, show (nI 1).toNatClampNeg = 1 from rfl, Nat.sub_zero, Nat.add_comm, sa_ne (by decide), sa_ne (by decide)]
  · rw [sa_1, pk_cpy_in (by rw [show (nI 0).toNatClampNeg = 0 from rfl]; omega) (by rw [show (nI 0).toNatClampNeg = 0 from rfl, show (nI 13).toNatClampNeg = 13 from rfl]; omega)]
    rw [show (nI 0).toNatClampNeg = 0 from rfl, show (nI 1).toNatClampNeg = 1 from rfl, Nat.sub_zero, Nat.add_comm, sa_ne (by decide), sa_ne (by decide), sa_ne (by decide)]
set_option maxHeartbeats 8000000 in
theorem k_note (E : Ev) (d : Nat) (M : PM) (an f : Nat) (R : Nat → Int32) (F : Nat → Nat) (G : Nat → Int32) (r g : Int32) (h : AcC M an R F G) : Cv E (d + 2) mX0_note [.ref (ad E 27), .int r, .int (nI f), .int g] M (fun N => Fr M N [27, 28, 29, 30] ∧ AcC N (pan an) (psh an R r) (psh an F f) (psh an G g)) := by
  obtain ⟨h1, h2, h3⟩ := id h
  refine Ct.ofv [some (.ref (ad E 27)), some (.int r), some (.int (nI f)), some (.int g)] (own := RX0) rfl (by decide) (Nat.le_of_ble_eq_true rfl) rfl (fun C hR => ?_)
  have fin : ∀ (N : PM) (j : Nat), Fr M N [27, 28, 29, 30] → j < 14 → N.1 27 3 = nI j → pan an = j + 1 → (∀ i, i < j → N.1 28 i = psh an R r i ∧ N.1 29 i = nI (psh an F f i) ∧ N.1 30 i = psh an G g i) → psh an R r j = r → psh an F f j = f → psh an G g j = g → X E (d + 2) RX0 cX0_note 4 C 13 [some (.ref (ad E 27)), some (.int r), some (.int (nI f)), some (.int g)] [] N := by
    intro N j hN hj hc ep hk e1 e2 e3
    refine x_aload_n dX0_note_13 rfl rfl ?_
    refine x_getr dX0_note_14 fX0_9 rfl rfl (by decide) ?_
    refine x_aload_n dX0_note_17 rfl rfl ?_
    refine x_getv (hc) dX0_note_18 fX0_21 rfl rfl (by decide) ?_
    refine x_iload_n dX0_note_21 rfl rfl ?_
    refine x_iastN dX0_note_22 rfl (by decide) (by omega) (by decide) ?_
    refine x_aload_n dX0_note_23 rfl rfl ?_
    refine x_getr dX0_note_24 fX0_15 rfl rfl (by decide) ?_
    refine x_aload_n dX0_note_27 rfl rfl ?_
    refine x_getv (sa_v (by decide) hc) dX0_note_28 fX0_21 rfl rfl (by decide) ?_
    refine x_iload_n dX0_note_31 rfl rfl ?_
    refine x_iastN dX0_note_32 rfl (by decide) (by omega) (by decide) ?_
    refine x_aload_n dX0_note_33 rfl rfl ?_
    refine x_getr dX0_note_34 fX0_18 rfl rfl (by decide) ?_
    refine x_aload_n dX0_note_37 rfl rfl ?_
    refine x_getv (sa_v (by decide) (sa_v (by decide) hc)) dX0_note_38 fX0_21 rfl rfl (by decide) ?_
    refine x_iload_n dX0_note_41 rfl rfl ?_
    refine x_iastN dX0_note_42 rfl (by decide) (by omega) (by decide) ?_
    refine x_aload_n dX0_note_43 rfl rfl ?_
    refine x_dup dX0_note_44 rfl ?_
    refine x_getv (sa_v (by decide) (sa_v (by decide) (sa_v (by decide) hc))) dX0_note_45 fX0_21 rfl rfl (by decide) ?_
    refine x_iconst (v := nI 1) dX0_note_48 (by decide) ?_
    refine x_iaddN dX0_note_49 ?_
    refine x_put dX0_note_50 pX0_21 rfl rfl (by decide) rfl rfl ?_
    refine hR _ _ _ dX0_note_53 ⟨(((hN.sa (by decide)).sa (by decide)).sa (by decide)).sa (by decide), ?_⟩
    rw [ep]
    refine ⟨sus, by omega, fun i hi => ?_⟩
    rw [sa_ne (by decide), sa_ne (by decide), sa_ne (by decide), sa_1, sa_ne (by decide), sa_ne (by decide), sa_1, sa_ne (by decide), sa_ne (by decide), sa_1, sa_ne (by decide), sa_ne (by decide)]
    by_cases z : i = j
    · subst z
      rw [pk_us, pk_us, pk_us, e1, e2, e3]
      exact ⟨rfl, rfl, rfl⟩
    · rw [pk_un z, pk_un z, pk_un z]; exact hk i (by omega)
  refine x_aload_n dX0_note_0 rfl rfl ?_
  refine x_getv (h1) dX0_note_1 fX0_21 rfl rfl (by decide) ?_
  refine x_bipush (v := nI 14) dX0_note_4 (by decide) ?_
  refine x_icmp_ltN (tgt := 13) dX0_note_6 (by decide) (by omega) (by omega) (fun hc => ?_) (fun hc => ?_)
  · have hne : an ≠ 14 := by omega
    refine fin M an Fr.rf hc h1 (by unfold pan; rw [if_neg hne]) (fun i hi => ?_) ?_ ?_ ?_
    · unfold psh
      rw [if_neg hne, if_neg hne, if_neg hne, if_pos hi, if_pos hi, if_pos hi]
      exact h3 i hi
    · unfold psh; rw [if_neg hne, if_neg (Nat.lt_irrefl _)]
    · unfold psh; rw [if_neg hne, if_neg (Nat.lt_irrefl _)]
    · unfold psh; rw [if_neg hne, if_neg (Nat.lt_irrefl _)]
  · have e14 : an = 14 := by omega
    subst e14
    refine x_aload_n dX0_note_9 rfl rfl ?_
    refine x_callVv dX0_note_10 mvX0_forgetFirst kX0_25 (k_forgetFirst E d M) rfl (by decide) (by omega) rfl rfl (Nat.le_of_ble_eq_true rfl) ?_
    rintro N ⟨hN, hn, hk⟩
    refine fin N 13 hN (by decide) hn rfl (fun i hi => ?_) rfl rfl rfl
    obtain ⟨k1, k2, k3⟩ := hk i hi
    obtain ⟨m1, m2, m3⟩ := h3 (i + 1) (by omega)
    unfold psh
    rw [if_pos rfl, if_pos rfl, if_pos rfl, if_pos hi, if_pos hi, if_pos hi, k1, k2, k3]
    exact ⟨m1, m2, m3⟩
set_option maxHeartbeats 8000000 in
theorem k_takeBack (E : Ev) (d : Nat) (M : PM) (n an : Nat) (q w wo : Nat → Nat) (R : Nat → Int32) (F : Nat → Nat) (G : Nat → Int32) (hn : M.1 3 5 = nI n) (h : AcC M (an + 1) R F G) (ht : Tb M 13 n q wo) (hw : ∀ r, r < n → w r ≤ 5) (hF : F an = fig w n) : Cv E (d + 1) mX0_takeBack [.ref (ad E 27), .ref (ad E 13)] M (fun N => Fr M N [13, 14, 15, 27] ∧ AcC N an R F G ∧ N.1 13 3 = G an ∧ (¬ (inR (R an) n ∧ 1 ≤ w (tn (R an)) ∧ w (tn (R an)) ≤ 4) → Tb N 13 n q w) ∧ (inR (R an) n ∧ 1 ≤ w (tn (R an)) ∧ w (tn (R an)) ≤ 4 → Tb N 13 n (swq q (5 * tn (R an) + w (tn (R an)))) w)) := by
  obtain ⟨h1, h2, h3⟩ := id h
  obtain ⟨a1, a2, a3⟩ := h3 an (Nat.lt_succ_self _)
  rw [hF] at a2
  refine Ct.ofv [some (.ref (ad E 27)), some (.ref (ad E 13))] (own := RX0) rfl (by decide) (Nat.le_of_ble_eq_true rfl) rfl (fun C hR => ?_)
  refine x_aload_n dX0_takeBack_0 rfl rfl ?_
  refine x_getv (h1) dX0_takeBack_1 fX0_21 rfl rfl (by decide) ?_
  refine x_if_gtN (tgt := 8) dX0_takeBack_4 (by decide) (by omega) (fun hc => ?_) (fun hc => ?_)
  rotate_left
  · exact absurd hc (by omega)
  refine x_aload_n dX0_takeBack_8 rfl rfl ?_
  refine x_dup dX0_takeBack_9 rfl ?_
  refine x_getv (h1) dX0_takeBack_10 fX0_21 rfl rfl (by decide) ?_
  refine x_iconst (v := nI 1) dX0_takeBack_13 (by decide) ?_
  refine x_isubN dX0_takeBack_14 (by omega) ?_
  refine x_put dX0_takeBack_15 pX0_21 rfl rfl (by decide) rfl rfl ?_
  rw [Nat.add_sub_cancel]
  refine x_aload_n dX0_takeBack_18 rfl rfl ?_
  refine x_aload_n dX0_takeBack_19 rfl rfl ?_
  refine x_getr dX0_takeBack_20 fX0_15 rfl rfl (by decide) ?_
  refine x_aload_n dX0_takeBack_23 rfl rfl ?_
  refine x_getv (sus) dX0_takeBack_24 fX0_21 rfl rfl (by decide) ?_
  refine x_ialdN dX0_takeBack_27 rfl (by decide) (by omega) (by decide) (sa_v (by decide) a2) ?_
  refine x_callVv dX0_takeBack_28 mvX4_setWire kX0_34 (k_setWire_13 E d (sa M 27 (upd (M.1 27) 3 (nI an))) n w (sa_v (by decide) hn) ht.1 hw) rfl (by decide) (by omega) rfl rfl (Nat.le_of_ble_eq_true rfl) ?_
  rintro N ⟨hN, hwN⟩
  have c1 : N.1 27 3 = nI an := hN.v (by decide) sus
  refine x_aload_n dX0_takeBack_31 rfl rfl ?_
  refine x_aload_n dX0_takeBack_32 rfl rfl ?_
  refine x_getr dX0_takeBack_33 fX0_18 rfl rfl (by decide) ?_
  refine x_aload_n dX0_takeBack_36 rfl rfl ?_
  refine x_getv (c1) dX0_takeBack_37 fX0_21 rfl rfl (by decide) ?_
  refine x_ialdN dX0_takeBack_40 rfl (by decide) (by omega) (by decide) (hN.v (by decide) (sa_v (by decide) a3)) ?_
  refine x_put dX0_takeBack_41 pX0_40 rfl rfl (by decide) rfl rfl ?_
  have hN2 : Fr M (sa N 13 (upd (N.1 13) 3 (G an))) [13, 14, 15, 27] := ((Fr.rf.sa (by decide) : Fr M (sa M 27 (upd (M.1 27) 3 (nI an))) [13, 14, 15, 27]).tr hN (by decide)).sa (by decide)
  have hT : Tb (sa N 13 (upd (N.1 13) 3 (G an))) 13 n q w := by
    refine ⟨ht.1, fun r c hr hc5 => ?_, fun r hr => ⟨sa_v (by decide) (hwN r hr), hw r hr⟩⟩
    rw [sa_ne (by decide), hN.2 14 (by decide), sa_ne (by decide)]
    exact ht.2.1 r c hr hc5
  have hA : ∀ K : PM, Fr (sa N 13 (upd (N.1 13) 3 (G an))) K [14] → AcC K an R F G := by
    intro K hK
    refine ⟨hK.v (by decide) (sa_v (by decide) c1), by omega, fun j hj => ?_⟩
    rw [hK.2 28 (by decide), hK.2 29 (by decide), hK.2 30 (by decide), sa_ne (by decide), sa_ne (by decide), sa_ne (by decide), hN.2 28 (by decide), hN.2 29 (by decide), hN.2 30 (by decide), sa_ne (by decide), sa_ne (by decide), sa_ne (by decide)]
    exact h3 j (by omega)
  refine x_aload_n dX0_takeBack_44 rfl rfl ?_
  refine x_aload_n dX0_takeBack_45 rfl rfl ?_
  refine x_getr dX0_takeBack_46 fX0_9 rfl rfl (by decide) ?_
  refine x_aload_n dX0_takeBack_49 rfl rfl ?_
  refine x_getv (sa_v (by decide) c1) dX0_takeBack_50 fX0_21 rfl rfl (by decide) ?_
  refine x_ialdN dX0_takeBack_53 rfl (by decide) (by omega) (by decide) (sa_v (by decide) (hN.v (by decide) (sa_v (by decide) a1))) ?_
  refine x_callVi dX0_takeBack_54 mvX4_swapAtWire kX0_43 (k_swapAtWire_13 E (d + 1 - 1) (sa N 13 (upd (N.1 13) 3 (G an))) n q w (R an) (sa_v (by decide) (hN.v (by decide) (sa_v (by decide) hn))) hT) rfl (by decide) (by omega) rfl rfl (Nat.le_of_ble_eq_true rfl) ?_
  rintro v K ⟨hno, hyes⟩
  refine x_pop dX0_takeBack_57 rfl ?_
  refine hR _ _ _ dX0_takeBack_58 ?_
  by_cases z : inR (R an) n ∧ 1 ≤ w (tn (R an)) ∧ w (tn (R an)) ≤ 4
  · obtain ⟨_, hK, hTK⟩ := hyes z
    exact ⟨hN2.tr hK (by decide), hA K hK, hK.v (by decide) sus, fun y => absurd z y, fun _ => hTK⟩
  · obtain ⟨_, rfl⟩ := hno z
    exact ⟨hN2, hA _ Fr.rf, sus, fun _ => hT, fun y => absurd y z⟩
