-- ===== the component: the tally =====
def Cw (M : PM) (a b n : Nat) (q w : Nat → Nat) : Prop := lay a = .inl (0, 25) ∧ a < cK ∧ lay b = .inl (0, 5) ∧ b < cK ∧ n ≤ 5 ∧ (∀ r c, r < n → c < 5 → M.1 a (r * 5 + c) = nI (q (5 * r + c)) ∧ q (5 * r + c) < 20) ∧ ∀ r, r < n → M.1 b r = nI (w r) ∧ w r ≤ 5
theorem Cw.fr {M N : PM} {a b n : Nat} {q w : Nat → Nat} {cs : List Nat} (h : Cw M a b n q w) (hf : Fr M N cs) (hc : ∀ c ∈ cs, lay c ≠ .inl (0, 25) ∧ lay c ≠ .inl (0, 5)) : Cw N a b n q w := by
  have ha : a ∉ cs := fun e => (hc a e).1 h.1
  have hb : b ∉ cs := fun e => (hc b e).2 h.2.2.1
  unfold Cw
  rw [hf.2 a ha, hf.2 b hb]
  exact h
def LdC (M : PM) (n : Nat) (q w : Nat → Nat) : Prop := (∀ k, k < 5 → M.1 32 k = nI (lf q w n k)) ∧ ∀ k, k < 5 → M.1 32 (5 + k) = nI (rg q w n k)
set_option maxHeartbeats 8000000 in
theorem k_countCells (E : Ev) (d : Nat) (M : PM) (a b n : Nat) (q w : Nat → Nat) (hn : M.1 3 5 = nI n) (h : Cw M a b n q w) : Cv E (d + 1) mX5_countCells [.ref (ad E 31), .ref (ad E a), .ref (ad E b)] M (fun N => Fr M N [32] ∧ LdC N n q w) := by
  obtain ⟨la, ca, lb, cb, hn5, hq, hw⟩ := id h
  have ha32 : a ∉ [32] := by simp; rintro rfl; exact absurd la (by decide)
  have hb32 : b ∉ [32] := by simp; rintro rfl; exact absurd lb (by decide)
  refine Ct.ofv [some (.ref (ad E 31)), some (.ref (ad E a)), some (.ref (ad E b)), none, none, none] (own := RX5) rfl (by decide) (Nat.le_of_ble_eq_true rfl) rfl (fun C hR => ?_)
  refine x_aload_n dX5_countCells_0 rfl rfl ?_
  refine x_getr dX5_countCells_1 fX5_9 rfl rfl (by decide) ?_
  refine x_iconst (v := nI 0) dX5_countCells_4 (by decide) ?_
  refine x_callSv dX5_countCells_5 msJ7_fill_53178 kX5_26 (c_fill E d M 32 10 (nI 0) rfl (by decide) (by decide)) (by omega) rfl rfl (Nat.le_of_ble_eq_true rfl) ?_
  rintro _ rfl
  refine x_iconst (v := nI 0) dX5_countCells_8 (by decide) ?_
  refine xis6_3 dX5_countCells_9 rfl ?_
  have key2 : ∀ r, r ≤ n → ∀ N l4 l5, Fr M N [32] → (∀ k, k < 5 → N.1 32 k = nI (fb_sm (fun r => fb_sm (lfg q w k r) 5) r) ∧ N.1 32 (5 + k) = nI (fb_sm (fun r => fb_sm (rgg q w k r) 5) r)) → X E (d + 1) RX5 cX5_countCells 6 C 10 [some (.ref (ad E 31)), some (.ref (ad E a)), some (.ref (ad E b)), some (.int (nI r)), l4, l5] [] N := by
    refine up_loop n ?_ ?_
    · intro N l4 l5 hN hk
      refine x_iload_n dX5_countCells_10 rfl rfl ?_
      refine x_aload_n dX5_countCells_11 rfl rfl ?_
      refine x_getr dX5_countCells_12 fX5_18 rfl rfl (by decide) ?_
      refine x_getv (hN.v (by decide) hn) dX5_countCells_15 fX5_32 rfl rfl (by decide) ?_
      refine x_icmp_geN (tgt := 77) dX5_countCells_18 (by decide) (by omega) (by omega) (fun hc => ?_) (fun hc => ?_)
      · exact hR _ _ _ dX5_countCells_77 (⟨hN, fun k hk5 => (hk k hk5).1, fun k hk5 => (hk k hk5).2⟩)
      · exact absurd hc (by omega)
    · intro r hr ih N l4 l5 hN hk
      refine x_iload_n dX5_countCells_10 rfl rfl ?_
      refine x_aload_n dX5_countCells_11 rfl rfl ?_
      refine x_getr dX5_countCells_12 fX5_18 rfl rfl (by decide) ?_
      refine x_getv (hN.v (by decide) hn) dX5_countCells_15 fX5_32 rfl rfl (by decide) ?_
      refine x_icmp_geN (tgt := 77) dX5_countCells_18 (by decide) (by omega) (by omega) (fun hc => ?_) (fun hc => ?_)
      · exact absurd hc (by omega)
      refine x_iconst (v := nI 0) dX5_countCells_21 (by decide) ?_
      refine xis6_4 dX5_countCells_22 rfl ?_
      have key3 : ∀ c, c ≤ 5 → ∀ N l5, Fr M N [32] → (∀ k, k < 5 → N.1 32 k = nI (fb_sm (fun r => fb_sm (lfg q w k r) 5) r + fb_sm (lfg q w k r) c) ∧ N.1 32 (5 + k) = nI (fb_sm (fun r => fb_sm (rgg q w k r) 5) r + fb_sm (rgg q w k r) c)) → X E (d + 1) RX5 cX5_countCells 6 C 24 [some (.ref (ad E 31)), some (.ref (ad E a)), some (.ref (ad E b)), some (.int (nI r)), some (.int (nI c)), l5] [] N := by
        refine up_loop 5 ?_ ?_
        · intro N l5 hN hk
          refine x_iload dX5_countCells_24 rfl ?_
          refine x_iconst (v := nI 5) dX5_countCells_26 (by decide) ?_
          refine x_icmp_geN (tgt := 71) dX5_countCells_27 (by decide) (by omega) (by omega) (fun hc => ?_) (fun hc => ?_)
          · refine xinc6_3N dX5_countCells_71 rfl ?_
            refine x_goto (tgt := 10) dX5_countCells_74 (by decide) ?_
            exact ih N _ _ hN hk
          · exact absurd hc (by omega)
        · intro c hc5 ih3 N l5 hN hk
          have hcell := hq r c hr hc5
          have hwr := hw r hr
          have hk5 : q (5 * r + c) / 4 < 5 := by omega
          have hh := hf_le w r c
          refine x_iload dX5_countCells_24 rfl ?_
          refine x_iconst (v := nI 5) dX5_countCells_26 (by decide) ?_
          refine x_icmp_geN (tgt := 71) dX5_countCells_27 (by decide) (by omega) (by omega) (fun hc => ?_) (fun hc => ?_)
          · exact absurd hc (by omega)
          refine x_iload dX5_countCells_30 rfl ?_
          refine x_aload_n dX5_countCells_32 rfl rfl ?_
          refine x_iload_n dX5_countCells_33 rfl rfl ?_
          refine x_ialdN dX5_countCells_34 lb cb (by omega) (by decide) (hN.v hb32 hwr.1) ?_
          refine x_callSi dX5_countCells_35 msX8_halfOf kX5_38 (k_halfOf E d N c w r (by omega) (by omega)) (by omega) rfl rfl (Nat.le_of_ble_eq_true rfl) ?_
          rintro _ _ ⟨rfl, rfl⟩
          refine xis6_5 dX5_countCells_38 rfl ?_
          refine x_aload_n dX5_countCells_40 rfl rfl ?_
          refine x_getr dX5_countCells_41 fX5_9 rfl rfl (by decide) ?_
          refine x_iload dX5_countCells_44 rfl ?_
          refine x_iconst (v := nI 5) dX5_countCells_46 (by decide) ?_
          refine x_imulN dX5_countCells_47 ?_
          refine x_aload_n dX5_countCells_48 rfl rfl ?_
          refine x_iload_n dX5_countCells_49 rfl rfl ?_
          refine x_iconst (v := nI 5) dX5_countCells_50 (by decide) ?_
          refine x_imulN dX5_countCells_51 ?_
          refine x_iload dX5_countCells_52 rfl ?_
          refine x_iaddN dX5_countCells_54 ?_
          refine x_ialdN dX5_countCells_55 la ca (by omega) (by decide) (hN.v ha32 hcell.1) ?_
          refine x_callSi dX5_countCells_56 msX8_kinOf kX5_45 (k_kinOf E d N _ (by omega)) (by omega) rfl rfl (Nat.le_of_ble_eq_true rfl) ?_
          rintro _ _ ⟨rfl, rfl⟩
          refine x_iaddN dX5_countCells_59 ?_
          by_cases hlt : c < w r
          · have eh : hf w r c = 0 := by unfold hf; rw [if_pos hlt]
            rw [eh, Nat.zero_mul, Nat.zero_add]
            refine x_dup2 dX5_countCells_60 rfl rfl ?_
            refine x_ialdN dX5_countCells_61 rfl (by decide) (by omega) (by decide) ((hk _ hk5).1) ?_
            refine x_iconst (v := nI 1) dX5_countCells_62 (by decide) ?_
            refine x_iaddN dX5_countCells_63 ?_
            refine x_iastN dX5_countCells_64 rfl (by decide) (by omega) (by decide) ?_
            refine xinc6_4N dX5_countCells_65 rfl ?_
            refine x_goto (tgt := 24) dX5_countCells_68 (by decide) ?_
            refine ih3 _ _ (hN.sa (by decide)) (fun k hk0 => ?_)
            have e1 : fb_sm (rgg q w k r) (c + 1) = fb_sm (rgg q w k r) c + 0 := by
              rw [fb_sm_succ]; unfold rgg; rw [if_neg (by omega)]
            have e2 : fb_sm (lfg q w k r) (c + 1) = fb_sm (lfg q w k r) c + if q (5 * r + c) / 4 = k then 1 else 0 := by
              rw [fb_sm_succ]; unfold lfg; congr 1; simp only [hlt, and_true]
            rw [sa_1, e1, e2, pk_un (show 5 + k ≠ q (5 * r + c) / 4 by omega)]
            refine ⟨?_, (hk k hk0).2⟩
            by_cases hkk : k = q (5 * r + c) / 4
            · subst hkk; rw [pk_us, if_pos rfl, Nat.add_assoc]
            · rw [pk_un hkk, if_neg (Ne.symm hkk)]; exact (hk k hk0).1
          · have eh : hf w r c = 1 := by unfold hf; rw [if_neg hlt]
            rw [eh, Nat.one_mul]
            refine x_dup2 dX5_countCells_60 rfl rfl ?_
            refine x_ialdN dX5_countCells_61 rfl (by decide) (by omega) (by decide) ((hk _ hk5).2) ?_
            refine x_iconst (v := nI 1) dX5_countCells_62 (by decide) ?_
            refine x_iaddN dX5_countCells_63 ?_
            refine x_iastN dX5_countCells_64 rfl (by decide) (by omega) (by decide) ?_
            refine xinc6_4N dX5_countCells_65 rfl ?_
            refine x_goto (tgt := 24) dX5_countCells_68 (by decide) ?_
            refine ih3 _ _ (hN.sa (by decide)) (fun k hk0 => ?_)
            have e1 : fb_sm (lfg q w k r) (c + 1) = fb_sm (lfg q w k r) c + 0 := by
              rw [fb_sm_succ]; unfold lfg; rw [if_neg (by omega)]
            have e2 : fb_sm (rgg q w k r) (c + 1) = fb_sm (rgg q w k r) c + if q (5 * r + c) / 4 = k then 1 else 0 := by
              rw [fb_sm_succ]; unfold rgg; congr 1; simp only [show w r ≤ c from by omega, and_true]
            rw [sa_1, e1, e2, pk_un (show k ≠ 5 + q (5 * r + c) / 4 by omega)]
            refine ⟨(hk k hk0).1, ?_⟩
            by_cases hkk : k = q (5 * r + c) / 4
            · subst hkk; rw [pk_us, if_pos rfl, Nat.add_assoc]
            · rw [pk_un (by omega), if_neg (Ne.symm hkk)]; exact (hk k hk0).2
      exact key3 0 (by omega) N _ hN hk
  refine key2 0 (by omega) _ _ _ (Fr.rf.sa (by decide)) (fun k hk => ?_)
  rw [sa_1, fa_fill_in (by omega), fa_fill_in (by omega)]
  exact ⟨rfl, rfl⟩
set_option maxHeartbeats 8000000 in
theorem k_cellsIn (E : Ev) (d : Nat) (M : PM) (n h k : Nat) (q w : Nat → Nat) (hl : LdC M n q w) (hh : h < 2) (hk : k < 5) : Ci E d mX5_cellsIn [.ref (ad E 31), .int (nI h), .int (nI k)] M (fun v N => v = nI (if h = 0 then lf q w n k else rg q w n k) ∧ M = N) := by
  refine Ct.ofi [some (.ref (ad E 31)), some (.int (nI h)), some (.int (nI k))] (own := RX5) rfl (by decide) (Nat.le_of_ble_eq_true rfl) rfl (fun C hR => ?_)
  have e : M.1 32 (h * 5 + k) = nI (if h = 0 then lf q w n k else rg q w n k) := by
    rcases (show h = 0 ∨ h = 1 by omega) with rfl | rfl
    · rw [Nat.zero_mul, Nat.zero_add, if_pos rfl]; exact hl.1 k hk
    · rw [Nat.one_mul, if_neg (by decide)]; exact hl.2 k hk
  refine x_aload_n dX5_cellsIn_0 rfl rfl ?_
  refine x_getr dX5_cellsIn_1 fX5_9 rfl rfl (by decide) ?_
  refine x_iload_n dX5_cellsIn_4 rfl rfl ?_
  refine x_iconst (v := nI 5) dX5_cellsIn_5 (by decide) ?_
  refine x_imulN dX5_cellsIn_6 ?_
  refine x_iload_n dX5_cellsIn_7 rfl rfl ?_
  refine x_iaddN dX5_cellsIn_8 ?_
  refine x_ialdN dX5_cellsIn_9 rfl (by decide) (by omega) (by decide) (e) ?_
  exact hR _ _ _ _ dX5_cellsIn_10 (⟨rfl, rfl⟩)
set_option maxHeartbeats 8000000 in
theorem k_isParted (E : Ev) (d : Nat) (M : PM) (n k : Nat) (q w : Nat → Nat) (hn5 : n ≤ 5) (hl : LdC M n q w) (hk : k < 5) : Ci E (d + 1) mX5_isParted [.ref (ad E 31), .int (nI k)] M (fun v N => v = bI (par q w n k) ∧ M = N) := by
  have b1 := lf_le (q := q) (w := w) (k := k) hn5
  have b2 := rg_le (q := q) (w := w) (k := k) hn5
  refine Ct.ofz [some (.ref (ad E 31)), some (.int (nI k))] (own := RX5) rfl (by decide) (Nat.le_of_ble_eq_true rfl) rfl (fun C hR => ?_)
  refine x_aload_n dX5_isParted_0 rfl rfl ?_
  refine x_iconst (v := nI 0) dX5_isParted_1 (by decide) ?_
  refine x_iload_n dX5_isParted_2 rfl rfl ?_
  refine x_callVi dX5_isParted_3 mvX5_cellsIn kX5_59 (k_cellsIn E d M n 0 k q w hl (by decide) hk) rfl (by decide) (by omega) rfl rfl (Nat.le_of_ble_eq_true rfl) ?_
  rintro _ _ ⟨rfl, rfl⟩
  rw [if_pos rfl]
  refine x_if_leN (tgt := 22) dX5_isParted_6 (by decide) (by omega) (fun hc => ?_) (fun hc => ?_)
  · refine x_iconst (v := nI 0) dX5_isParted_22 (by decide) ?_
    exact hR _ _ _ _ dX5_isParted_23 (by first | exact bI_n _ | decide) (⟨(dec_f (by omega)).symm, rfl⟩)
  have g1 := hc
  refine x_aload_n dX5_isParted_9 rfl rfl ?_
  refine x_iconst (v := nI 1) dX5_isParted_10 (by decide) ?_
  refine x_iload_n dX5_isParted_11 rfl rfl ?_
  refine x_callVi dX5_isParted_12 mvX5_cellsIn kX5_59 (k_cellsIn E d M n 1 k q w hl (by decide) hk) rfl (by decide) (by omega) rfl rfl (Nat.le_of_ble_eq_true rfl) ?_
  rintro _ _ ⟨rfl, rfl⟩
  rw [if_neg (by decide)]
  refine x_if_leN (tgt := 22) dX5_isParted_15 (by decide) (by omega) (fun hc => ?_) (fun hc => ?_)
  · refine x_iconst (v := nI 0) dX5_isParted_22 (by decide) ?_
    exact hR _ _ _ _ dX5_isParted_23 (by first | exact bI_n _ | decide) (⟨(dec_f (by omega)).symm, rfl⟩)
  · refine x_iconst (v := nI 1) dX5_isParted_18 (by decide) ?_
    refine x_goto (tgt := 23) dX5_isParted_19 (by decide) ?_
    exact hR _ _ _ _ dX5_isParted_23 (by first | exact bI_n _ | decide) (⟨(dec_t ⟨g1, hc⟩).symm, rfl⟩)
set_option maxHeartbeats 8000000 in
theorem k_partedBits (E : Ev) (d : Nat) (M : PM) (n K : Nat) (q w : Nat → Nat) (hK : M.1 3 4 = nI K) (hK5 : K ≤ 5) (hn5 : n ≤ 5) (hl : LdC M n q w) : Ci E (d + 2) mX5_partedBits [.ref (ad E 31)] M (fun v N => v = nI (parB q w n K) ∧ M = N) := by
  refine Ct.ofi [some (.ref (ad E 31)), none, none] (own := RX5) rfl (by decide) (Nat.le_of_ble_eq_true rfl) rfl (fun C hR => ?_)
  refine x_iconst (v := nI 0) dX5_partedBits_0 (by decide) ?_
  refine xis3_1 dX5_partedBits_1 rfl ?_
  refine x_iconst (v := nI 0) dX5_partedBits_2 (by decide) ?_
  refine xis3_2 dX5_partedBits_3 rfl ?_
  have key : ∀ i, i ≤ K → X E (d + 2) RX5 cX5_partedBits 3 C 4 [some (.ref (ad E 31)), some (.int (nI (parB q w n i))), some (.int (nI i))] [] M := by
    refine up_loop K ?_ ?_
    · refine x_iload_n dX5_partedBits_4 rfl rfl ?_
      refine x_aload_n dX5_partedBits_5 rfl rfl ?_
      refine x_getr dX5_partedBits_6 fX5_18 rfl rfl (by decide) ?_
      refine x_getv (hK) dX5_partedBits_9 fX5_62 rfl rfl (by decide) ?_
      refine x_icmp_geN (tgt := 35) dX5_partedBits_12 (by decide) (by omega) (by omega) (fun hc => ?_) (fun hc => ?_)
      · refine x_iload_n dX5_partedBits_35 rfl rfl ?_
        exact hR _ _ _ _ dX5_partedBits_36 (⟨rfl, rfl⟩)
      · exact absurd hc (by omega)
    · intro i hi ih
      have hlt := parB_lt q w n i
      have h2 := p2 (show i ≤ 5 by omega)
      rw [show parB q w n (i + 1) = parB q w n i + if par q w n i = true then 2 ^ i else 0 from rfl] at ih
      refine x_iload_n dX5_partedBits_4 rfl rfl ?_
      refine x_aload_n dX5_partedBits_5 rfl rfl ?_
      refine x_getr dX5_partedBits_6 fX5_18 rfl rfl (by decide) ?_
      refine x_getv (hK) dX5_partedBits_9 fX5_62 rfl rfl (by decide) ?_
      refine x_icmp_geN (tgt := 35) dX5_partedBits_12 (by decide) (by omega) (by omega) (fun hc => ?_) (fun hc => ?_)
      · exact absurd hc (by omega)
      refine x_aload_n dX5_partedBits_15 rfl rfl ?_
      refine x_iload_n dX5_partedBits_16 rfl rfl ?_
      refine x_callVi dX5_partedBits_17 mvX5_isParted kX5_55 (k_isParted E d M n i q w hn5 hl (by omega)) rfl (by decide) (by omega) rfl rfl (Nat.le_of_ble_eq_true rfl) ?_
      rintro _ _ ⟨rfl, rfl⟩
      refine x_if_eqB (tgt := 29) dX5_partedBits_20 (by decide) (fun hc => ?_) (fun hc => ?_)
      · rw [hc, if_neg (by decide), Nat.add_zero] at ih
        refine xinc3_2N dX5_partedBits_29 rfl ?_
        refine x_goto (tgt := 4) dX5_partedBits_32 (by decide) ?_
        exact ih
      · rw [hc, if_pos rfl, ← bits_or hlt] at ih
        refine x_iload_n dX5_partedBits_23 rfl rfl ?_
        refine x_iconst (v := nI 1) dX5_partedBits_24 (by decide) ?_
        refine x_iload_n dX5_partedBits_25 rfl rfl ?_
        refine x_ishlN dX5_partedBits_26 (by omega) (by omega) ?_
        refine x_iorN dX5_partedBits_27 ?_
        refine xis3_1 dX5_partedBits_28 rfl ?_
        refine xinc3_2N dX5_partedBits_29 rfl ?_
        refine x_goto (tgt := 4) dX5_partedBits_32 (by decide) ?_
        rw [Nat.one_mul]
        exact ih
  exact key 0 (by omega)
set_option maxHeartbeats 8000000 in
theorem k_partedCount (E : Ev) (d : Nat) (M : PM) (n K : Nat) (q w : Nat → Nat) (hK : M.1 3 4 = nI K) (hK5 : K ≤ 5) (hn5 : n ≤ 5) (hl : LdC M n q w) : Ci E (d + 3) mX5_partedCount [.ref (ad E 31)] M (fun v N => v = nI (pdA q w n K) ∧ M = N) := by
  have hlt := parB_lt q w n K
  have h2 := p2 hK5
  refine Ct.ofi [some (.ref (ad E 31))] (own := RX5) rfl (by decide) (Nat.le_of_ble_eq_true rfl) rfl (fun C hR => ?_)
  refine x_aload_n dX5_partedCount_0 rfl rfl ?_
  refine x_callVi dX5_partedCount_1 mvX5_partedBits kX5_65 (k_partedBits E d M n K q w hK hK5 hn5 hl) rfl (by decide) (by omega) rfl rfl (Nat.le_of_ble_eq_true rfl) ?_
  rintro _ _ ⟨rfl, rfl⟩
  refine x_callSi dX5_partedCount_4 msJ6_bitCount_0f7a4 kX5_69 (c_bitCount E (d + 2) M _ (by omega)) (by omega) rfl rfl (Nat.le_of_ble_eq_true rfl) ?_
  rintro _ _ ⟨rfl, rfl⟩
  exact hR _ _ _ _ dX5_partedCount_7 (⟨rfl, rfl⟩)
set_option maxHeartbeats 8000000 in
theorem k_halvesFor (E : Ev) (d : Nat) (M : PM) (n K D v h : Nat) (q w kd pt nd : Nat → Nat) (hH : Hc M n K D kd pt nd) (hl : LdC M n q w) (hv : v < 4 * K) (hh : h ≤ 1) : Ci E (d + 2) mX5_halvesFor [.ref (ad E 31), .int (nI v), .int (nI h)] M (fun x N => x = nI (cf kd (par q w n) v h) ∧ M = N) := by
  obtain ⟨f1, f2, f3, f4, f5, f6, f7, f8, f9⟩ := id hH
  have hk : v / 4 < K := by omega
  have hkd := f7 (v / 4) hk
  refine Ct.ofi [some (.ref (ad E 31)), some (.int (nI v)), some (.int (nI h)), none, none] (own := RX5) rfl (by decide) (Nat.le_of_ble_eq_true rfl) rfl (fun C hR => ?_)
  refine x_iload_n dX5_halvesFor_0 rfl rfl ?_
  refine x_callSi dX5_halvesFor_1 msX8_kinOf kX5_45 (k_kinOf E (d + 1) M v (by omega)) (by omega) rfl rfl (Nat.le_of_ble_eq_true rfl) ?_
  rintro _ _ ⟨rfl, rfl⟩
  refine xis5_3 dX5_halvesFor_4 rfl ?_
  refine x_aload_n dX5_halvesFor_5 rfl rfl ?_
  refine x_getr dX5_halvesFor_6 fX5_18 rfl rfl (by decide) ?_
  refine x_getr dX5_halvesFor_9 fX5_49 rfl rfl (by decide) ?_
  refine x_iload_n dX5_halvesFor_12 rfl rfl ?_
  refine x_ialdN dX5_halvesFor_13 rfl (by decide) (by omega) (by decide) (hkd.1) ?_
  refine xis5_4 dX5_halvesFor_14 rfl ?_
  refine x_iload dX5_halvesFor_16 rfl ?_
  refine x_iconst (v := nI 1) dX5_halvesFor_18 (by decide) ?_
  refine x_icmp_eqN (tgt := 35) dX5_halvesFor_19 (by decide) (by omega) (by omega) (fun hc => ?_) (fun hc => ?_)
  · refine x_iconst (v := nI 3) dX5_halvesFor_35 (by decide) ?_
    exact hR _ _ _ _ dX5_halvesFor_36 (⟨by unfold cf; rw [if_pos (Or.inl hc)], rfl⟩)
  have g1 := hc
  have rest : ¬ (kd (v / 4) = 1 ∨ kd (v / 4) = 2 ∧ v % 4 = 0) → X E (d + 2) RX5 cX5_halvesFor 5 C 37 [some (.ref (ad E 31)), some (.int (nI v)), some (.int (nI h)), some (.int (nI (v / 4))), some (.int (nI (kd (v / 4))))] [] M := by
    intro hnot
    have one : ¬ (kd (v / 4) = 3 ∧ par q w n (v / 4) = true) → X E (d + 2) RX5 cX5_halvesFor 5 C 53 [some (.ref (ad E 31)), some (.int (nI v)), some (.int (nI h)), some (.int (nI (v / 4))), some (.int (nI (kd (v / 4))))] [] M := by
      intro hnot3
      have e2 : 1 * 2 ^ h = h + 1 := by rcases (show h = 0 ∨ h = 1 by omega) with rfl | rfl <;> rfl
      refine x_iconst (v := nI 1) dX5_halvesFor_53 (by decide) ?_
      refine x_iload_n dX5_halvesFor_54 rfl rfl ?_
      refine x_ishlN dX5_halvesFor_55 (by omega) (by omega) ?_
      exact hR _ _ _ _ dX5_halvesFor_56 (⟨by unfold cf; rw [if_neg hnot, if_neg hnot3, e2], rfl⟩)
    refine x_iload dX5_halvesFor_37 rfl ?_
    refine x_iconst (v := nI 3) dX5_halvesFor_39 (by decide) ?_
    refine x_icmp_neN (tgt := 53) dX5_halvesFor_40 (by decide) (by omega) (by omega) (fun hc => ?_) (fun hc => ?_)
    · exact one (fun z => hc z.1)
    have g3 := hc
    refine x_aload_n dX5_halvesFor_43 rfl rfl ?_
    refine x_iload_n dX5_halvesFor_44 rfl rfl ?_
    refine x_callVi dX5_halvesFor_45 mvX5_isParted kX5_55 (k_isParted E d M n (v / 4) q w f4 hl (by omega)) rfl (by decide) (by omega) rfl rfl (Nat.le_of_ble_eq_true rfl) ?_
    rintro _ _ ⟨rfl, rfl⟩
    refine x_if_eqB (tgt := 53) dX5_halvesFor_48 (by decide) (fun hc => ?_) (fun hc => ?_)
    · exact one (fun z => by rw [z.2] at hc; cases hc)
    · refine x_iconst (v := nI 0) dX5_halvesFor_51 (by decide) ?_
      exact hR _ _ _ _ dX5_halvesFor_52 (⟨by unfold cf; rw [if_neg hnot, if_pos ⟨g3, hc⟩], rfl⟩)
  refine x_iload dX5_halvesFor_22 rfl ?_
  refine x_iconst (v := nI 2) dX5_halvesFor_24 (by decide) ?_
  refine x_icmp_neN (tgt := 37) dX5_halvesFor_25 (by decide) (by omega) (by omega) (fun hc => ?_) (fun hc => ?_)
  · exact rest (by omega)
  have g2 := hc
  refine x_iload_n dX5_halvesFor_28 rfl rfl ?_
  refine x_callSi dX5_halvesFor_29 msX8_partOf kX5_52 (k_partOf E (d + 1) M v (by omega)) (by omega) rfl rfl (Nat.le_of_ble_eq_true rfl) ?_
  rintro _ _ ⟨rfl, rfl⟩
  refine x_if_neN (tgt := 37) dX5_halvesFor_32 (by decide) (by omega) (fun hc => ?_) (fun hc => ?_)
  · exact rest (by omega)
  · refine x_iconst (v := nI 3) dX5_halvesFor_35 (by decide) ?_
    exact hR _ _ _ _ dX5_halvesFor_36 (⟨by unfold cf; rw [if_pos (Or.inr ⟨g2, hc⟩)], rfl⟩)
/-- cells of one value that count for a half -/
def ctg (kd q w : Nat → Nat) (n h v r c : Nat) : Nat := if q (5 * r + c) = v ∧ cfc kd q w n r c / 2 ^ h % 2 = 1 then 1 else 0
def ctA (kd q w : Nat → Nat) (n h v : Nat) : Nat := fb_sm (fun r => fb_sm (ctg kd q w n h v r) 5) n
def TlC (M : PM) (kd q w : Nat → Nat) (n : Nat) : Prop := (∀ v, v < 20 → M.1 33 v = nI (ctA kd q w n 0 v)) ∧ ∀ v, v < 20 → M.1 33 (20 + v) = nI (ctA kd q w n 1 v)
set_option maxHeartbeats 8000000 in
theorem k_take (E : Ev) (d : Nat) (M : PM) (a b n K D : Nat) (q w kd pt nd : Nat → Nat) (hH : Hc M n K D kd pt nd) (h : Cw M a b n q w) (hqK : ∀ r c, r < n → c < 5 → q (5 * r + c) < 4 * K) : Cv E (d + 3) mX5_take [.ref (ad E 31), .ref (ad E a), .ref (ad E b)] M (fun N => Fr M N [32, 33] ∧ LdC N n q w ∧ TlC N kd q w n) := by
  obtain ⟨f1, f2, f3, f4, f5, f6, f7, f8, f9⟩ := id hH
  obtain ⟨la, ca, lb, cb, hn5, hq, hw⟩ := id h
  have ha32 : a ∉ [32, 33] := by simp; constructor <;> (rintro rfl; exact absurd la (by decide))
  have hb32 : b ∉ [32, 33] := by simp; constructor <;> (rintro rfl; exact absurd lb (by decide))
  refine Ct.ofv [some (.ref (ad E 31)), some (.ref (ad E a)), some (.ref (ad E b)), none, none, none, none] (own := RX5) rfl (by decide) (Nat.le_of_ble_eq_true rfl) rfl (fun C hR => ?_)
  refine x_aload_n dX5_take_0 rfl rfl ?_
  refine x_aload_n dX5_take_1 rfl rfl ?_
  refine x_aload_n dX5_take_2 rfl rfl ?_
  refine x_callVv dX5_take_3 mvX5_countCells kX5_22 (k_countCells E (d + 1) M a b n q w f1 h) rfl (by decide) (by omega) rfl rfl (Nat.le_of_ble_eq_true rfl) ?_
  rintro N0 ⟨hN0, hl0⟩
  refine x_aload_n dX5_take_6 rfl rfl ?_
  refine x_getr dX5_take_7 fX5_15 rfl rfl (by decide) ?_
  refine x_iconst (v := nI 0) dX5_take_10 (by decide) ?_
  refine x_callSv dX5_take_11 msJ7_fill_53178 kX5_26 (c_fill E (d + 2) N0 33 40 (nI 0) rfl (by decide) (by decide)) (by omega) rfl rfl (Nat.le_of_ble_eq_true rfl) ?_
  rintro _ rfl
  refine x_iconst (v := nI 0) dX5_take_14 (by decide) ?_
  refine xis7_3 dX5_take_15 rfl ?_
  have key2 : ∀ r, r ≤ n → ∀ N l4 l5 l6, Fr M N [32, 33] → LdC N n q w → (∀ v, v < 20 → N.1 33 v = nI (fb_sm (fun r => fb_sm (ctg kd q w n 0 v r) 5) r) ∧ N.1 33 (20 + v) = nI (fb_sm (fun r => fb_sm (ctg kd q w n 1 v r) 5) r)) → X E (d + 3) RX5 cX5_take 7 C 16 [some (.ref (ad E 31)), some (.ref (ad E a)), some (.ref (ad E b)), some (.int (nI r)), l4, l5, l6] [] N := by
    refine up_loop n ?_ ?_
    · intro N l4 l5 l6 hN hl hk
      refine x_iload_n dX5_take_16 rfl rfl ?_
      refine x_aload_n dX5_take_17 rfl rfl ?_
      refine x_getr dX5_take_18 fX5_18 rfl rfl (by decide) ?_
      refine x_getv (hN.v (by decide) f1) dX5_take_21 fX5_32 rfl rfl (by decide) ?_
      refine x_icmp_geN (tgt := 105) dX5_take_24 (by decide) (by omega) (by omega) (fun hc => ?_) (fun hc => ?_)
      · exact hR _ _ _ dX5_take_105 (⟨hN, hl, fun v hv => (hk v hv).1, fun v hv => (hk v hv).2⟩)
      · exact absurd hc (by omega)
    · intro r hr ih N l4 l5 l6 hN hl hk
      refine x_iload_n dX5_take_16 rfl rfl ?_
      refine x_aload_n dX5_take_17 rfl rfl ?_
      refine x_getr dX5_take_18 fX5_18 rfl rfl (by decide) ?_
      refine x_getv (hN.v (by decide) f1) dX5_take_21 fX5_32 rfl rfl (by decide) ?_
      refine x_icmp_geN (tgt := 105) dX5_take_24 (by decide) (by omega) (by omega) (fun hc => ?_) (fun hc => ?_)
      · exact absurd hc (by omega)
      refine x_iconst (v := nI 0) dX5_take_27 (by decide) ?_
      refine xis7_4 dX5_take_28 rfl ?_
      have key3 : ∀ c, c ≤ 5 → ∀ N l5 l6, Fr M N [32, 33] → LdC N n q w → (∀ v, v < 20 → N.1 33 v = nI (fb_sm (fun r => fb_sm (ctg kd q w n 0 v r) 5) r + fb_sm (ctg kd q w n 0 v r) c) ∧ N.1 33 (20 + v) = nI (fb_sm (fun r => fb_sm (ctg kd q w n 1 v r) 5) r + fb_sm (ctg kd q w n 1 v r) c)) → X E (d + 3) RX5 cX5_take 7 C 30 [some (.ref (ad E 31)), some (.ref (ad E a)), some (.ref (ad E b)), some (.int (nI r)), some (.int (nI c)), l5, l6] [] N := by
        refine up_loop 5 ?_ ?_
        · intro N l5 l6 hN hl hk
          refine x_iload dX5_take_30 rfl ?_
          refine x_iconst (v := nI 5) dX5_take_32 (by decide) ?_
          refine x_icmp_geN (tgt := 99) dX5_take_33 (by decide) (by omega) (by omega) (fun hc => ?_) (fun hc => ?_)
          · refine xinc7_3N dX5_take_99 rfl ?_
            refine x_goto (tgt := 16) dX5_take_102 (by decide) ?_
            exact ih N _ _ _ hN hl hk
          · exact absurd hc (by omega)
        · intro c hc5 ih3 N l5 l6 hN hl hk
          have hcell := hq r c hr hc5
          have hqk := hqK r c hr hc5
          have hwr := hw r hr
          have hh := hf_le w r c
          have hcf := cf_le kd (par q w n) (q (5 * r + c)) hh
          have hHN : Hc N n K D kd pt nd := hH.fr hN (by decide) (by decide) (by decide) (by decide)
          have ecf : cf kd (par q w n) (q (5 * r + c)) (hf w r c) = cfc kd q w n r c := rfl
          refine x_iload dX5_take_30 rfl ?_
          refine x_iconst (v := nI 5) dX5_take_32 (by decide) ?_
          refine x_icmp_geN (tgt := 99) dX5_take_33 (by decide) (by omega) (by omega) (fun hc => ?_) (fun hc => ?_)
          · exact absurd hc (by omega)
          refine x_aload_n dX5_take_36 rfl rfl ?_
          refine x_iload_n dX5_take_37 rfl rfl ?_
          refine x_iconst (v := nI 5) dX5_take_38 (by decide) ?_
          refine x_imulN dX5_take_39 ?_
          refine x_iload dX5_take_40 rfl ?_
          refine x_iaddN dX5_take_42 ?_
          refine x_ialdN dX5_take_43 la ca (by omega) (by decide) (hN.v ha32 hcell.1) ?_
          refine xis7_5 dX5_take_44 rfl ?_
          refine x_aload_n dX5_take_46 rfl rfl ?_
          refine x_iload dX5_take_47 rfl ?_
          refine x_iload dX5_take_49 rfl ?_
          refine x_aload_n dX5_take_51 rfl rfl ?_
          refine x_iload_n dX5_take_52 rfl rfl ?_
          refine x_ialdN dX5_take_53 lb cb (by omega) (by decide) (hN.v hb32 hwr.1) ?_
          refine x_callSi dX5_take_54 msX8_halfOf kX5_38 (k_halfOf E (d + 2) N c w r (by omega) (by omega)) (by omega) rfl rfl (Nat.le_of_ble_eq_true rfl) ?_
          rintro _ _ ⟨rfl, rfl⟩
          refine x_callVi dX5_take_57 mvX5_halvesFor kX5_42 (k_halvesFor E d N n K D (q (5 * r + c)) (hf w r c) q w kd pt nd hHN hl hqk hh) rfl (by decide) (by omega) rfl rfl (Nat.le_of_ble_eq_true rfl) ?_
          rintro _ _ ⟨rfl, rfl⟩
          refine xis7_6 dX5_take_60 rfl ?_
          rw [ecf] at hcf ⊢
          refine x_aload_n dX5_take_62 rfl rfl ?_
          refine x_getr dX5_take_63 fX5_15 rfl rfl (by decide) ?_
          refine x_iload dX5_take_66 rfl ?_
          refine x_dup2 dX5_take_68 rfl rfl ?_
          refine x_ialdN dX5_take_69 rfl (by decide) (by omega) (by decide) ((hk _ hcell.2).1) ?_
          refine x_iload dX5_take_70 rfl ?_
          refine x_iconst (v := nI 1) dX5_take_72 (by decide) ?_
          refine x_and1N dX5_take_73 ?_
          refine x_iaddN dX5_take_74 ?_
          refine x_iastN dX5_take_75 rfl (by decide) (by omega) (by decide) ?_
          refine x_aload_n dX5_take_76 rfl rfl ?_
          refine x_getr dX5_take_77 fX5_15 rfl rfl (by decide) ?_
          refine x_bipush (v := nI 20) dX5_take_80 (by decide) ?_
          refine x_iload dX5_take_82 rfl ?_
          refine x_iaddN dX5_take_84 ?_
          refine x_dup2 dX5_take_85 rfl rfl ?_
          refine x_ialdN dX5_take_86 rfl (by decide) (by omega) (by decide) (sau_v (by omega) (hk _ hcell.2).2) ?_
          refine x_iload dX5_take_87 rfl ?_
          refine x_iconst (v := nI 1) dX5_take_89 (by decide) ?_
          refine x_ishrN dX5_take_90 (by omega) (by omega) ?_
          refine x_iaddN dX5_take_91 ?_
          refine x_iastN dX5_take_92 rfl (by decide) (by omega) (by decide) ?_
          refine xinc7_4N dX5_take_93 rfl ?_
          refine x_goto (tgt := 30) dX5_take_96 (by decide) ?_
          refine ih3 _ _ _ ((hN.sa (by decide)).sa (by decide)) ⟨fun k hk => by rw [sa_ne (by decide), sa_ne (by decide)]; exact hl.1 k hk, fun k hk => by rw [sa_ne (by decide), sa_ne (by decide)]; exact hl.2 k hk⟩ (fun v hv => ?_)
          have b0 : ∀ v, fb_sm (ctg kd q w n 0 v r) (c + 1) = fb_sm (ctg kd q w n 0 v r) c + if q (5 * r + c) = v then cfc kd q w n r c % 2 else 0 := by
            intro v
            rw [fb_sm_succ]; unfold ctg; congr 1
            by_cases z : q (5 * r + c) = v
            · rw [if_pos z]
              by_cases z2 : cfc kd q w n r c % 2 = 1
              · rw [if_pos ⟨z, by rw [Nat.pow_zero, Nat.div_one]; exact z2⟩, z2]
              · rw [if_neg (fun y => z2 (by have := y.2; rw [Nat.pow_zero, Nat.div_one] at this; exact this))]; omega
            · rw [if_neg z, if_neg (fun y => z y.1)]
          have b1 : ∀ v, fb_sm (ctg kd q w n 1 v r) (c + 1) = fb_sm (ctg kd q w n 1 v r) c + if q (5 * r + c) = v then cfc kd q w n r c / 2 ^ 1 else 0 := by
            intro v
            rw [fb_sm_succ]; unfold ctg; congr 1
            by_cases z : q (5 * r + c) = v
            · rw [if_pos z]
              by_cases z2 : cfc kd q w n r c / 2 ^ 1 % 2 = 1
              · rw [if_pos ⟨z, z2⟩]; omega
              · rw [if_neg (fun y => z2 y.2)]; omega
            · rw [if_neg z, if_neg (fun y => z y.1)]
          rw [sa_1, sa_1, b0, b1]
          by_cases z : v = q (5 * r + c)
          · subst z
            rw [pk_un (by omega), pk_us, pk_us, if_pos rfl, if_pos rfl, Nat.add_assoc, Nat.add_assoc]
            exact ⟨rfl, rfl⟩
          · rw [pk_un (by omega), pk_un z, pk_un (by omega), pk_un (by omega), if_neg (Ne.symm z), if_neg (Ne.symm z)]
            exact hk v hv
      exact key3 0 (by omega) N _ _ hN hl hk
  refine key2 0 (by omega) _ _ _ _ ((hN0.wd (by decide) : Fr M N0 [32, 33]).sa (by decide)) ⟨fun k hk => by rw [sa_ne (by decide)]; exact hl0.1 k hk, fun k hk => by rw [sa_ne (by decide)]; exact hl0.2 k hk⟩ (fun v hv => ?_)
  rw [sa_1, fa_fill_in (by omega), fa_fill_in (by omega)]
  exact ⟨rfl, rfl⟩
-- counts by kin and part are the counts by part
theorem sm_swap (f : Nat → Nat → Nat) (m : Nat) : ∀ n, fb_sm (fun k => fb_sm (f k) m) n = fb_sm (fun j => fb_sm (fun k => f k j) n) m
  | 0 => by
    show 0 = fb_sm (fun j => 0) m
    rw [fb_sm_const, Nat.mul_zero]
  | n + 1 => by
    rw [fb_sm_succ, sm_swap f m n, ← fb_sm_add]
    rfl
theorem sm_if (p : Prop) [Decidable p] (f : Nat → Nat) (m : Nat) : (if p then fb_sm f m else 0) = fb_sm (fun j => if p then f j else 0) m := by
  by_cases h : p
  · rw [if_pos h]; exact fb_sm_cong (fun k _ => by rw [if_pos h])
  · rw [if_neg h]
    have : fb_sm (fun j => if p then f j else 0) m = fb_sm (fun _ => 0) m := fb_sm_cong (fun k _ => by rw [if_neg h])
    rw [this, fb_sm_const, Nat.mul_zero]
theorem sm_one (g : Nat → Nat) {k0 : Nat} : ∀ {n : Nat}, k0 < n → (∀ k, k < n → k ≠ k0 → g k = 0) → fb_sm g n = g k0
  | 0, h, _ => absurd h (Nat.not_lt_zero _)
  | n + 1, h, hz => by
    rw [fb_sm_succ]
    by_cases e : k0 = n
    · subst e
      have : fb_sm g k0 = fb_sm (fun _ => 0) k0 := fb_sm_cong (fun k hk => hz k (by omega) (by omega))
      rw [this, fb_sm_const, Nat.mul_zero, Nat.zero_add]
    · rw [sm_one g (n := n) (by omega) (fun k hk => hz k (by omega)), hz n (by omega) (fun z => e z.symm), Nat.add_zero]
theorem cnt_tally {kd q w : Nat → Nat} {n K h p S : Nat} (hp : p < 4) (hqK : ∀ r c, r < n → c < 5 → q (5 * r + c) < 4 * K) : fb_sm (fun k => if S / 2 ^ k % 2 = 1 then ctA kd q w n h (4 * k + p) else 0) K = cnt kd q w n h p S := by
  have e1 : fb_sm (fun k => if S / 2 ^ k % 2 = 1 then ctA kd q w n h (4 * k + p) else 0) K = fb_sm (fun k => fb_sm (fun r => fb_sm (fun c => if S / 2 ^ k % 2 = 1 then ctg kd q w n h (4 * k + p) r c else 0) 5) n) K := by
    refine fb_sm_cong (fun k _ => ?_)
    unfold ctA
    rw [sm_if]
    exact fb_sm_cong (fun r _ => sm_if _ _ _)
  rw [e1, sm_swap]
  unfold cnt
  refine fb_sm_cong (fun r hr => ?_)
  rw [sm_swap]
  refine fb_sm_cong (fun c hc => ?_)
  have hk := hqK r c hr hc
  rw [sm_one (fun k => if S / 2 ^ k % 2 = 1 then ctg kd q w n h (4 * k + p) r c else 0) (k0 := q (5 * r + c) / 4) (by omega)]
  · unfold ctg cng
    by_cases b1 : S / 2 ^ (q (5 * r + c) / 4) % 2 = 1
    · rw [if_pos b1]
      by_cases b2 : q (5 * r + c) % 4 = p
      · by_cases b3 : cfc kd q w n r c / 2 ^ h % 2 = 1
        · rw [if_pos ⟨by omega, b3⟩, if_pos ⟨b2, b1, b3⟩]
        · rw [if_neg (fun z => b3 z.2), if_neg (fun z => b3 z.2.2)]
      · rw [if_neg (fun z => b2 (by omega)), if_neg (fun z => b2 z.1)]
    · rw [if_neg b1, if_neg (fun z => b1 z.2.1)]
  · intro k hk2 hne
    unfold ctg
    split
    · rw [if_neg (fun z => hne (by omega))]
    · rfl
theorem ctA_le {kd q w : Nat → Nat} {n h v : Nat} (hn : n ≤ 5) : ctA kd q w n h v ≤ 25 := sm2_le (fun r c => by unfold ctg; split <;> omega) hn
theorem TlC.at {M : PM} {kd q w : Nat → Nat} {n h k p : Nat} (ht : TlC M kd q w n) (hh : h < 2) (hk : k < 5) (hp : p < 4) : M.1 33 ((h * 5 + k) * 4 + p) = nI (ctA kd q w n h (4 * k + p)) := by
  rcases (show h = 0 ∨ h = 1 by omega) with rfl | rfl
  · rw [show (0 * 5 + k) * 4 + p = 4 * k + p by omega]; exact ht.1 _ (by omega)
  · rw [show (1 * 5 + k) * 4 + p = 20 + (4 * k + p) by omega]; exact ht.2 _ (by omega)
set_option maxHeartbeats 8000000 in
theorem k_counted (E : Ev) (d : Nat) (M : PM) (n K h p S : Nat) (q w kd : Nat → Nat) (hK : M.1 3 4 = nI K) (hK5 : K ≤ 5) (ht : TlC M kd q w n) (hh : h < 2) (hp : p < 4) (hS : S < 32) (hqK : ∀ r c, r < n → c < 5 → q (5 * r + c) < 4 * K) : Ci E d mX5_counted [.ref (ad E 31), .int (nI h), .int (nI p), .int (nI S)] M (fun v N => v = nI (cnt kd q w n h p S) ∧ M = N) := by
  rw [← cnt_tally hp hqK]
  refine Ct.ofi [some (.ref (ad E 31)), some (.int (nI h)), some (.int (nI p)), some (.int (nI S)), none, none] (own := RX5) rfl (by decide) (Nat.le_of_ble_eq_true rfl) rfl (fun C hR => ?_)
  refine x_iconst (v := nI 0) dX5_counted_0 (by decide) ?_
  refine xis6_4 dX5_counted_1 rfl ?_
  refine x_iconst (v := nI 0) dX5_counted_3 (by decide) ?_
  refine xis6_5 dX5_counted_4 rfl ?_
  have key : ∀ i, i ≤ K → X E d RX5 cX5_counted 6 C 6 [some (.ref (ad E 31)), some (.int (nI h)), some (.int (nI p)), some (.int (nI S)), some (.int (nI (fb_sm (fun k => if S / 2 ^ k % 2 = 1 then ctA kd q w n h (4 * k + p) else 0) i))), some (.int (nI i))] [] M := by
    refine up_loop K ?_ ?_
    · refine x_iload dX5_counted_6 rfl ?_
      refine x_aload_n dX5_counted_8 rfl rfl ?_
      refine x_getr dX5_counted_9 fX5_18 rfl rfl (by decide) ?_
      refine x_getv (hK) dX5_counted_12 fX5_62 rfl rfl (by decide) ?_
      refine x_icmp_geN (tgt := 54) dX5_counted_15 (by decide) (by omega) (by omega) (fun hc => ?_) (fun hc => ?_)
      · refine x_iload dX5_counted_54 rfl ?_
        exact hR _ _ _ _ dX5_counted_56 (⟨rfl, rfl⟩)
      · exact absurd hc (by omega)
    · intro i hi ih
      rw [fb_sm_succ] at ih
      refine x_iload dX5_counted_6 rfl ?_
      refine x_aload_n dX5_counted_8 rfl rfl ?_
      refine x_getr dX5_counted_9 fX5_18 rfl rfl (by decide) ?_
      refine x_getv (hK) dX5_counted_12 fX5_62 rfl rfl (by decide) ?_
      refine x_icmp_geN (tgt := 54) dX5_counted_15 (by decide) (by omega) (by omega) (fun hc => ?_) (fun hc => ?_)
      · exact absurd hc (by omega)
      refine x_iload_n dX5_counted_18 rfl rfl ?_
      refine x_iload dX5_counted_19 rfl ?_
      refine x_ishrN dX5_counted_21 (by omega) (by omega) ?_
      refine x_iconst (v := nI 1) dX5_counted_22 (by decide) ?_
      refine x_and1N dX5_counted_23 ?_
      refine x_iconst (v := nI 1) dX5_counted_24 (by decide) ?_
      refine x_icmp_neN (tgt := 48) dX5_counted_25 (by decide) (by omega) (by omega) (fun hc => ?_) (fun hc => ?_)
      · rw [if_neg hc, Nat.add_zero] at ih
        refine xinc6_5N dX5_counted_48 rfl ?_
        refine x_goto (tgt := 6) dX5_counted_51 (by decide) ?_
        exact ih
      · rw [if_pos hc] at ih
        refine x_iload dX5_counted_28 rfl ?_
        refine x_aload_n dX5_counted_30 rfl rfl ?_
        refine x_getr dX5_counted_31 fX5_15 rfl rfl (by decide) ?_
        refine x_iload_n dX5_counted_34 rfl rfl ?_
        refine x_iconst (v := nI 5) dX5_counted_35 (by decide) ?_
        refine x_imulN dX5_counted_36 ?_
        refine x_iload dX5_counted_37 rfl ?_
        refine x_iaddN dX5_counted_39 ?_
        refine x_iconst (v := nI 4) dX5_counted_40 (by decide) ?_
        refine x_imulN dX5_counted_41 ?_
        refine x_iload_n dX5_counted_42 rfl rfl ?_
        refine x_iaddN dX5_counted_43 ?_
        refine x_ialdN dX5_counted_44 rfl (by decide) (by omega) (by decide) (ht.at hh (by omega) hp) ?_
        refine x_iaddN dX5_counted_45 ?_
        refine xis6_4 dX5_counted_46 rfl ?_
        refine xinc6_5N dX5_counted_48 rfl ?_
        refine x_goto (tgt := 6) dX5_counted_51 (by decide) ?_
        exact ih
  exact key 0 (by omega)
set_option maxHeartbeats 8000000 in
theorem k_countedOf (E : Ev) (d : Nat) (M : PM) (n K h k : Nat) (q w kd : Nat → Nat) (hK5 : K ≤ 5) (hk : k < K) (ht : TlC M kd q w n) (hh : h < 2) (hqK : ∀ r c, r < n → c < 5 → q (5 * r + c) < 4 * K) : Ci E d mX5_countedOf [.ref (ad E 31), .int (nI h), .int (nI k)] M (fun v N => v = nI (cof kd q w n h k) ∧ M = N) := by
  have ec : cof kd q w n h k = fb_sm (fun p => ctA kd q w n h (4 * k + p)) 4 := by
    unfold cof
    refine fb_sm_cong (fun p hp => ?_)
    rw [← cnt_tally hp hqK, sm_one _ hk]
    · rw [Nat.div_self (Nat.two_pow_pos k), if_pos rfl]
    · intro j hj hne
      have hb : 2 ^ k / 2 ^ j % 2 ≠ 1 := by
        intro z
        have t : (2 ^ k).testBit j = true := by rw [Nat.testBit_eq_decide_div_mod_eq, z]; rfl
        rw [Nat.testBit_two_pow] at t
        exact hne (of_decide_eq_true t).symm
      show (if 2 ^ k / 2 ^ j % 2 = 1 then _ else 0) = 0
      rw [if_neg hb]
  rw [ec]
  refine Ct.ofi [some (.ref (ad E 31)), some (.int (nI h)), some (.int (nI k)), none, none] (own := RX5) rfl (by decide) (Nat.le_of_ble_eq_true rfl) rfl (fun C hR => ?_)
  refine x_iconst (v := nI 0) dX5_countedOf_0 (by decide) ?_
  refine xis5_3 dX5_countedOf_1 rfl ?_
  refine x_iconst (v := nI 0) dX5_countedOf_2 (by decide) ?_
  refine xis5_4 dX5_countedOf_3 rfl ?_
  have key : ∀ i, i ≤ 4 → X E d RX5 cX5_countedOf 5 C 5 [some (.ref (ad E 31)), some (.int (nI h)), some (.int (nI k)), some (.int (nI (fb_sm (fun p => ctA kd q w n h (4 * k + p)) i))), some (.int (nI i))] [] M := by
    refine up_loop 4 ?_ ?_
    · refine x_iload dX5_countedOf_5 rfl ?_
      refine x_iconst (v := nI 4) dX5_countedOf_7 (by decide) ?_
      refine x_icmp_geN (tgt := 35) dX5_countedOf_8 (by decide) (by omega) (by omega) (fun hc => ?_) (fun hc => ?_)
      · refine x_iload_n dX5_countedOf_35 rfl rfl ?_
        exact hR _ _ _ _ dX5_countedOf_36 (⟨rfl, rfl⟩)
      · exact absurd hc (by omega)
    · intro i hi ih
      rw [fb_sm_succ] at ih
      refine x_iload dX5_countedOf_5 rfl ?_
      refine x_iconst (v := nI 4) dX5_countedOf_7 (by decide) ?_
      refine x_icmp_geN (tgt := 35) dX5_countedOf_8 (by decide) (by omega) (by omega) (fun hc => ?_) (fun hc => ?_)
      · exact absurd hc (by omega)
      refine x_iload_n dX5_countedOf_11 rfl rfl ?_
      refine x_aload_n dX5_countedOf_12 rfl rfl ?_
      refine x_getr dX5_countedOf_13 fX5_15 rfl rfl (by decide) ?_
      refine x_iload_n dX5_countedOf_16 rfl rfl ?_
      refine x_iconst (v := nI 5) dX5_countedOf_17 (by decide) ?_
      refine x_imulN dX5_countedOf_18 ?_
      refine x_iload_n dX5_countedOf_19 rfl rfl ?_
      refine x_iaddN dX5_countedOf_20 ?_
      refine x_iconst (v := nI 4) dX5_countedOf_21 (by decide) ?_
      refine x_imulN dX5_countedOf_22 ?_
      refine x_iload dX5_countedOf_23 rfl ?_
      refine x_iaddN dX5_countedOf_25 ?_
      refine x_ialdN dX5_countedOf_26 rfl (by decide) (by omega) (by decide) (ht.at hh (by omega) hi) ?_
      refine x_iaddN dX5_countedOf_27 ?_
      refine xis5_3 dX5_countedOf_28 rfl ?_
      refine xinc5_4N dX5_countedOf_29 rfl ?_
      refine x_goto (tgt := 5) dX5_countedOf_32 (by decide) ?_
      exact ih
  exact key 0 (by omega)
set_option maxHeartbeats 8000000 in
theorem k_isDone (E : Ev) (d : Nat) (M : PM) (n K D e h S : Nat) (q w kd pt nd : Nat → Nat) (hH : Hc M n K D kd pt nd) (ht : TlC M kd q w n) (he : e < D) (hh : h < 2) (hS : S < 32) (hqK : ∀ r c, r < n → c < 5 → q (5 * r + c) < 4 * K) : Ci E (d + 1) mX5_isDone [.ref (ad E 31), .int (nI e), .int (nI h), .int (nI S)] M (fun v N => v = bI (decide (nd e ≤ cnt kd q w n h (pt e) S)) ∧ M = N) := by
  obtain ⟨f1, f2, f3, f4, f5, f6, f7, f8, f9⟩ := id hH
  have hpt := f8 e he
  have hnd := f9 e he
  have hcn := cnt_le (kd := kd) (q := q) (w := w) (h := h) (p := pt e) (S := S) f4
  refine Ct.ofz [some (.ref (ad E 31)), some (.int (nI e)), some (.int (nI h)), some (.int (nI S))] (own := RX5) rfl (by decide) (Nat.le_of_ble_eq_true rfl) rfl (fun C hR => ?_)
  refine x_aload_n dX5_isDone_0 rfl rfl ?_
  refine x_iload_n dX5_isDone_1 rfl rfl ?_
  refine x_aload_n dX5_isDone_2 rfl rfl ?_
  refine x_getr dX5_isDone_3 fX5_18 rfl rfl (by decide) ?_
  refine x_getr dX5_isDone_6 fX5_74 rfl rfl (by decide) ?_
  refine x_iload_n dX5_isDone_9 rfl rfl ?_
  refine x_ialdN dX5_isDone_10 rfl (by decide) (by omega) (by decide) (hpt.1) ?_
  refine x_iload_n dX5_isDone_11 rfl rfl ?_
  refine x_callVi dX5_isDone_12 mvX5_counted kX5_77 (k_counted E d M n K h (pt e) S q w kd f2 f5 ht hh hpt.2 hS hqK) rfl (by decide) (by omega) rfl rfl (Nat.le_of_ble_eq_true rfl) ?_
  rintro _ _ ⟨rfl, rfl⟩
  refine x_aload_n dX5_isDone_15 rfl rfl ?_
  refine x_getr dX5_isDone_16 fX5_18 rfl rfl (by decide) ?_
  refine x_getr dX5_isDone_19 fX5_81 rfl rfl (by decide) ?_
  refine x_iload_n dX5_isDone_22 rfl rfl ?_
  refine x_ialdN dX5_isDone_23 rfl (by decide) (by omega) (by decide) (hnd.1) ?_
  refine x_icmp_ltN (tgt := 31) dX5_isDone_24 (by decide) (by omega) (by omega) (fun hc => ?_) (fun hc => ?_)
  · refine x_iconst (v := nI 0) dX5_isDone_31 (by decide) ?_
    exact hR _ _ _ _ dX5_isDone_32 (by first | exact bI_n _ | decide) (⟨(dec_f (by omega)).symm, rfl⟩)
  · refine x_iconst (v := nI 1) dX5_isDone_27 (by decide) ?_
    refine x_goto (tgt := 32) dX5_isDone_28 (by decide) ?_
    exact hR _ _ _ _ dX5_isDone_32 (by first | exact bI_n _ | decide) (⟨(dec_t hc).symm, rfl⟩)
set_option maxHeartbeats 8000000 in
theorem k_deedBits (E : Ev) (d : Nat) (M : PM) (n K D h S : Nat) (q w kd pt nd : Nat → Nat) (hH : Hc M n K D kd pt nd) (ht : TlC M kd q w n) (hh : h < 2) (hS : S < 32) (hqK : ∀ r c, r < n → c < 5 → q (5 * r + c) < 4 * K) : Ci E (d + 2) mX5_deedBits [.ref (ad E 31), .int (nI h), .int (nI S)] M (fun v N => v = nI (canB kd q w n D pt nd h S) ∧ M = N) := by
  obtain ⟨f1, f2, f3, f4, f5, f6, f7, f8, f9⟩ := id hH
  refine Ct.ofi [some (.ref (ad E 31)), some (.int (nI h)), some (.int (nI S)), none, none] (own := RX5) rfl (by decide) (Nat.le_of_ble_eq_true rfl) rfl (fun C hR => ?_)
  refine x_iconst (v := nI 0) dX5_deedBits_0 (by decide) ?_
  refine xis5_3 dX5_deedBits_1 rfl ?_
  refine x_iconst (v := nI 0) dX5_deedBits_2 (by decide) ?_
  refine xis5_4 dX5_deedBits_3 rfl ?_
  have key : ∀ i, i ≤ D → X E (d + 2) RX5 cX5_deedBits 5 C 5 [some (.ref (ad E 31)), some (.int (nI h)), some (.int (nI S)), some (.int (nI (canB kd q w n i pt nd h S))), some (.int (nI i))] [] M := by
    refine up_loop D ?_ ?_
    · refine x_iload dX5_deedBits_5 rfl ?_
      refine x_aload_n dX5_deedBits_7 rfl rfl ?_
      refine x_getr dX5_deedBits_8 fX5_18 rfl rfl (by decide) ?_
      refine x_getv (f3) dX5_deedBits_11 fX5_84 rfl rfl (by decide) ?_
      refine x_icmp_geN (tgt := 41) dX5_deedBits_14 (by decide) (by omega) (by omega) (fun hc => ?_) (fun hc => ?_)
      · refine x_iload_n dX5_deedBits_41 rfl rfl ?_
        exact hR _ _ _ _ dX5_deedBits_42 (⟨rfl, rfl⟩)
      · exact absurd hc (by omega)
    · intro i hi ih
      have hlt := canB_lt kd q w n i pt nd h S
      have h2 := p2 (show i ≤ 5 by omega)
      rw [show canB kd q w n (i + 1) pt nd h S = canB kd q w n i pt nd h S + if nd i ≤ cnt kd q w n h (pt i) S then 2 ^ i else 0 from rfl] at ih
      refine x_iload dX5_deedBits_5 rfl ?_
      refine x_aload_n dX5_deedBits_7 rfl rfl ?_
      refine x_getr dX5_deedBits_8 fX5_18 rfl rfl (by decide) ?_
      refine x_getv (f3) dX5_deedBits_11 fX5_84 rfl rfl (by decide) ?_
      refine x_icmp_geN (tgt := 41) dX5_deedBits_14 (by decide) (by omega) (by omega) (fun hc => ?_) (fun hc => ?_)
      · exact absurd hc (by omega)
      refine x_aload_n dX5_deedBits_17 rfl rfl ?_
      refine x_iload dX5_deedBits_18 rfl ?_
      refine x_iload_n dX5_deedBits_20 rfl rfl ?_
      refine x_iload_n dX5_deedBits_21 rfl rfl ?_
      refine x_callVi dX5_deedBits_22 mvX5_isDone kX5_87 (k_isDone E d M n K D i h S q w kd pt nd hH ht hi hh hS hqK) rfl (by decide) (by omega) rfl rfl (Nat.le_of_ble_eq_true rfl) ?_
      rintro _ _ ⟨rfl, rfl⟩
      refine x_if_eqB (tgt := 35) dX5_deedBits_25 (by decide) (fun hc => ?_) (fun hc => ?_)
      · rw [if_neg (of_decide_eq_false hc), Nat.add_zero] at ih
        refine xinc5_4N dX5_deedBits_35 rfl ?_
        refine x_goto (tgt := 5) dX5_deedBits_38 (by decide) ?_
        exact ih
      · rw [if_pos (of_decide_eq_true hc), ← bits_or hlt] at ih
        refine x_iload_n dX5_deedBits_28 rfl rfl ?_
        refine x_iconst (v := nI 1) dX5_deedBits_29 (by decide) ?_
        refine x_iload dX5_deedBits_30 rfl ?_
        refine x_ishlN dX5_deedBits_32 (by omega) (by omega) ?_
        refine x_iorN dX5_deedBits_33 ?_
        refine xis5_3 dX5_deedBits_34 rfl ?_
        refine xinc5_4N dX5_deedBits_35 rfl ?_
        refine x_goto (tgt := 5) dX5_deedBits_38 (by decide) ?_
        rw [Nat.one_mul]
        exact ih
  exact key 0 (by omega)
set_option maxHeartbeats 8000000 in
theorem k_deedCount (E : Ev) (d : Nat) (M : PM) (n K D h : Nat) (q w kd pt nd : Nat → Nat) (hH : Hc M n K D kd pt nd) (ht : TlC M kd q w n) (hh : h < 2) (hqK : ∀ r c, r < n → c < 5 → q (5 * r + c) < 4 * K) : Ci E (d + 3) mX5_deedCount [.ref (ad E 31), .int (nI h)] M (fun v N => v = nI (pop (canB kd q w n D pt nd h 31)) ∧ M = N) := by
  have hlt := canB_lt kd q w n D pt nd h 31
  have h2 := p2 (show D ≤ 5 by have := hH.2.2.2.2.2.1; omega)
  refine Ct.ofi [some (.ref (ad E 31)), some (.int (nI h))] (own := RX5) rfl (by decide) (Nat.le_of_ble_eq_true rfl) rfl (fun C hR => ?_)
  refine x_aload_n dX5_deedCount_0 rfl rfl ?_
  refine x_iload_n dX5_deedCount_1 rfl rfl ?_
  refine x_bipush (v := nI 31) dX5_deedCount_2 (by decide) ?_
  refine x_callVi dX5_deedCount_4 mvX5_deedBits kX5_91 (k_deedBits E d M n K D h 31 q w kd pt nd hH ht hh (by decide) hqK) rfl (by decide) (by omega) rfl rfl (Nat.le_of_ble_eq_true rfl) ?_
  rintro _ _ ⟨rfl, rfl⟩
  refine x_callSi dX5_deedCount_7 msJ6_bitCount_0f7a4 kX5_69 (c_bitCount E (d + 2) M _ (by omega)) (by omega) rfl rfl (Nat.le_of_ble_eq_true rfl) ?_
  rintro _ _ ⟨rfl, rfl⟩
  exact hR _ _ _ _ dX5_deedCount_10 (⟨rfl, rfl⟩)
set_option maxHeartbeats 8000000 in
theorem k_worth (E : Ev) (d : Nat) (M : PM) (n K h f : Nat) (q w kd : Nat → Nat) (hK : M.1 3 4 = nI K) (hK5 : K ≤ 5) (ht : TlC M kd q w n) (hh : h < 2) (hf : f < 10000) (hqK : ∀ r c, r < n → c < 5 → q (5 * r + c) < 4 * K) : Ci E (d + 1) mX5_worth [.ref (ad E 31), .int (nI h), .int (nI f)] M (fun v N => v = nI (woA kd q w n h f) ∧ M = N) := by
  refine Ct.ofi [some (.ref (ad E 31)), some (.int (nI h)), some (.int (nI f)), none, none, none] (own := RX5) rfl (by decide) (Nat.le_of_ble_eq_true rfl) rfl (fun C hR => ?_)
  refine x_iconst (v := nI 0) dX5_worth_0 (by decide) ?_
  refine xis6_3 dX5_worth_1 rfl ?_
  refine x_iload_n dX5_worth_2 rfl rfl ?_
  refine xis6_4 dX5_worth_3 rfl ?_
  refine x_iconst (v := nI 3) dX5_worth_5 (by decide) ?_
  refine xis6_5 dX5_worth_6 rfl ?_
  refine x_iload dX5_worth_8 rfl ?_
  refine x_if_ltN (tgt := 44) dX5_worth_10 (by decide) (by omega) ?_
  refine x_iload_n dX5_worth_13 rfl rfl ?_
  refine x_iload dX5_worth_14 rfl ?_
  refine x_bipush (v := nI 10) dX5_worth_16 (by decide) ?_
  refine x_iremN dX5_worth_18 (by omega) (by omega) (by omega) ?_
  refine x_aload_n dX5_worth_19 rfl rfl ?_
  refine x_iload_n dX5_worth_20 rfl rfl ?_
  refine x_iload dX5_worth_21 rfl ?_
  refine x_bipush (v := nI 31) dX5_worth_23 (by decide) ?_
  refine x_callVi dX5_worth_25 mvX5_counted kX5_77 (k_counted E d M n K h 3 31 q w kd hK hK5 ht hh (by decide) (by decide) hqK) rfl (by decide) (by omega) rfl rfl (Nat.le_of_ble_eq_true rfl) ?_
  rintro _ _ ⟨rfl, rfl⟩
  refine x_imulN dX5_worth_28 ?_
  refine x_iaddN dX5_worth_29 ?_
  refine xis6_3 dX5_worth_30 rfl ?_
  refine x_iload dX5_worth_31 rfl ?_
  refine x_bipush (v := nI 10) dX5_worth_33 (by decide) ?_
  refine x_idivN dX5_worth_35 (by omega) (by omega) (by omega) ?_
  refine xis6_4 dX5_worth_36 rfl ?_
  refine xinc6_5_m1N dX5_worth_38 rfl ?_
  refine x_goto (tgt := 8) dX5_worth_41 (by decide) ?_
  refine x_iload dX5_worth_8 rfl ?_
  refine x_if_ltN (tgt := 44) dX5_worth_10 (by decide) (by omega) ?_
  refine x_iload_n dX5_worth_13 rfl rfl ?_
  refine x_iload dX5_worth_14 rfl ?_
  refine x_bipush (v := nI 10) dX5_worth_16 (by decide) ?_
  refine x_iremN dX5_worth_18 (by omega) (by omega) (by omega) ?_
  refine x_aload_n dX5_worth_19 rfl rfl ?_
  refine x_iload_n dX5_worth_20 rfl rfl ?_
  refine x_iload dX5_worth_21 rfl ?_
  refine x_bipush (v := nI 31) dX5_worth_23 (by decide) ?_
  refine x_callVi dX5_worth_25 mvX5_counted kX5_77 (k_counted E d M n K h 2 31 q w kd hK hK5 ht hh (by decide) (by decide) hqK) rfl (by decide) (by omega) rfl rfl (Nat.le_of_ble_eq_true rfl) ?_
  rintro _ _ ⟨rfl, rfl⟩
  refine x_imulN dX5_worth_28 ?_
  refine x_iaddN dX5_worth_29 ?_
  refine xis6_3 dX5_worth_30 rfl ?_
  refine x_iload dX5_worth_31 rfl ?_
  refine x_bipush (v := nI 10) dX5_worth_33 (by decide) ?_
  refine x_idivN dX5_worth_35 (by omega) (by omega) (by omega) ?_
  refine xis6_4 dX5_worth_36 rfl ?_
  refine xinc6_5_m1N dX5_worth_38 rfl ?_
  refine x_goto (tgt := 8) dX5_worth_41 (by decide) ?_
  refine x_iload dX5_worth_8 rfl ?_
  refine x_if_ltN (tgt := 44) dX5_worth_10 (by decide) (by omega) ?_
  refine x_iload_n dX5_worth_13 rfl rfl ?_
  refine x_iload dX5_worth_14 rfl ?_
  refine x_bipush (v := nI 10) dX5_worth_16 (by decide) ?_
  refine x_iremN dX5_worth_18 (by omega) (by omega) (by omega) ?_
  refine x_aload_n dX5_worth_19 rfl rfl ?_
  refine x_iload_n dX5_worth_20 rfl rfl ?_
  refine x_iload dX5_worth_21 rfl ?_
  refine x_bipush (v := nI 31) dX5_worth_23 (by decide) ?_
  refine x_callVi dX5_worth_25 mvX5_counted kX5_77 (k_counted E d M n K h 1 31 q w kd hK hK5 ht hh (by decide) (by decide) hqK) rfl (by decide) (by omega) rfl rfl (Nat.le_of_ble_eq_true rfl) ?_
  rintro _ _ ⟨rfl, rfl⟩
  refine x_imulN dX5_worth_28 ?_
  refine x_iaddN dX5_worth_29 ?_
  refine xis6_3 dX5_worth_30 rfl ?_
  refine x_iload dX5_worth_31 rfl ?_
  refine x_bipush (v := nI 10) dX5_worth_33 (by decide) ?_
  refine x_idivN dX5_worth_35 (by omega) (by omega) (by omega) ?_
  refine xis6_4 dX5_worth_36 rfl ?_
  refine xinc6_5_m1N dX5_worth_38 rfl ?_
  refine x_goto (tgt := 8) dX5_worth_41 (by decide) ?_
  refine x_iload dX5_worth_8 rfl ?_
  refine x_if_ltN (tgt := 44) dX5_worth_10 (by decide) (by omega) ?_
  refine x_iload_n dX5_worth_13 rfl rfl ?_
  refine x_iload dX5_worth_14 rfl ?_
  refine x_bipush (v := nI 10) dX5_worth_16 (by decide) ?_
  refine x_iremN dX5_worth_18 (by omega) (by omega) (by omega) ?_
  refine x_aload_n dX5_worth_19 rfl rfl ?_
  refine x_iload_n dX5_worth_20 rfl rfl ?_
  refine x_iload dX5_worth_21 rfl ?_
  refine x_bipush (v := nI 31) dX5_worth_23 (by decide) ?_
  refine x_callVi dX5_worth_25 mvX5_counted kX5_77 (k_counted E d M n K h 0 31 q w kd hK hK5 ht hh (by decide) (by decide) hqK) rfl (by decide) (by omega) rfl rfl (Nat.le_of_ble_eq_true rfl) ?_
  rintro _ _ ⟨rfl, rfl⟩
  refine x_imulN dX5_worth_28 ?_
  refine x_iaddN dX5_worth_29 ?_
  refine xis6_3 dX5_worth_30 rfl ?_
  refine x_iload dX5_worth_31 rfl ?_
  refine x_bipush (v := nI 10) dX5_worth_33 (by decide) ?_
  refine x_idivN dX5_worth_35 (by omega) (by omega) (by omega) ?_
  refine xis6_4 dX5_worth_36 rfl ?_
  refine xinc6_5_m1 dX5_worth_38 rfl ?_
  refine x_goto (tgt := 8) dX5_worth_41 (by decide) ?_
  refine x_iload dX5_worth_8 rfl ?_
  refine x_if_lt (tgt := 44) dX5_worth_10 (by decide) (fun hc => ?_) (fun hc => ?_)
  · refine x_iload_n dX5_worth_44 rfl rfl ?_
    refine hR _ _ _ _ dX5_worth_45 ⟨?_, rfl⟩
    congr 1
    show _ = 0 + f / 10 ^ 3 % 10 * cnt kd q w n h 0 31 + f / 10 ^ 2 % 10 * cnt kd q w n h 1 31 + f / 10 ^ 1 % 10 * cnt kd q w n h 2 31 + f / 10 ^ 0 % 10 * cnt kd q w n h 3 31
    rw [show f / 10 / 10 / 10 = f / 10 ^ 3 by rw [Nat.div_div_eq_div_mul, Nat.div_div_eq_div_mul], show f / 10 / 10 = f / 10 ^ 2 by rw [Nat.div_div_eq_div_mul], show f / 10 ^ 1 = f / 10 by rw [Nat.pow_one], show f / 10 ^ 0 = f by rw [Nat.pow_zero, Nat.div_one]]
    omega
  · exact absurd (by decide) hc
