-- ===== the reference: halves, counts, deeds =====
/-- the family of the reference -/
def Fm (M : PM) (n K D : Nat) (kd pt nd : Nat → Nat) : Prop := M.1 40 4 = nI n ∧ M.1 40 5 = nI K ∧ M.1 40 7 = nI D ∧ n ≤ 5 ∧ K ≤ 5 ∧ D ≤ 4 ∧ (∀ k, k < K → M.1 42 k = nI (kd k) ∧ kd k < 4) ∧ (∀ d, d < D → M.1 43 d = nI (pt d) ∧ pt d < 4) ∧ ∀ d, d < D → M.1 44 d = nI (nd d) ∧ nd d < 10
theorem Fm.fr {M N : PM} {n K D : Nat} {kd pt nd : Nat → Nat} {cs : List Nat} (h : Fm M n K D kd pt nd) (hf : Fr M N cs) (h1 : 40 ∉ cs) (h2 : 42 ∉ cs) (h3 : 43 ∉ cs) (h4 : 44 ∉ cs) : Fm N n K D kd pt nd := by
  unfold Fm at *
  rw [hf.2 40 h1, hf.2 42 h2, hf.2 43 h3, hf.2 44 h4]
  exact h
/-- what is laid -/
def Ld (M : PM) (n : Nat) (q w : Nat → Nat) : Prop := (∀ k, k < 5 → M.1 56 k = nI (lf q w n k)) ∧ ∀ k, k < 5 → M.1 57 k = nI (rg q w n k)
theorem Ld.fr {M N : PM} {n : Nat} {q w : Nat → Nat} {cs : List Nat} (h : Ld M n q w) (hf : Fr M N cs) (h1 : 56 ∉ cs) (h2 : 57 ∉ cs) : Ld N n q w := by
  unfold Ld at *
  rw [hf.2 56 h1, hf.2 57 h2]
  exact h
set_option maxHeartbeats 8000000 in
theorem c_layHalves (E : Ev) (d : Nat) (M : PM) (p n : Nat) (q w : Nat → Nat) (hn : M.1 40 4 = nI n) (hp : Pg M p n q w) : Cv E d mX9_layHalves [.ref (ad E 40), .ref (ad E p)] M (fun N => Fr M N [56, 57] ∧ Ld N n q w) := by
  refine Ct.ofv [some (.ref (ad E 40)), some (.ref (ad E p)), none, none, none] (own := RX9) rfl (by decide) (Nat.le_of_ble_eq_true rfl) rfl (fun C hR => ?_)
  have hp56 : p ∉ [56, 57] := by
    have h1 := hp.ne (c := 56) (by decide)
    have h2 := hp.ne (c := 57) (by decide)
    simp [h1, h2]
  have hn5 := hp.2.2.1
  refine x_iconst (v := nI 0) dX9_layHalves_0 (by decide) ?_
  refine xis5_2 dX9_layHalves_1 rfl ?_
  have key1 : ∀ i, i ≤ 5 → ∀ N, Fr M N [56, 57] → (∀ k, k < i → N.1 56 k = nI 0 ∧ N.1 57 k = nI 0) → X E d RX9 cX9_layHalves 5 C 2 [some (.ref (ad E 40)), some (.ref (ad E p)), some (.int (nI i)), none, none] [] N := by
    refine up_loop 5 ?_ ?_
    · intro N hN hz
      refine x_iload_n dX9_layHalves_2 rfl rfl ?_
      refine x_iconst (v := nI 5) dX9_layHalves_3 (by decide) ?_
      refine x_icmp_geN (tgt := 27) dX9_layHalves_4 (by decide) (by omega) (by omega) (fun hc => ?_) (fun hc => ?_)
      · refine x_iconst (v := nI 0) dX9_layHalves_27 (by decide) ?_
        refine xis5_2 dX9_layHalves_28 rfl ?_
        have key2 : ∀ r, r ≤ n → ∀ N l3 l4, Fr M N [56, 57] → (∀ k, k < 5 → N.1 56 k = nI (fb_sm (fun r => fb_sm (lfg q w k r) 5) r) ∧ N.1 57 k = nI (fb_sm (fun r => fb_sm (rgg q w k r) 5) r)) → X E d RX9 cX9_layHalves 5 C 29 [some (.ref (ad E 40)), some (.ref (ad E p)), some (.int (nI r)), l3, l4] [] N := by
          refine up_loop n ?_ ?_
          · intro N l3 l4 hN hk
            refine x_iload_n dX9_layHalves_29 rfl rfl ?_
            refine x_aload_n dX9_layHalves_30 rfl rfl ?_
            refine x_getv (hN.v (by decide) hn) dX9_layHalves_31 fX9_114 rfl rfl (by decide) ?_
            refine x_icmp_geN (tgt := 113) dX9_layHalves_34 (by decide) (by omega) (by omega) (fun hc => ?_) (fun hc => ?_)
            · exact hR _ _ _ dX9_layHalves_113 (⟨hN, fun k hk5 => (hk k hk5).1, fun k hk5 => (hk k hk5).2⟩)
            · exact absurd hc (by omega)
          · intro r hr ih N l3 l4 hN hk
            refine x_iload_n dX9_layHalves_29 rfl rfl ?_
            refine x_aload_n dX9_layHalves_30 rfl rfl ?_
            refine x_getv (hN.v (by decide) hn) dX9_layHalves_31 fX9_114 rfl rfl (by decide) ?_
            refine x_icmp_geN (tgt := 113) dX9_layHalves_34 (by decide) (by omega) (by omega) (fun hc => ?_) (fun hc => ?_)
            · exact absurd hc (by omega)
            refine x_iconst (v := nI 0) dX9_layHalves_37 (by decide) ?_
            refine xis5_3 dX9_layHalves_38 rfl ?_
            have key3 : ∀ c, c ≤ 5 → ∀ N l4, Fr M N [56, 57] → (∀ k, k < 5 → N.1 56 k = nI (fb_sm (fun r => fb_sm (lfg q w k r) 5) r + fb_sm (lfg q w k r) c) ∧ N.1 57 k = nI (fb_sm (fun r => fb_sm (rgg q w k r) 5) r + fb_sm (rgg q w k r) c)) → X E d RX9 cX9_layHalves 5 C 39 [some (.ref (ad E 40)), some (.ref (ad E p)), some (.int (nI r)), some (.int (nI c)), l4] [] N := by
              refine up_loop 5 ?_ ?_
              · intro N l4 hN hk
                refine x_iload_n dX9_layHalves_39 rfl rfl ?_
                refine x_iconst (v := nI 5) dX9_layHalves_40 (by decide) ?_
                refine x_icmp_geN (tgt := 107) dX9_layHalves_41 (by decide) (by omega) (by omega) (fun hc => ?_) (fun hc => ?_)
                · refine xinc5_2N dX9_layHalves_107 rfl ?_
                  refine x_goto (tgt := 29) dX9_layHalves_110 (by decide) ?_
                  exact ih N _ _ hN hk
                · exact absurd hc (by omega)
              · intro c hc5 ih3 N l4 hN hk
                have hcell := hp.2.2.2.1 r c hr hc5
                have hwr := hp.2.2.2.2 r hr
                have hNp : N.1 p = M.1 p := hN.2 p hp56
                have hk5 : q (5 * r + c) / 4 < 5 := by omega
                refine x_iload_n dX9_layHalves_39 rfl rfl ?_
                refine x_iconst (v := nI 5) dX9_layHalves_40 (by decide) ?_
                refine x_icmp_geN (tgt := 107) dX9_layHalves_41 (by decide) (by omega) (by omega) (fun hc => ?_) (fun hc => ?_)
                · exact absurd hc (by omega)
                refine x_aload_n dX9_layHalves_44 rfl rfl ?_
                refine x_iconst (v := nI 5) dX9_layHalves_45 (by decide) ?_
                refine x_iconst (v := nI 5) dX9_layHalves_46 (by decide) ?_
                refine x_iload_n dX9_layHalves_47 rfl rfl ?_
                refine x_imulN dX9_layHalves_48 ?_
                refine x_iaddN dX9_layHalves_49 ?_
                refine x_iload_n dX9_layHalves_50 rfl rfl ?_
                refine x_iaddN dX9_layHalves_51 ?_
                refine x_ialdN dX9_layHalves_52 hp.1 hp.2.1 (by omega) (by decide) (hN.v hp56 hcell.1) ?_
                refine x_iconst (v := nI 4) dX9_layHalves_53 (by decide) ?_
                refine x_idivN dX9_layHalves_54 (by omega) (by omega) (by omega) ?_
                refine xis5_4 dX9_layHalves_55 rfl ?_
                refine x_aload_n dX9_layHalves_57 rfl rfl ?_
                refine x_getr dX9_layHalves_58 fX9_56 rfl rfl (by decide) ?_
                refine x_iload dX9_layHalves_61 rfl ?_
                refine x_dup2 dX9_layHalves_63 rfl rfl ?_
                refine x_ialdN dX9_layHalves_64 rfl (by decide) (by omega) (by decide) ((hk _ hk5).1) ?_
                refine x_iload_n dX9_layHalves_65 rfl rfl ?_
                refine x_aload_n dX9_layHalves_66 rfl rfl ?_
                refine x_iload_n dX9_layHalves_67 rfl rfl ?_
                refine x_ialdN dX9_layHalves_68 hp.1 hp.2.1 (by omega) (by decide) (hN.v hp56 hwr.1) ?_
                refine x_icmp_geN (tgt := 76) dX9_layHalves_69 (by decide) (by omega) (by omega) (fun hc => ?_) (fun hc => ?_)
                · refine x_iconst (v := nI 0) dX9_layHalves_76 (by decide) ?_
                  refine x_iaddN dX9_layHalves_77 ?_
                  refine x_iastN dX9_layHalves_78 rfl (by decide) (by omega) (by decide) ?_
                  refine x_aload_n dX9_layHalves_79 rfl rfl ?_
                  refine x_getr dX9_layHalves_80 fX9_59 rfl rfl (by decide) ?_
                  refine x_iload dX9_layHalves_83 rfl ?_
                  refine x_dup2 dX9_layHalves_85 rfl rfl ?_
                  refine x_ialdN dX9_layHalves_86 rfl (by decide) (by omega) (by decide) (sa_v (by decide) (hk _ hk5).2) ?_
                  refine x_iload_n dX9_layHalves_87 rfl rfl ?_
                  refine x_aload_n dX9_layHalves_88 rfl rfl ?_
                  refine x_iload_n dX9_layHalves_89 rfl rfl ?_
                  refine x_ialdN dX9_layHalves_90 hp.1 hp.2.1 (by omega) (by decide) (sa_v (hp.ne (by decide)) (hN.v hp56 hwr.1)) ?_
                  refine x_icmp_geN (tgt := 98) dX9_layHalves_91 (by decide) (by omega) (by omega) (fun hc => ?_) (fun hc => ?_)
                  · refine x_iconst (v := nI 1) dX9_layHalves_98 (by decide) ?_
                    refine x_iaddN dX9_layHalves_99 ?_
                    refine x_iastN dX9_layHalves_100 rfl (by decide) (by omega) (by decide) ?_
                    refine xinc5_3N dX9_layHalves_101 rfl ?_
                    refine x_goto (tgt := 39) dX9_layHalves_104 (by decide) ?_
                    refine ih3 _ _ ((hN.sa (by decide)).sa (by decide)) (fun k hk0 => ?_)
                    have e1 : fb_sm (lfg q w k r) (c + 1) = fb_sm (lfg q w k r) c + 0 := by
                      rw [fb_sm_succ]; unfold lfg; rw [if_neg (by omega)]
                    have e2 : fb_sm (rgg q w k r) (c + 1) = fb_sm (rgg q w k r) c + if q (5 * r + c) / 4 = k then 1 else 0 := by
                      rw [fb_sm_succ]; unfold rgg; congr 1; simp only [show w r ≤ c from by omega, and_true]
                    rw [sa_1, sa_ne (by decide), sa_1, e1, e2]
                    by_cases hkk : k = q (5 * r + c) / 4
                    · subst hkk; rw [pk_us, pk_us, if_pos rfl]; constructor <;> congr 1 <;> omega
                    · rw [pk_un hkk, pk_un hkk, if_neg (Ne.symm hkk), sa_ne (by decide)]; exact hk k hk0
                  · exact absurd hc (by omega)
                · refine x_iconst (v := nI 1) dX9_layHalves_72 (by decide) ?_
                  refine x_goto (tgt := 77) dX9_layHalves_73 (by decide) ?_
                  refine x_iaddN dX9_layHalves_77 ?_
                  refine x_iastN dX9_layHalves_78 rfl (by decide) (by omega) (by decide) ?_
                  refine x_aload_n dX9_layHalves_79 rfl rfl ?_
                  refine x_getr dX9_layHalves_80 fX9_59 rfl rfl (by decide) ?_
                  refine x_iload dX9_layHalves_83 rfl ?_
                  refine x_dup2 dX9_layHalves_85 rfl rfl ?_
                  refine x_ialdN dX9_layHalves_86 rfl (by decide) (by omega) (by decide) (sa_v (by decide) (hk _ hk5).2) ?_
                  refine x_iload_n dX9_layHalves_87 rfl rfl ?_
                  refine x_aload_n dX9_layHalves_88 rfl rfl ?_
                  refine x_iload_n dX9_layHalves_89 rfl rfl ?_
                  refine x_ialdN dX9_layHalves_90 hp.1 hp.2.1 (by omega) (by decide) (sa_v (hp.ne (by decide)) (hN.v hp56 hwr.1)) ?_
                  refine x_icmp_geN (tgt := 98) dX9_layHalves_91 (by decide) (by omega) (by omega) (fun hc => ?_) (fun hc => ?_)
                  · exact absurd hc (by omega)
                  · refine x_iconst (v := nI 0) dX9_layHalves_94 (by decide) ?_
                    refine x_goto (tgt := 99) dX9_layHalves_95 (by decide) ?_
                    refine x_iaddN dX9_layHalves_99 ?_
                    refine x_iastN dX9_layHalves_100 rfl (by decide) (by omega) (by decide) ?_
                    refine xinc5_3N dX9_layHalves_101 rfl ?_
                    refine x_goto (tgt := 39) dX9_layHalves_104 (by decide) ?_
                    refine ih3 _ _ ((hN.sa (by decide)).sa (by decide)) (fun k hk0 => ?_)
                    have e1 : fb_sm (rgg q w k r) (c + 1) = fb_sm (rgg q w k r) c + 0 := by
                      rw [fb_sm_succ]; unfold rgg; rw [if_neg (by omega)]
                    have e2 : fb_sm (lfg q w k r) (c + 1) = fb_sm (lfg q w k r) c + if q (5 * r + c) / 4 = k then 1 else 0 := by
                      rw [fb_sm_succ]; unfold lfg; congr 1; simp only [show c < w r from by omega, and_true]
                    rw [sa_1, sa_ne (by decide), sa_1, e1, e2]
                    by_cases hkk : k = q (5 * r + c) / 4
                    · subst hkk; rw [pk_us, pk_us, if_pos rfl]; constructor <;> congr 1 <;> omega
                    · rw [pk_un hkk, pk_un hkk, if_neg (Ne.symm hkk), sa_ne (by decide)]; exact hk k hk0
            exact key3 0 (by omega) N _ hN hk
        exact key2 0 (by omega) N _ _ hN hz
      · exact absurd hc (by omega)
    · intro i hi ih N hN hz
      refine x_iload_n dX9_layHalves_2 rfl rfl ?_
      refine x_iconst (v := nI 5) dX9_layHalves_3 (by decide) ?_
      refine x_icmp_geN (tgt := 27) dX9_layHalves_4 (by decide) (by omega) (by omega) (fun hc => ?_) (fun hc => ?_)
      · exact absurd hc (by omega)
      refine x_aload_n dX9_layHalves_7 rfl rfl ?_
      refine x_getr dX9_layHalves_8 fX9_56 rfl rfl (by decide) ?_
      refine x_iload_n dX9_layHalves_11 rfl rfl ?_
      refine x_iconst (v := nI 0) dX9_layHalves_12 (by decide) ?_
      refine x_iastN dX9_layHalves_13 rfl (by decide) (by omega) (by decide) ?_
      refine x_aload_n dX9_layHalves_14 rfl rfl ?_
      refine x_getr dX9_layHalves_15 fX9_59 rfl rfl (by decide) ?_
      refine x_iload_n dX9_layHalves_18 rfl rfl ?_
      refine x_iconst (v := nI 0) dX9_layHalves_19 (by decide) ?_
      refine x_iastN dX9_layHalves_20 rfl (by decide) (by omega) (by decide) ?_
      refine xinc5_2N dX9_layHalves_21 rfl ?_
      refine x_goto (tgt := 2) dX9_layHalves_24 (by decide) ?_
      refine ih _ ((hN.sa (by decide)).sa (by decide)) (fun k hk => ?_)
      rw [sa_1, sa_ne (by decide), sa_1]
      by_cases hki : k = i
      · subst hki; rw [pk_us, pk_us]; exact ⟨rfl, rfl⟩
      · rw [pk_un hki, pk_un hki, sa_ne (by decide)]; exact hz k (by omega)
  exact key1 0 (by omega) M Fr.rf (fun k hk => absurd hk (by omega))
set_option maxHeartbeats 8000000 in
theorem c_partedLaid (E : Ev) (d : Nat) (M : PM) (n K : Nat) (q w : Nat → Nat) (hK : M.1 40 5 = nI K) (hK5 : K ≤ 5) (hn5 : n ≤ 5) (hl : Ld M n q w) : Ci E d mX9_partedLaid [.ref (ad E 40)] M (fun v N => v = nI (parB q w n K) ∧ M = N) := by
  refine Ct.ofi [some (.ref (ad E 40)), none, none] (own := RX9) rfl (by decide) (Nat.le_of_ble_eq_true rfl) rfl (fun C hR => ?_)
  refine x_iconst (v := nI 0) dX9_partedLaid_0 (by decide) ?_
  refine xis3_1 dX9_partedLaid_1 rfl ?_
  refine x_iconst (v := nI 0) dX9_partedLaid_2 (by decide) ?_
  refine xis3_2 dX9_partedLaid_3 rfl ?_
  have key : ∀ i, i ≤ K → X E d RX9 cX9_partedLaid 3 C 4 [some (.ref (ad E 40)), some (.int (nI (parB q w n i))), some (.int (nI i))] [] M := by
    refine up_loop K ?_ ?_
    · refine x_iload_n dX9_partedLaid_4 rfl rfl ?_
      refine x_aload_n dX9_partedLaid_5 rfl rfl ?_
      refine x_getv (hK) dX9_partedLaid_6 fX9_117 rfl rfl (by decide) ?_
      refine x_icmp_geN (tgt := 46) dX9_partedLaid_9 (by decide) (by omega) (by omega) (fun hc => ?_) (fun hc => ?_)
      · refine x_iload_n dX9_partedLaid_46 rfl rfl ?_
        exact hR _ _ _ _ dX9_partedLaid_47 (⟨rfl, rfl⟩)
      · exact absurd hc (by omega)
    · intro i hi ih
      have b1 := lf_le (q := q) (w := w) (k := i) hn5
      have b2 := rg_le (q := q) (w := w) (k := i) hn5
      have hlt := parB_lt q w n i
      have h2 := p2 (show i ≤ 5 by omega)
      have step : ∀ v, (par q w n i = true → v = 2 ^ i) → (par q w n i = false → v = 0) → parB q w n (i + 1) = parB q w n i ||| v := by
        intro v h1 h0
        unfold parB
        rw [fb_sm_succ]
        cases hp : par q w n i
        · rw [h0 hp, if_neg (by decide), Nat.add_zero, Nat.or_zero]
        · rw [h1 hp, if_pos rfl]
          exact (bits_or hlt).symm
      refine x_iload_n dX9_partedLaid_4 rfl rfl ?_
      refine x_aload_n dX9_partedLaid_5 rfl rfl ?_
      refine x_getv (hK) dX9_partedLaid_6 fX9_117 rfl rfl (by decide) ?_
      refine x_icmp_geN (tgt := 46) dX9_partedLaid_9 (by decide) (by omega) (by omega) (fun hc => ?_) (fun hc => ?_)
      · exact absurd hc (by omega)
      refine x_iload_n dX9_partedLaid_12 rfl rfl ?_
      refine x_aload_n dX9_partedLaid_13 rfl rfl ?_
      refine x_getr dX9_partedLaid_14 fX9_56 rfl rfl (by decide) ?_
      refine x_iload_n dX9_partedLaid_17 rfl rfl ?_
      refine x_ialdN dX9_partedLaid_18 rfl (by decide) (by omega) (by decide) (hl.1 i (by omega)) ?_
      refine x_if_leN (tgt := 37) dX9_partedLaid_19 (by decide) (by omega) (fun hc => ?_) (fun hc => ?_)
      · refine x_iconst (v := nI 0) dX9_partedLaid_37 (by decide) ?_
        refine x_iorN dX9_partedLaid_38 ?_
        refine xis3_1 dX9_partedLaid_39 rfl ?_
        refine xinc3_2N dX9_partedLaid_40 rfl ?_
        refine x_goto (tgt := 4) dX9_partedLaid_43 (by decide) ?_
        rw [step 0 (fun h => by unfold par at h; simp at h; omega) (fun _ => rfl)] at ih
        exact ih
      refine x_aload_n dX9_partedLaid_22 rfl rfl ?_
      refine x_getr dX9_partedLaid_23 fX9_59 rfl rfl (by decide) ?_
      refine x_iload_n dX9_partedLaid_26 rfl rfl ?_
      refine x_ialdN dX9_partedLaid_27 rfl (by decide) (by omega) (by decide) (hl.2 i (by omega)) ?_
      refine x_if_leN (tgt := 37) dX9_partedLaid_28 (by decide) (by omega) (fun hc => ?_) (fun hc => ?_)
      · refine x_iconst (v := nI 0) dX9_partedLaid_37 (by decide) ?_
        refine x_iorN dX9_partedLaid_38 ?_
        refine xis3_1 dX9_partedLaid_39 rfl ?_
        refine xinc3_2N dX9_partedLaid_40 rfl ?_
        refine x_goto (tgt := 4) dX9_partedLaid_43 (by decide) ?_
        rw [step 0 (fun h => by unfold par at h; simp at h; omega) (fun _ => rfl)] at ih
        exact ih
      · refine x_iconst (v := nI 1) dX9_partedLaid_31 (by decide) ?_
        refine x_iload_n dX9_partedLaid_32 rfl rfl ?_
        refine x_ishlN dX9_partedLaid_33 (by omega) (by omega) ?_
        refine x_goto (tgt := 38) dX9_partedLaid_34 (by decide) ?_
        refine x_iorN dX9_partedLaid_38 ?_
        refine xis3_1 dX9_partedLaid_39 rfl ?_
        refine xinc3_2N dX9_partedLaid_40 rfl ?_
        refine x_goto (tgt := 4) dX9_partedLaid_43 (by decide) ?_
        rw [step (2 ^ i) (fun _ => rfl) (fun h => by unfold par at h; simp at h; omega)] at ih
        rw [Nat.one_mul]
        exact ih
  exact key 0 (by omega)
set_option maxHeartbeats 8000000 in
theorem c_countsFor (E : Ev) (d : Nat) (M : PM) (p n r c K D : Nat) (q w kd pt nd : Nat → Nat) (hF : Fm M n K D kd pt nd) (hp : Pg M p n q w) (hl : Ld M n q w) (hr : r < n) (hc5 : c < 5) (hqK : ∀ r c, r < n → c < 5 → q (5 * r + c) < 4 * K) : Ci E d mX9_countsFor [.ref (ad E 40), .ref (ad E p), .int (nI r), .int (nI c)] M (fun v N => v = nI (cfc kd q w n r c) ∧ M = N) := by
  obtain ⟨f1, f2, f3, f4, f5, f6, f7, f8, f9⟩ := hF
  have hcell := hp.2.2.2.1 r c hr hc5
  have hwr := hp.2.2.2.2 r hr
  have hk5 : q (5 * r + c) / 4 < 5 := by omega
  have hkK : q (5 * r + c) / 4 < K := by have := hqK r c hr hc5; omega
  have hkd := f7 _ hkK
  have b1 := lf_le (q := q) (w := w) (k := q (5 * r + c) / 4) f4
  have b2 := rg_le (q := q) (w := w) (k := q (5 * r + c) / 4) f4
  refine Ct.ofi [some (.ref (ad E 40)), some (.ref (ad E p)), some (.int (nI r)), some (.int (nI c)), none, none] (own := RX9) rfl (by decide) (Nat.le_of_ble_eq_true rfl) rfl (fun C hR => ?_)
  have e2 : ¬ (kd (q (5 * r + c) / 4) = 1 ∨ kd (q (5 * r + c) / 4) = 2 ∧ q (5 * r + c) % 4 = 0) → X E d RX9 cX9_countsFor 6 C 48 [some (.ref (ad E 40)), some (.ref (ad E p)), some (.int (nI r)), some (.int (nI c)), some (.int (nI (q (5 * r + c)))), some (.int (nI (q (5 * r + c) / 4)))] [] M := by
    intro hnot
    have e3 : ¬ (kd (q (5 * r + c) / 4) = 3 ∧ par q w n (q (5 * r + c) / 4) = true) → X E d RX9 cX9_countsFor 6 C 81 [some (.ref (ad E 40)), some (.ref (ad E p)), some (.int (nI r)), some (.int (nI c)), some (.int (nI (q (5 * r + c)))), some (.int (nI (q (5 * r + c) / 4)))] [] M := by
      intro hnot3
      refine x_iload_n dX9_countsFor_81 rfl rfl ?_
      refine x_aload_n dX9_countsFor_82 rfl rfl ?_
      refine x_iload_n dX9_countsFor_83 rfl rfl ?_
      refine x_ialdN dX9_countsFor_84 hp.1 hp.2.1 (by omega) (by decide) (hwr.1) ?_
      refine x_icmp_geN (tgt := 92) dX9_countsFor_85 (by decide) (by omega) (by omega) (fun hc => ?_) (fun hc => ?_)
      · refine x_iconst (v := nI 2) dX9_countsFor_92 (by decide) ?_
        exact hR _ _ _ _ dX9_countsFor_93 (⟨by unfold cfc cf hf; rw [if_neg hnot, if_neg hnot3, if_neg (by omega)], rfl⟩)
      · refine x_iconst (v := nI 1) dX9_countsFor_88 (by decide) ?_
        refine x_goto (tgt := 93) dX9_countsFor_89 (by decide) ?_
        exact hR _ _ _ _ dX9_countsFor_93 (⟨by unfold cfc cf hf; rw [if_neg hnot, if_neg hnot3, if_pos (by omega)], rfl⟩)
    refine x_aload_n dX9_countsFor_48 rfl rfl ?_
    refine x_getr dX9_countsFor_49 fX9_13 rfl rfl (by decide) ?_
    refine x_iload dX9_countsFor_52 rfl ?_
    refine x_ialdN dX9_countsFor_54 rfl (by decide) (by omega) (by decide) (hkd.1) ?_
    refine x_iconst (v := nI 3) dX9_countsFor_55 (by decide) ?_
    refine x_icmp_neN (tgt := 81) dX9_countsFor_56 (by decide) (by omega) (by omega) (fun hc => ?_) (fun hc => ?_)
    · exact e3 (fun h => hc h.1)
    refine x_aload_n dX9_countsFor_59 rfl rfl ?_
    refine x_getr dX9_countsFor_60 fX9_56 rfl rfl (by decide) ?_
    refine x_iload dX9_countsFor_63 rfl ?_
    refine x_ialdN dX9_countsFor_65 rfl (by decide) (by omega) (by decide) (hl.1 _ hk5) ?_
    refine x_if_leN (tgt := 81) dX9_countsFor_66 (by decide) (by omega) (fun hc => ?_) (fun hc => ?_)
    · exact e3 (fun h => by have := h.2; unfold par at this; simp at this; omega)
    refine x_aload_n dX9_countsFor_69 rfl rfl ?_
    refine x_getr dX9_countsFor_70 fX9_59 rfl rfl (by decide) ?_
    refine x_iload dX9_countsFor_73 rfl ?_
    refine x_ialdN dX9_countsFor_75 rfl (by decide) (by omega) (by decide) (hl.2 _ hk5) ?_
    refine x_if_leN (tgt := 81) dX9_countsFor_76 (by decide) (by omega) (fun hc => ?_) (fun hc => ?_)
    · exact e3 (fun h => by have := h.2; unfold par at this; simp at this; omega)
    · refine x_iconst (v := nI 0) dX9_countsFor_79 (by decide) ?_
      exact hR _ _ _ _ dX9_countsFor_80 (⟨by unfold cfc cf; rw [if_neg hnot, if_pos ⟨by assumption, by unfold par; simp; omega⟩], rfl⟩)
  refine x_aload_n dX9_countsFor_0 rfl rfl ?_
  refine x_iconst (v := nI 5) dX9_countsFor_1 (by decide) ?_
  refine x_iconst (v := nI 5) dX9_countsFor_2 (by decide) ?_
  refine x_iload_n dX9_countsFor_3 rfl rfl ?_
  refine x_imulN dX9_countsFor_4 ?_
  refine x_iaddN dX9_countsFor_5 ?_
  refine x_iload_n dX9_countsFor_6 rfl rfl ?_
  refine x_iaddN dX9_countsFor_7 ?_
  refine x_ialdN dX9_countsFor_8 hp.1 hp.2.1 (by omega) (by decide) (hcell.1) ?_
  refine xis6_4 dX9_countsFor_9 rfl ?_
  refine x_iload dX9_countsFor_11 rfl ?_
  refine x_iconst (v := nI 4) dX9_countsFor_13 (by decide) ?_
  refine x_idivN dX9_countsFor_14 (by omega) (by omega) (by omega) ?_
  refine xis6_5 dX9_countsFor_15 rfl ?_
  refine x_aload_n dX9_countsFor_17 rfl rfl ?_
  refine x_getr dX9_countsFor_18 fX9_13 rfl rfl (by decide) ?_
  refine x_iload dX9_countsFor_21 rfl ?_
  refine x_ialdN dX9_countsFor_23 rfl (by decide) (by omega) (by decide) (hkd.1) ?_
  refine x_iconst (v := nI 1) dX9_countsFor_24 (by decide) ?_
  refine x_icmp_eqN (tgt := 46) dX9_countsFor_25 (by decide) (by omega) (by omega) (fun hc => ?_) (fun hc => ?_)
  · refine x_iconst (v := nI 3) dX9_countsFor_46 (by decide) ?_
    exact hR _ _ _ _ dX9_countsFor_47 (⟨by unfold cfc cf; rw [if_pos (Or.inl hc)], rfl⟩)
  refine x_aload_n dX9_countsFor_28 rfl rfl ?_
  refine x_getr dX9_countsFor_29 fX9_13 rfl rfl (by decide) ?_
  refine x_iload dX9_countsFor_32 rfl ?_
  refine x_ialdN dX9_countsFor_34 rfl (by decide) (by omega) (by decide) (hkd.1) ?_
  refine x_iconst (v := nI 2) dX9_countsFor_35 (by decide) ?_
  refine x_icmp_neN (tgt := 48) dX9_countsFor_36 (by decide) (by omega) (by omega) (fun hc => ?_) (fun hc => ?_)
  · exact e2 (by omega)
  refine x_iload dX9_countsFor_39 rfl ?_
  refine x_iconst (v := nI 4) dX9_countsFor_41 (by decide) ?_
  refine x_iremN dX9_countsFor_42 (by omega) (by omega) (by omega) ?_
  refine x_if_neN (tgt := 48) dX9_countsFor_43 (by decide) (by omega) (fun hc => ?_) (fun hc => ?_)
  · exact e2 (by omega)
  · refine x_iconst (v := nI 3) dX9_countsFor_46 (by decide) ?_
    exact hR _ _ _ _ dX9_countsFor_47 (⟨by unfold cfc cf; rw [if_pos (by omega)], rfl⟩)
set_option maxHeartbeats 8000000 in
theorem c_countOf (E : Ev) (d : Nat) (M : PM) (p n K D h pa S : Nat) (q w kd pt nd : Nat → Nat) (hF : Fm M n K D kd pt nd) (hp : Pg M p n q w) (hl : Ld M n q w) (hh : h ≤ 1) (hpa : pa < 4) (hS : S < 32) (hqK : ∀ r c, r < n → c < 5 → q (5 * r + c) < 4 * K) : Ci E (d + 1) mX9_countOf [.ref (ad E 40), .ref (ad E p), .int (nI h), .int (nI pa), .int (nI S)] M (fun v N => v = nI (cnt kd q w n h pa S) ∧ M = N) := by
  have hn := hF.1
  have hn5 := hp.2.2.1
  refine Ct.ofi [some (.ref (ad E 40)), some (.ref (ad E p)), some (.int (nI h)), some (.int (nI pa)), some (.int (nI S)), none, none, none, none] (own := RX9) rfl (by decide) (Nat.le_of_ble_eq_true rfl) rfl (fun C hR => ?_)
  refine x_iconst (v := nI 0) dX9_countOf_0 (by decide) ?_
  refine xis9_5 dX9_countOf_1 rfl ?_
  refine x_iconst (v := nI 0) dX9_countOf_3 (by decide) ?_
  refine xis9_6 dX9_countOf_4 rfl ?_
  have key : ∀ r, r ≤ n → ∀ l7 l8, X E (d + 1) RX9 cX9_countOf 9 C 6 [some (.ref (ad E 40)), some (.ref (ad E p)), some (.int (nI h)), some (.int (nI pa)), some (.int (nI S)), some (.int (nI (fb_sm (fun r => fb_sm (cng kd q w n h pa S r) 5) r))), some (.int (nI r)), l7, l8] [] M := by
    refine up_loop n ?_ ?_
    · intro l7 l8
      refine x_iload dX9_countOf_6 rfl ?_
      refine x_aload_n dX9_countOf_8 rfl rfl ?_
      refine x_getv (hn) dX9_countOf_9 fX9_114 rfl rfl (by decide) ?_
      refine x_icmp_geN (tgt := 95) dX9_countOf_12 (by decide) (by omega) (by omega) (fun hc => ?_) (fun hc => ?_)
      · refine x_iload dX9_countOf_95 rfl ?_
        exact hR _ _ _ _ dX9_countOf_97 (⟨rfl, rfl⟩)
      · exact absurd hc (by omega)
    · intro r hr ih l7 l8
      refine x_iload dX9_countOf_6 rfl ?_
      refine x_aload_n dX9_countOf_8 rfl rfl ?_
      refine x_getv (hn) dX9_countOf_9 fX9_114 rfl rfl (by decide) ?_
      refine x_icmp_geN (tgt := 95) dX9_countOf_12 (by decide) (by omega) (by omega) (fun hc => ?_) (fun hc => ?_)
      · exact absurd hc (by omega)
      refine x_iconst (v := nI 0) dX9_countOf_15 (by decide) ?_
      refine xis9_7 dX9_countOf_16 rfl ?_
      have key2 : ∀ c, c ≤ 5 → ∀ l8, X E (d + 1) RX9 cX9_countOf 9 C 18 [some (.ref (ad E 40)), some (.ref (ad E p)), some (.int (nI h)), some (.int (nI pa)), some (.int (nI S)), some (.int (nI (fb_sm (fun r => fb_sm (cng kd q w n h pa S r) 5) r + fb_sm (cng kd q w n h pa S r) c))), some (.int (nI r)), some (.int (nI c)), l8] [] M := by
        refine up_loop 5 ?_ ?_
        · intro l8
          refine x_iload dX9_countOf_18 rfl ?_
          refine x_iconst (v := nI 5) dX9_countOf_20 (by decide) ?_
          refine x_icmp_geN (tgt := 89) dX9_countOf_21 (by decide) (by omega) (by omega) (fun hc => ?_) (fun hc => ?_)
          · refine xinc9_6N dX9_countOf_89 rfl ?_
            refine x_goto (tgt := 6) dX9_countOf_92 (by decide) ?_
            exact ih _ _
          · exact absurd hc (by omega)
        · intro c hc5 ih2 l8
          have hcell := hp.2.2.2.1 r c hr hc5
          have hcf := cf_le kd (par q w n) (q (5 * r + c)) (hf_le w r c)
          refine x_iload dX9_countOf_18 rfl ?_
          refine x_iconst (v := nI 5) dX9_countOf_20 (by decide) ?_
          refine x_icmp_geN (tgt := 89) dX9_countOf_21 (by decide) (by omega) (by omega) (fun hc => ?_) (fun hc => ?_)
          · exact absurd hc (by omega)
          rw [fb_sm_succ] at ih2
          have z0 : cng kd q w n h pa S r c = 0 → X E (d + 1) RX9 cX9_countOf 9 C 79 [some (.ref (ad E 40)), some (.ref (ad E p)), some (.int (nI h)), some (.int (nI pa)), some (.int (nI S)), some (.int (nI (fb_sm (fun r => fb_sm (cng kd q w n h pa S r) 5) r + fb_sm (cng kd q w n h pa S r) c))), some (.int (nI r)), some (.int (nI c)), some (.int (nI (q (5 * r + c))))] [.int (nI (fb_sm (fun r => fb_sm (cng kd q w n h pa S r) 5) r + fb_sm (cng kd q w n h pa S r) c))] M := by
            intro e
            refine x_iconst (v := nI 0) dX9_countOf_79 (by decide) ?_
            refine x_iaddN dX9_countOf_80 ?_
            refine xis9_5 dX9_countOf_81 rfl ?_
            refine xinc9_7N dX9_countOf_83 rfl ?_
            refine x_goto (tgt := 18) dX9_countOf_86 (by decide) ?_
            rw [e] at ih2
            exact ih2 _
          refine x_aload_n dX9_countOf_24 rfl rfl ?_
          refine x_iconst (v := nI 5) dX9_countOf_25 (by decide) ?_
          refine x_iconst (v := nI 5) dX9_countOf_26 (by decide) ?_
          refine x_iload dX9_countOf_27 rfl ?_
          refine x_imulN dX9_countOf_29 ?_
          refine x_iaddN dX9_countOf_30 ?_
          refine x_iload dX9_countOf_31 rfl ?_
          refine x_iaddN dX9_countOf_33 ?_
          refine x_ialdN dX9_countOf_34 hp.1 hp.2.1 (by omega) (by decide) (hcell.1) ?_
          refine xis9_8 dX9_countOf_35 rfl ?_
          refine x_iload dX9_countOf_37 rfl ?_
          refine x_iload dX9_countOf_39 rfl ?_
          refine x_iconst (v := nI 4) dX9_countOf_41 (by decide) ?_
          refine x_iremN dX9_countOf_42 (by omega) (by omega) (by omega) ?_
          refine x_iload_n dX9_countOf_43 rfl rfl ?_
          refine x_icmp_neN (tgt := 79) dX9_countOf_44 (by decide) (by omega) (by omega) (fun hc => ?_) (fun hc => ?_)
          · exact z0 (by unfold cng; rw [if_neg (fun e => hc e.1)])
          refine x_iload dX9_countOf_47 rfl ?_
          refine x_iload dX9_countOf_49 rfl ?_
          refine x_iconst (v := nI 4) dX9_countOf_51 (by decide) ?_
          refine x_idivN dX9_countOf_52 (by omega) (by omega) (by omega) ?_
          refine x_callSi dX9_countOf_53 msX9_isIn kX9_130 (c_isIn E d M S (q (5 * r + c) / 4) (by omega) (by omega)) (by omega) rfl rfl (Nat.le_of_ble_eq_true rfl) ?_
          rintro _ _ ⟨rfl, rfl⟩
          refine x_if_eqB (tgt := 79) dX9_countOf_56 (by decide) (fun hc => ?_) (fun hc => ?_)
          · exact z0 (by unfold cng; rw [if_neg (fun e => of_decide_eq_false hc e.2.1)])
          have hS1 := of_decide_eq_true hc
          refine x_aload_n dX9_countOf_59 rfl rfl ?_
          refine x_aload_n dX9_countOf_60 rfl rfl ?_
          refine x_iload dX9_countOf_61 rfl ?_
          refine x_iload dX9_countOf_63 rfl ?_
          refine x_callVi dX9_countOf_65 mvX9_countsFor kX9_134 (c_countsFor E d M p n r c K D q w kd pt nd hF hp hl hr hc5 hqK) rfl (by decide) (by omega) rfl rfl (Nat.le_of_ble_eq_true rfl) ?_
          rintro _ _ ⟨rfl, rfl⟩
          refine x_iload_n dX9_countOf_68 rfl rfl ?_
          refine x_callSi dX9_countOf_69 msX9_isIn kX9_130 (c_isIn E d M (cfc kd q w n r c) h (by unfold cfc; omega) (by omega)) (by omega) rfl rfl (Nat.le_of_ble_eq_true rfl) ?_
          rintro _ _ ⟨rfl, rfl⟩
          refine x_if_eqB (tgt := 79) dX9_countOf_72 (by decide) (fun hc => ?_) (fun hc => ?_)
          · exact z0 (by unfold cng; rw [if_neg (fun e => of_decide_eq_false hc e.2.2)])
          have hS2 := of_decide_eq_true hc
          refine x_iconst (v := nI 1) dX9_countOf_75 (by decide) ?_
          refine x_goto (tgt := 80) dX9_countOf_76 (by decide) ?_
          refine x_iaddN dX9_countOf_80 ?_
          refine xis9_5 dX9_countOf_81 rfl ?_
          refine xinc9_7N dX9_countOf_83 rfl ?_
          refine x_goto (tgt := 18) dX9_countOf_86 (by decide) ?_
          have e1 : cng kd q w n h pa S r c = 1 := by unfold cng; rw [if_pos ⟨by assumption, hS1, hS2⟩]
          rw [e1] at ih2
          exact ih2 _
      exact key2 0 (by omega) _
  exact key 0 (by omega) _ _
set_option maxHeartbeats 8000000 in
theorem c_canOf (E : Ev) (d : Nat) (M : PM) (p n K D h S : Nat) (q w kd pt nd : Nat → Nat) (hF : Fm M n K D kd pt nd) (hp : Pg M p n q w) (hl : Ld M n q w) (hh : h ≤ 1) (hS : S < 32) (hqK : ∀ r c, r < n → c < 5 → q (5 * r + c) < 4 * K) : Ci E (d + 2) mX9_canOf [.ref (ad E 40), .ref (ad E p), .int (nI h), .int (nI S)] M (fun v N => v = nI (canB kd q w n D pt nd h S) ∧ M = N) := by
  obtain ⟨f1, f2, f3, f4, f5, f6, f7, f8, f9⟩ := id hF
  refine Ct.ofi [some (.ref (ad E 40)), some (.ref (ad E p)), some (.int (nI h)), some (.int (nI S)), none, none] (own := RX9) rfl (by decide) (Nat.le_of_ble_eq_true rfl) rfl (fun C hR => ?_)
  refine x_iconst (v := nI 0) dX9_canOf_0 (by decide) ?_
  refine xis6_4 dX9_canOf_1 rfl ?_
  refine x_iconst (v := nI 0) dX9_canOf_3 (by decide) ?_
  refine xis6_5 dX9_canOf_4 rfl ?_
  have key : ∀ i, i ≤ D → X E (d + 2) RX9 cX9_canOf 6 C 6 [some (.ref (ad E 40)), some (.ref (ad E p)), some (.int (nI h)), some (.int (nI S)), some (.int (nI (canB kd q w n i pt nd h S))), some (.int (nI i))] [] M := by
    refine up_loop D ?_ ?_
    · refine x_iload dX9_canOf_6 rfl ?_
      refine x_aload_n dX9_canOf_8 rfl rfl ?_
      refine x_getv (f3) dX9_canOf_9 fX9_120 rfl rfl (by decide) ?_
      refine x_icmp_geN (tgt := 58) dX9_canOf_12 (by decide) (by omega) (by omega) (fun hc => ?_) (fun hc => ?_)
      · refine x_iload dX9_canOf_58 rfl ?_
        exact hR _ _ _ _ dX9_canOf_60 (⟨rfl, rfl⟩)
      · exact absurd hc (by omega)
    · intro i hi ih
      have hlt := canB_lt kd q w n i pt nd h S
      have h2 := p2 (show i ≤ 5 by omega)
      have hpt := f8 i hi
      have hnd := f9 i hi
      have hcn := cnt_le (kd := kd) (q := q) (w := w) (h := h) (p := pt i) (S := S) f4
      have ec : canB kd q w n (i + 1) pt nd h S = canB kd q w n i pt nd h S + if nd i ≤ cnt kd q w n h (pt i) S then 2 ^ i else 0 := rfl
      refine x_iload dX9_canOf_6 rfl ?_
      refine x_aload_n dX9_canOf_8 rfl rfl ?_
      refine x_getv (f3) dX9_canOf_9 fX9_120 rfl rfl (by decide) ?_
      refine x_icmp_geN (tgt := 58) dX9_canOf_12 (by decide) (by omega) (by omega) (fun hc => ?_) (fun hc => ?_)
      · exact absurd hc (by omega)
      refine x_iload dX9_canOf_15 rfl ?_
      refine x_aload_n dX9_canOf_17 rfl rfl ?_
      refine x_aload_n dX9_canOf_18 rfl rfl ?_
      refine x_iload_n dX9_canOf_19 rfl rfl ?_
      refine x_aload_n dX9_canOf_20 rfl rfl ?_
      refine x_getr dX9_canOf_21 fX9_16 rfl rfl (by decide) ?_
      refine x_iload dX9_canOf_24 rfl ?_
      refine x_ialdN dX9_canOf_26 rfl (by decide) (by omega) (by decide) (hpt.1) ?_
      refine x_iload_n dX9_canOf_27 rfl rfl ?_
      refine x_callVi dX9_canOf_28 mvX9_countOf kX9_138 (c_countOf E d M p n K D h (pt i) S q w kd pt nd hF hp hl hh hpt.2 hS hqK) rfl (by decide) (by omega) rfl rfl (Nat.le_of_ble_eq_true rfl) ?_
      rintro _ _ ⟨rfl, rfl⟩
      refine x_aload_n dX9_canOf_31 rfl rfl ?_
      refine x_getr dX9_canOf_32 fX9_19 rfl rfl (by decide) ?_
      refine x_iload dX9_canOf_35 rfl ?_
      refine x_ialdN dX9_canOf_37 rfl (by decide) (by omega) (by decide) (hnd.1) ?_
      refine x_icmp_ltN (tgt := 48) dX9_canOf_38 (by decide) (by omega) (by omega) (fun hc => ?_) (fun hc => ?_)
      · refine x_iconst (v := nI 0) dX9_canOf_48 (by decide) ?_
        refine x_iorN dX9_canOf_49 ?_
        refine xis6_4 dX9_canOf_50 rfl ?_
        refine xinc6_5N dX9_canOf_52 rfl ?_
        refine x_goto (tgt := 6) dX9_canOf_55 (by decide) ?_
        rw [ec, if_neg (by omega), Nat.add_zero] at ih
        rw [Nat.or_zero]
        exact ih
      · refine x_iconst (v := nI 1) dX9_canOf_41 (by decide) ?_
        refine x_iload dX9_canOf_42 rfl ?_
        refine x_ishlN dX9_canOf_44 (by omega) (by omega) ?_
        refine x_goto (tgt := 49) dX9_canOf_45 (by decide) ?_
        refine x_iorN dX9_canOf_49 ?_
        refine xis6_4 dX9_canOf_50 rfl ?_
        refine xinc6_5N dX9_canOf_52 rfl ?_
        refine x_goto (tgt := 6) dX9_canOf_55 (by decide) ?_
        rw [ec, if_pos (by omega), ← bits_or hlt] at ih
        rw [Nat.one_mul]
        exact ih
  exact key 0 (by omega)
