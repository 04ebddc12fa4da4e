-- ===== the reference: the family is made =====
def Vb : PS → Prop
  | (aw, col, K, n, D, kd, cl, pt, nd) => (∀ k, k < K → kd k < 4) ∧ (∀ i, i < 5 * n + (if aw = 3 then col else 0) → cl i < 4 * K) ∧ (∀ x, x < D → pt x < 4 ∧ nd x < 10) ∧ (aw = 5 → pt D < 4) ∧ (aw = 3 → col < 5) ∧ K ≤ 5 ∧ (aw = 2 → K < 5) ∧ aw ≤ 5
theorem Vb.step {b : Nat} {s s' : PS} (h : Vb s) (e : pstep b s = some s') : Vb s' := by
  obtain ⟨aw, col, K, n, D, kd, cl, pt, nd⟩ := s
  obtain ⟨h1, h2, h3, h4, h5, h6, h7, h8⟩ := h
  match aw, h2, h4, h5, h7, h8, e with
  | 0, h2, h4, h5, h7, h8, e =>
    change (if b = 70 then some _ else none) = some s' at e
    split at e
    · cases e; exact ⟨h1, fun i hi => h2 i (by simpa using hi), h3, fun z => absurd z (by decide), fun z => absurd z (by decide), h6, fun z => absurd z (by decide), by decide⟩
    · cases e
  | 1, h2, h4, h5, h7, h8, e =>
    change (if b = 75 ∧ K < 5 then some _ else if b = 82 ∧ n < 5 ∧ 0 < K then some _ else if b = 68 ∧ D < 4 then some _ else none) = some s' at e
    split at e
    · rename_i z; cases e; exact ⟨h1, fun i hi => h2 i (by simpa using hi), h3, fun z => absurd z (by decide), fun z => absurd z (by decide), h6, fun _ => z.2, by decide⟩
    · split at e
      · cases e; exact ⟨h1, fun i hi => h2 i (by simpa using hi), h3, fun z => absurd z (by decide), fun _ => by decide, h6, fun z => absurd z (by decide), by decide⟩
      · split at e
        · cases e; exact ⟨h1, fun i hi => h2 i (by simpa using hi), h3, fun z => absurd z (by decide), fun z => absurd z (by decide), h6, fun z => absurd z (by decide), by decide⟩
        · cases e
  | 2, h2, h4, h5, h7, h8, e =>
    change (if 48 ≤ b ∧ b ≤ 51 then some _ else none) = some s' at e
    split at e
    · cases e
      refine ⟨fun k hk => ?_, fun i hi => ?_, h3, fun z => absurd z (by decide), fun z => absurd z (by decide), h7 rfl, fun z => absurd z (by decide), by decide⟩
      · by_cases z : k = K
        · subst z; rw [uf_s]; omega
        · rw [uf_n z]; exact h1 k (by omega)
      · have := h2 i (by simpa using hi); omega
    · cases e
  | 3, h2, h4, h5, h7, h8, e =>
    have hcol := h5 rfl
    have hcl : ∀ v, v < 4 * K → ∀ i, i < 5 * n + (col + 1) → uf cl (5 * n + col) v i < 4 * K := by
      intro v hv i hi
      by_cases z : i = 5 * n + col
      · subst z; rw [uf_s]; exact hv
      · rw [uf_n z]; exact h2 i (by rw [if_pos rfl]; omega)
    change (if 97 ≤ b ∧ b < 97 + 4 * K then some (if col = 4 then _ else _) else none) = some s' at e
    split at e
    · rename_i zb
      by_cases z : col = 4
      · rw [if_pos z] at e
        cases e
        exact ⟨h1, fun i hi => hcl _ (by omega) i (by simp at hi; omega), h3, fun z => absurd z (by decide), fun z => absurd z (by decide), h6, fun z => absurd z (by decide), by decide⟩
      · rw [if_neg z] at e
        cases e
        exact ⟨h1, fun i hi => hcl _ (by omega) i (by simp at hi; omega), h3, fun z => absurd z (by decide), fun _ => by omega, h6, fun z => absurd z (by decide), by decide⟩
    · cases e
  | 4, h2, h4, h5, h7, h8, e =>
    change (if 48 ≤ b ∧ b ≤ 51 then some _ else none) = some s' at e
    split at e
    · cases e
      refine ⟨h1, fun i hi => h2 i (by simpa using hi), fun x hx => ?_, fun _ => ?_, fun z => absurd z (by decide), h6, fun z => absurd z (by decide), by decide⟩
      · rw [uf_n (by omega)]; exact h3 x hx
      · rw [uf_s]; omega
    · cases e
  | 5, h2, h4, h5, h7, h8, e =>
    change (if 49 ≤ b ∧ b ≤ 57 then some _ else none) = some s' at e
    split at e
    · cases e
      refine ⟨h1, fun i hi => h2 i (by simpa using hi), fun x hx => ?_, fun z => absurd z (by decide), fun z => absurd z (by decide), h6, fun z => absurd z (by decide), by decide⟩
      by_cases z : x = D
      · subst z; rw [uf_s]; exact ⟨h4 rfl, by omega⟩
      · rw [uf_n z]; exact h3 x (by omega)
    · cases e
  | k + 6, h2, h4, h5, h7, h8, e => exact absurd h8 (by omega)
theorem Vb.fin {tx : Nat → Nat} : ∀ (k i : Nat) (s : PS), Vb s → Vb (fnS tx k i s)
  | 0, _, _, h => h
  | k + 1, i, s, h => by
    rw [fnS]
    split
    · exact h
    · rename_i s' e
      exact Vb.fin k (i + 1) s' (h.step e)
theorem Vb.fnA (t : Nat) (tx : Nat → Nat) : Vb (fnA t tx) := Vb.fin _ _ _ ⟨fun k h => absurd h (by omega), fun i h => absurd h (by simp), fun x h => absurd h (by omega), fun z => absurd z (by decide), fun z => absurd z (by decide), by decide, fun z => absurd z (by decide), by decide⟩
set_option maxHeartbeats 8000000 in
theorem cM_family_no (E : Ev) (d : Nat) (M : PM) (t : Nat) (tx : Nat → Nat) (hT : M.1 40 0 = nI 0) (ht : TxM M t tx) (hf : fltA t tx ≠ -9) : Ci E (d + 5) mX9_family [.ref (ad E 40)] M (fun v N => v = -3 ∧ Fa M N [45, 46, 47, 48] [3, 10, 12, 14]) := by
  refine Ct.ofi [some (.ref (ad E 40)), none] (own := RX9) rfl (by decide) (Nat.le_of_ble_eq_true rfl) rfl (fun C hR => ?_)
  refine x_aload_n dX9_family_0 rfl rfl ?_
  refine x_iconst (v := nI 0) dX9_family_1 (by decide) ?_
  refine x_put dX9_family_2 pX9_68 rfl rfl (by decide) rfl rfl ?_
  rw [thr hT]
  refine x_aload_n dX9_family_5 rfl rfl ?_
  refine x_callVi dX9_family_6 mvX9_readFamily kX9_110 (c_readFamily E d M t tx ht) rfl (by decide) (by omega) rfl rfl (Nat.le_of_ble_eq_true rfl) ?_
  rintro _ N ⟨rfl, hN, _⟩
  refine x_bipush (v := -9) dX9_family_9 (by decide) ?_
  refine x_icmp_eq (tgt := 17) dX9_family_11 (by decide) (fun hc => ?_) (fun hc => ?_)
  · exact absurd hc hf
  · refine x_bipush (v := -3) dX9_family_14 (by decide) ?_
    exact hR _ _ _ _ dX9_family_16 (⟨rfl, hN⟩)
set_option maxHeartbeats 8000000 in
theorem cM_family (E : Ev) (d : Nat) (M : PM) (t col K n D : Nat) (tx kd cl pt nd : Nat → Nat) (hT : M.1 40 0 = nI 0) (ht : TxM M t tx) (hf : fltA t tx = -9) (hs : fnA t tx = (1, col, K, n, D, kd, cl, pt, nd)) : Ci E (d + 5) mX9_family [.ref (ad E 40)] M (fun v N => v = nI (100 * n + 10 * K + D) ∧ Fa M N [42, 43, 44, 45, 46, 47, 48, 49, 53] [3, 4, 5, 7, 10, 12, 14, 20] ∧ Fm N n K D kd pt nd ∧ Pg N 49 n cl (fun _ => 2) ∧ N.1 49 30 = nI 0 ∧ N.1 40 20 = nI 0 ∧ ∀ s, s < 2 → N.1 53 s = nI 0) := by
  have hv := Vb.fnA t tx
  rw [hs] at hv
  obtain ⟨v1, v2, v3, -, -, v6, -, -⟩ := hv
  have v2 : ∀ i, i < 5 * n → cl i < 4 * K := fun i hi => v2 i (by simpa using hi)
  refine Ct.ofi [some (.ref (ad E 40)), none] (own := RX9) rfl (by decide) (Nat.le_of_ble_eq_true rfl) rfl (fun C hR => ?_)
  refine x_aload_n dX9_family_0 rfl rfl ?_
  refine x_iconst (v := nI 0) dX9_family_1 (by decide) ?_
  refine x_put dX9_family_2 pX9_68 rfl rfl (by decide) rfl rfl ?_
  rw [thr hT]
  refine x_aload_n dX9_family_5 rfl rfl ?_
  refine x_callVi dX9_family_6 mvX9_readFamily kX9_110 (c_readFamily E d M t tx ht) rfl (by decide) (by omega) rfl rfl (Nat.le_of_ble_eq_true rfl) ?_
  rintro _ N ⟨rfl, hN, hok⟩
  refine x_bipush (v := -9) dX9_family_9 (by decide) ?_
  obtain ⟨col', K', n', D', kd', cl', pt', nd', e', hr, hK5, hn5, hD4⟩ := hok hf
  rw [hs] at e'
  cases e'
  obtain ⟨r1, r2, r3, r4, r5, r6⟩ := hr
  refine x_icmp_eq (tgt := 17) dX9_family_11 (by decide) (fun hc => ?_) (fun hc => ?_)
  rotate_left
  · exact absurd hf hc
  refine x_aload_n dX9_family_17 rfl rfl ?_
  refine x_aload_n dX9_family_18 rfl rfl ?_
  refine x_getv (r2) dX9_family_19 fX9_91 rfl rfl (by decide) ?_
  refine x_put dX9_family_22 pX9_114 rfl rfl (by decide) rfl rfl ?_
  refine x_aload_n dX9_family_25 rfl rfl ?_
  refine x_aload_n dX9_family_26 rfl rfl ?_
  refine x_getv (sau_v (by decide) r1) dX9_family_27 fX9_88 rfl rfl (by decide) ?_
  refine x_put dX9_family_30 pX9_117 rfl rfl (by decide) rfl rfl ?_
  refine x_aload_n dX9_family_33 rfl rfl ?_
  refine x_aload_n dX9_family_34 rfl rfl ?_
  refine x_getv (sau_v (by decide) (sau_v (by decide) r3)) dX9_family_35 fX9_94 rfl rfl (by decide) ?_
  refine x_put dX9_family_38 pX9_120 rfl rfl (by decide) rfl rfl ?_
  have hF1 : Fa M (sa (sa (sa N 40 (upd (N.1 40) 4 (nI n))) 40 (upd ((sa N 40 (upd (N.1 40) 4 (nI n))).1 40) 5 (nI K))) 40 (upd ((sa (sa N 40 (upd (N.1 40) 4 (nI n))) 40 (upd ((sa N 40 (upd (N.1 40) 4 (nI n))).1 40) 5 (nI K))).1 40) 7 (nI D))) [42, 43, 44, 45, 46, 47, 48, 49, 53] [3, 4, 5, 7, 10, 12, 14, 20] := by
    refine Fa.up (Fa.up (Fa.up ?_ (by decide)) (by decide)) (by decide)
    exact ⟨hN.1, fun c h1 h2 => hN.2.1 c (fun z => h1 (by simp at z; rcases z with z | z | z | z <;> simp [z])) h2, fun k hk => hN.2.2 k (fun z => hk (by simp at z; rcases z with z | z | z | z <;> simp [z]))⟩
  have e4 : (sa (sa (sa N 40 (upd (N.1 40) 4 (nI n))) 40 (upd ((sa N 40 (upd (N.1 40) 4 (nI n))).1 40) 5 (nI K))) 40 (upd ((sa (sa N 40 (upd (N.1 40) 4 (nI n))) 40 (upd ((sa N 40 (upd (N.1 40) 4 (nI n))).1 40) 5 (nI K))).1 40) 7 (nI D))).1 40 4 = nI n := sau_v (by decide) (sau_v (by decide) (by rw [sa_1, pk_us]))
  have e5 : (sa (sa (sa N 40 (upd (N.1 40) 4 (nI n))) 40 (upd ((sa N 40 (upd (N.1 40) 4 (nI n))).1 40) 5 (nI K))) 40 (upd ((sa (sa N 40 (upd (N.1 40) 4 (nI n))) 40 (upd ((sa N 40 (upd (N.1 40) 4 (nI n))).1 40) 5 (nI K))).1 40) 7 (nI D))).1 40 5 = nI K := sau_v (by decide) (by rw [sa_1, pk_us])
  have e7 : (sa (sa (sa N 40 (upd (N.1 40) 4 (nI n))) 40 (upd ((sa N 40 (upd (N.1 40) 4 (nI n))).1 40) 5 (nI K))) 40 (upd ((sa (sa N 40 (upd (N.1 40) 4 (nI n))) 40 (upd ((sa N 40 (upd (N.1 40) 4 (nI n))).1 40) 5 (nI K))).1 40) 7 (nI D))).1 40 7 = nI D := by rw [sa_1, pk_us]
  have r4' : ∀ k, k < K → (sa (sa (sa N 40 (upd (N.1 40) 4 (nI n))) 40 (upd ((sa N 40 (upd (N.1 40) 4 (nI n))).1 40) 5 (nI K))) 40 (upd ((sa (sa N 40 (upd (N.1 40) 4 (nI n))) 40 (upd ((sa N 40 (upd (N.1 40) 4 (nI n))).1 40) 5 (nI K))).1 40) 7 (nI D))).1 46 k = nI (kd k) := fun k hk => sa_v (by decide) (sa_v (by decide) (sa_v (by decide) (r4 k hk)))
  have r5' : ∀ k, k < 5 * n → (sa (sa (sa N 40 (upd (N.1 40) 4 (nI n))) 40 (upd ((sa N 40 (upd (N.1 40) 4 (nI n))).1 40) 5 (nI K))) 40 (upd ((sa (sa N 40 (upd (N.1 40) 4 (nI n))) 40 (upd ((sa N 40 (upd (N.1 40) 4 (nI n))).1 40) 5 (nI K))).1 40) 7 (nI D))).1 45 k = nI (cl k) := fun k hk => sa_v (by decide) (sa_v (by decide) (sa_v (by decide) (r5 k hk)))
  have r6a : ∀ k, k < D → (sa (sa (sa N 40 (upd (N.1 40) 4 (nI n))) 40 (upd ((sa N 40 (upd (N.1 40) 4 (nI n))).1 40) 5 (nI K))) 40 (upd ((sa (sa N 40 (upd (N.1 40) 4 (nI n))) 40 (upd ((sa N 40 (upd (N.1 40) 4 (nI n))).1 40) 5 (nI K))).1 40) 7 (nI D))).1 47 k = nI (pt k) := fun k hk => sa_v (by decide) (sa_v (by decide) (sa_v (by decide) (r6 k hk).1))
  have r6b : ∀ k, k < D → (sa (sa (sa N 40 (upd (N.1 40) 4 (nI n))) 40 (upd ((sa N 40 (upd (N.1 40) 4 (nI n))).1 40) 5 (nI K))) 40 (upd ((sa (sa N 40 (upd (N.1 40) 4 (nI n))) 40 (upd ((sa N 40 (upd (N.1 40) 4 (nI n))).1 40) 5 (nI K))).1 40) 7 (nI D))).1 48 k = nI (nd k) := fun k hk => sa_v (by decide) (sa_v (by decide) (sa_v (by decide) (r6 k hk).2))
  revert hF1 e4 e5 e7 r4' r5' r6a r6b
  generalize sa (sa (sa N 40 _) 40 _) 40 _ = M1
  intro hF1 e4 e5 e7 r4' r5' r6a r6b
  refine x_aload_n dX9_family_41 rfl rfl ?_
  refine x_getr dX9_family_42 fX9_25 rfl rfl (by decide) ?_
  refine x_aload_n dX9_family_45 rfl rfl ?_
  refine x_getr dX9_family_46 fX9_13 rfl rfl (by decide) ?_
  refine x_iconst (v := nI 5) dX9_family_49 (by decide) ?_
  refine x_callSv dX9_family_50 msX9_copyRow kX9_123 (c_copyRow E d M1 46 42 5 5 5 rfl rfl (by decide) (by decide) (by decide) (by decide) (by decide) (by decide) (by decide)) (by omega) rfl rfl (Nat.le_of_ble_eq_true rfl) ?_
  rintro M2 h2
  refine x_aload_n dX9_family_53 rfl rfl ?_
  refine x_getr dX9_family_54 fX9_28 rfl rfl (by decide) ?_
  refine x_aload_n dX9_family_57 rfl rfl ?_
  refine x_getr dX9_family_58 fX9_16 rfl rfl (by decide) ?_
  refine x_iconst (v := nI 4) dX9_family_61 (by decide) ?_
  refine x_callSv dX9_family_62 msX9_copyRow kX9_123 (c_copyRow E d M2 47 43 4 4 4 rfl rfl (by decide) (by decide) (by decide) (by decide) (by decide) (by decide) (by decide)) (by omega) rfl rfl (Nat.le_of_ble_eq_true rfl) ?_
  rintro M3 h3
  refine x_aload_n dX9_family_65 rfl rfl ?_
  refine x_getr dX9_family_66 fX9_31 rfl rfl (by decide) ?_
  refine x_aload_n dX9_family_69 rfl rfl ?_
  refine x_getr dX9_family_70 fX9_19 rfl rfl (by decide) ?_
  refine x_iconst (v := nI 4) dX9_family_73 (by decide) ?_
  refine x_callSv dX9_family_74 msX9_copyRow kX9_123 (c_copyRow E d M3 48 44 4 4 4 rfl rfl (by decide) (by decide) (by decide) (by decide) (by decide) (by decide) (by decide)) (by omega) rfl rfl (Nat.le_of_ble_eq_true rfl) ?_
  rintro M4 h4
  refine x_iconst (v := nI 0) dX9_family_77 (by decide) ?_
  refine xis2_1 dX9_family_78 rfl ?_
  have hF4 : Fa M M4 [42, 43, 44, 45, 46, 47, 48, 49, 53] [3, 4, 5, 7, 10, 12, 14, 20] := by
    rw [h4, h3, h2]; exact ((hF1.st (by decide) (by decide)).st (by decide) (by decide)).st (by decide) (by decide)
  have hFm : Fm M4 n K D kd pt nd := by
    refine ⟨?_, ?_, ?_, hn5, hK5, hD4, fun k hk => ⟨?_, v1 k hk⟩, fun x hx => ⟨?_, (v3 x hx).1⟩, fun x hx => ⟨?_, (v3 x hx).2⟩⟩
    · rw [h4, h3, h2]; exact sa_v (by decide) (sa_v (by decide) (sa_v (by decide) e4))
    · rw [h4, h3, h2]; exact sa_v (by decide) (sa_v (by decide) (sa_v (by decide) e5))
    · rw [h4, h3, h2]; exact sa_v (by decide) (sa_v (by decide) (sa_v (by decide) e7))
    · rw [h4, h3, h2, sa_ne (by decide), sa_ne (by decide), sa_1, fa_fill_in (by omega)]; exact r4' k hk
    · rw [h4, h3, h2, sa_ne (by decide), sa_1, fa_fill_in (by omega), sa_ne (by decide)]; exact r6a x hx
    · rw [h4, h3, h2, sa_1, fa_fill_in (by omega), sa_ne (by decide), sa_ne (by decide)]; exact r6b x hx
  have hcl4 : ∀ i, i < 5 * n → M4.1 45 i = nI (cl i) := by
    intro i hi
    rw [h4, h3, h2]; exact sa_v (by decide) (sa_v (by decide) (sa_v (by decide) (r5' i hi)))
  clear h4 h3 h2
  have keep : ∀ N2, Fa M4 N2 [49, 53] [20] → Fa M N2 [42, 43, 44, 45, 46, 47, 48, 49, 53] [3, 4, 5, 7, 10, 12, 14, 20] ∧ Fm N2 n K D kd pt nd := fun N2 h => ⟨hF4.tr h (by decide) (by decide), hFm.fa h (by decide) (by decide) (by decide) (by decide) (by decide) (by decide)⟩
  have key2 : ∀ i, i ≤ 5 * n → ∀ N2, Fa M4 N2 [49, 53] [20] → (∀ r, r < n → N2.1 49 r = nI 2) → N2.1 49 30 = nI 0 → (∀ j, j < i → N2.1 49 (5 + j) = nI (cl j)) → X E (d + 5) RX9 cX9_family 2 C 112 [some (.ref (ad E 40)), some (.int (nI i))] [] N2 := by
    refine up_loop (5 * n) ?_ ?_
    · intro N2 hN2 hw h30 hcell
      obtain ⟨q1, q2⟩ := keep N2 hN2
      refine x_iload_n dX9_family_112 rfl rfl ?_
      refine x_iconst (v := nI 5) dX9_family_113 (by decide) ?_
      refine x_aload_n dX9_family_114 rfl rfl ?_
      refine x_getv (q2.1) dX9_family_115 fX9_114 rfl rfl (by decide) ?_
      refine x_imulN dX9_family_118 ?_
      refine x_icmp_geN (tgt := 142) dX9_family_119 (by decide) (by omega) (by omega) (fun hc => ?_) (fun hc => ?_)
      rotate_left
      · exact absurd hc (by omega)
      refine x_aload_n dX9_family_142 rfl rfl ?_
      refine x_iconst (v := nI 0) dX9_family_143 (by decide) ?_
      refine x_put dX9_family_144 pX9_127 rfl rfl (by decide) rfl rfl ?_
      refine x_aload_n dX9_family_147 rfl rfl ?_
      refine x_getr dX9_family_148 fX9_46 rfl rfl (by decide) ?_
      refine x_iconst (v := nI 0) dX9_family_151 (by decide) ?_
      refine x_iconst (v := nI 0) dX9_family_152 (by decide) ?_
      refine x_zastN dX9_family_153 rfl (by decide) (by omega) (by decide) (by decide) ?_
      refine x_aload_n dX9_family_154 rfl rfl ?_
      refine x_getr dX9_family_155 fX9_46 rfl rfl (by decide) ?_
      refine x_iconst (v := nI 1) dX9_family_158 (by decide) ?_
      refine x_iconst (v := nI 0) dX9_family_159 (by decide) ?_
      refine x_zastN dX9_family_160 rfl (by decide) (by omega) (by decide) (by decide) ?_
      have hN3 : Fa M4 (sa (sa (sa N2 40 (upd (N2.1 40) 20 (nI 0))) 53 (upd ((sa N2 40 (upd (N2.1 40) 20 (nI 0))).1 53) 0 (nI 0))) 53 (upd ((sa (sa N2 40 (upd (N2.1 40) 20 (nI 0))) 53 (upd ((sa N2 40 (upd (N2.1 40) 20 (nI 0))).1 53) 0 (nI 0))).1 53) 1 (nI 0))) [49, 53] [20] := ((hN2.up (by decide)).st (by decide) (by decide)).st (by decide) (by decide)
      have a49 : (sa (sa (sa N2 40 (upd (N2.1 40) 20 (nI 0))) 53 (upd ((sa N2 40 (upd (N2.1 40) 20 (nI 0))).1 53) 0 (nI 0))) 53 (upd ((sa (sa N2 40 (upd (N2.1 40) 20 (nI 0))) 53 (upd ((sa N2 40 (upd (N2.1 40) 20 (nI 0))).1 53) 0 (nI 0))).1 53) 1 (nI 0))).1 49 = N2.1 49 := by rw [sa_ne (by decide), sa_ne (by decide), sa_ne (by decide)]
      have a20 : (sa (sa (sa N2 40 (upd (N2.1 40) 20 (nI 0))) 53 (upd ((sa N2 40 (upd (N2.1 40) 20 (nI 0))).1 53) 0 (nI 0))) 53 (upd ((sa (sa N2 40 (upd (N2.1 40) 20 (nI 0))) 53 (upd ((sa N2 40 (upd (N2.1 40) 20 (nI 0))).1 53) 0 (nI 0))).1 53) 1 (nI 0))).1 40 20 = nI 0 := sa_v (by decide) (sa_v (by decide) (by rw [sa_1, pk_us]))
      have a53 : ∀ s, s < 2 → (sa (sa (sa N2 40 (upd (N2.1 40) 20 (nI 0))) 53 (upd ((sa N2 40 (upd (N2.1 40) 20 (nI 0))).1 53) 0 (nI 0))) 53 (upd ((sa (sa N2 40 (upd (N2.1 40) 20 (nI 0))) 53 (upd ((sa N2 40 (upd (N2.1 40) 20 (nI 0))).1 53) 0 (nI 0))).1 53) 1 (nI 0))).1 53 s = nI 0 := by
        intro s hs
        rcases (show s = 0 ∨ s = 1 by omega) with rfl | rfl
        · exact sau_v (by decide) (by rw [sa_1, pk_us])
        · rw [sa_1, pk_us]
      revert hN3 a49 a20 a53
      generalize sa (sa (sa N2 40 _) 53 _) 53 _ = N3
      intro hN3 a49 a20 a53
      obtain ⟨q3, q4⟩ := keep N3 hN3
      refine x_bipush (v := nI 100) dX9_family_161 (by decide) ?_
      refine x_aload_n dX9_family_163 rfl rfl ?_
      refine x_getv (q4.1) dX9_family_164 fX9_114 rfl rfl (by decide) ?_
      refine x_imulN dX9_family_167 ?_
      refine x_bipush (v := nI 10) dX9_family_168 (by decide) ?_
      refine x_aload_n dX9_family_170 rfl rfl ?_
      refine x_getv (q4.2.1) dX9_family_171 fX9_117 rfl rfl (by decide) ?_
      refine x_imulN dX9_family_174 ?_
      refine x_iaddN dX9_family_175 ?_
      refine x_aload_n dX9_family_176 rfl rfl ?_
      refine x_getv (q4.2.2.1) dX9_family_177 fX9_120 rfl rfl (by decide) ?_
      refine x_iaddN dX9_family_180 ?_
      refine hR _ _ _ _ dX9_family_181 ⟨rfl, q3, q4, ⟨rfl, by decide, hn5, fun r c hr hc5 => ⟨?_, ?_⟩, fun r hr => ⟨?_, Nat.le_of_ble_eq_true rfl⟩⟩, ?_, a20, a53⟩
      · rw [a49, show 5 + 5 * r + c = 5 + (5 * r + c) by omega]; exact hcell _ (by omega)
      · have := v2 (5 * r + c) (by omega); omega
      · rw [a49]; exact hw r hr
      · rw [a49]; exact h30
    · intro i hi ih N2 hN2 hw h30 hcell
      obtain ⟨q1, q2⟩ := keep N2 hN2
      refine x_iload_n dX9_family_112 rfl rfl ?_
      refine x_iconst (v := nI 5) dX9_family_113 (by decide) ?_
      refine x_aload_n dX9_family_114 rfl rfl ?_
      refine x_getv (q2.1) dX9_family_115 fX9_114 rfl rfl (by decide) ?_
      refine x_imulN dX9_family_118 ?_
      refine x_icmp_geN (tgt := 142) dX9_family_119 (by decide) (by omega) (by omega) (fun hc => ?_) (fun hc => ?_)
      · exact absurd hc (by omega)
      refine x_aload_n dX9_family_122 rfl rfl ?_
      refine x_getr dX9_family_123 fX9_34 rfl rfl (by decide) ?_
      refine x_iconst (v := nI 5) dX9_family_126 (by decide) ?_
      refine x_iload_n dX9_family_127 rfl rfl ?_
      refine x_iaddN dX9_family_128 ?_
      refine x_aload_n dX9_family_129 rfl rfl ?_
      refine x_getr dX9_family_130 fX9_22 rfl rfl (by decide) ?_
      refine x_iload_n dX9_family_133 rfl rfl ?_
      refine x_ialdN dX9_family_134 rfl (by decide) (by omega) (by decide) (hN2.v (by decide) (by decide) (hcl4 i hi)) ?_
      refine x_iastN dX9_family_135 rfl (by decide) (by omega) (by decide) ?_
      refine xinc2_1N dX9_family_136 rfl ?_
      refine x_goto (tgt := 112) dX9_family_139 (by decide) ?_
      refine ih _ (hN2.st (by decide) (by decide)) (fun r hr => ?_) ?_ (fun j hj => ?_)
      · rw [sa_1, pk_un (by omega)]; exact hw r hr
      · rw [sa_1, pk_un (by omega)]; exact h30
      · rw [sa_1]
        by_cases e : j = i
        · subst e; exact pk_us
        · rw [pk_un (by omega)]; exact hcell j (by omega)
  have key1 : ∀ i, i ≤ 31 → ∀ N2, Fa M4 N2 [49, 53] [20] → (∀ j, j < i → N2.1 49 j = if j < n then nI 2 else nI 0) → X E (d + 5) RX9 cX9_family 2 C 79 [some (.ref (ad E 40)), some (.int (nI i))] [] N2 := by
    refine up_loop 31 ?_ ?_
    · intro N2 hN2 hw
      refine x_iload_n dX9_family_79 rfl rfl ?_
      refine x_bipush (v := nI 31) dX9_family_80 (by decide) ?_
      refine x_icmp_geN (tgt := 110) dX9_family_82 (by decide) (by omega) (by omega) (fun hc => ?_) (fun hc => ?_)
      rotate_left
      · exact absurd hc (by omega)
      refine x_iconst (v := nI 0) dX9_family_110 (by decide) ?_
      refine xis2_1 dX9_family_111 rfl ?_
      exact key2 0 (by omega) N2 hN2 (fun r hr => by rw [hw r (by omega), if_pos hr]) (by rw [hw 30 (by omega), if_neg (by omega)]) (fun j hj => absurd hj (by omega))
    · intro i hi ih N2 hN2 hw
      obtain ⟨q1, q2⟩ := keep N2 hN2
      have nxt : ∀ v, v = (if i < n then nI 2 else nI 0) → ∀ j, j < i + 1 → (sa N2 49 (upd (N2.1 49) i v)).1 49 j = if j < n then nI 2 else nI 0 := by
        intro v hv j hj
        rw [sa_1]
        by_cases e : j = i
        · subst e; rw [pk_us, hv]
        · rw [pk_un e]; exact hw j (by omega)
      refine x_iload_n dX9_family_79 rfl rfl ?_
      refine x_bipush (v := nI 31) dX9_family_80 (by decide) ?_
      refine x_icmp_geN (tgt := 110) dX9_family_82 (by decide) (by omega) (by omega) (fun hc => ?_) (fun hc => ?_)
      · exact absurd hc (by omega)
      refine x_aload_n dX9_family_85 rfl rfl ?_
      refine x_getr dX9_family_86 fX9_34 rfl rfl (by decide) ?_
      refine x_iload_n dX9_family_89 rfl rfl ?_
      refine x_iload_n dX9_family_90 rfl rfl ?_
      refine x_aload_n dX9_family_91 rfl rfl ?_
      refine x_getv (q2.1) dX9_family_92 fX9_114 rfl rfl (by decide) ?_
      refine x_icmp_geN (tgt := 102) dX9_family_95 (by decide) (by omega) (by omega) (fun hc => ?_) (fun hc => ?_)
      · refine x_iconst (v := nI 0) dX9_family_102 (by decide) ?_
        refine x_iastN dX9_family_103 rfl (by decide) (by omega) (by decide) ?_
        refine xinc2_1N dX9_family_104 rfl ?_
        refine x_goto (tgt := 79) dX9_family_107 (by decide) ?_
        exact ih _ (hN2.st (by decide) (by decide)) (nxt _ (by rw [if_neg (by omega)]))
      · refine x_iconst (v := nI 2) dX9_family_98 (by decide) ?_
        refine x_goto (tgt := 103) dX9_family_99 (by decide) ?_
        refine x_iastN dX9_family_103 rfl (by decide) (by omega) (by decide) ?_
        refine xinc2_1N dX9_family_104 rfl ?_
        refine x_goto (tgt := 79) dX9_family_107 (by decide) ?_
        exact ih _ (hN2.st (by decide) (by decide)) (nxt _ (by rw [if_pos hc]))
  exact key1 0 (by omega) M4 Fa.rf (fun j hj => absurd hj (by omega))
