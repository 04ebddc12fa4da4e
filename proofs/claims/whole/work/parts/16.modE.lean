-- ===== the reference: acts noted and undone, slots, seen, the text =====
/-- a page kept in a longer row, at its j-th place -/
def BkP (M : PM) (b j n : Nat) (q w : Nat → Nat) (g : Int32) : Prop := (∀ r c, r < n → c < 5 → M.1 b (31 * j + (5 + 5 * r + c)) = nI (q (5 * r + c)) ∧ q (5 * r + c) < 20) ∧ (∀ r, r < n → M.1 b (31 * j + r) = nI (w r) ∧ w r ≤ 5) ∧ M.1 b (31 * j + 30) = g
theorem BkP.of {M N : PM} {b b' j j' n : Nat} {q w : Nat → Nat} {g : Int32} (h : BkP M b j n q w g) (hn : n ≤ 5) (e : ∀ k, k < 31 → N.1 b' (31 * j' + k) = M.1 b (31 * j + k)) : BkP N b' j' n q w g := by
  obtain ⟨h1, h2, h3⟩ := h
  refine ⟨fun r c hr hc => ?_, fun r hr => ?_, ?_⟩
  · rw [e _ (by omega)]; exact h1 r c hr hc
  · rw [e _ (by omega)]; exact h2 r hr
  · rw [e _ (by omega)]; exact h3
theorem BkP.pg {M N : PM} {b j n : Nat} {q w : Nat → Nat} {g : Int32} (h : BkP M b j n q w g) (hn : n ≤ 5) (e : ∀ k, k < 31 → N.1 49 k = M.1 b (31 * j + k)) : Pg N 49 n q w ∧ N.1 49 30 = g := by
  obtain ⟨h1, h2, h3⟩ := h
  refine ⟨⟨rfl, by decide, hn, fun r c hr hc => ?_, fun r hr => ?_⟩, ?_⟩
  · rw [e _ (by omega)]; exact h1 r c hr hc
  · rw [e _ (by omega)]; exact h2 r hr
  · rw [e _ (by omega)]; exact h3
theorem Pg.bk {M N : PM} {b j n : Nat} {q w : Nat → Nat} {g : Int32} (h : Pg M 49 n q w) (hg : M.1 49 30 = g) (e : ∀ k, k < 31 → N.1 b (31 * j + k) = M.1 49 k) : BkP N b j n q w g := by
  have hn := h.2.2.1
  refine ⟨fun r c hr hc => ?_, fun r hr => ?_, ?_⟩
  · rw [e _ (by omega)]; exact h.2.2.2.1 r c hr hc
  · rw [e _ (by omega)]; exact h.2.2.2.2 r hr
  · rw [e _ (by omega)]; exact hg
def Bk (M : PM) (an n : Nat) (Q W : Nat → Nat → Nat) (G : Nat → Int32) : Prop := ∀ j, j < an → BkP M 51 j n (Q j) (W j) (G j)
/-- one act more in a row of fourteen -/
def pan (an : Nat) : Nat := if an = 14 then 14 else an + 1
def psh {α : Type} (an : Nat) (F : Nat → α) (x : α) : Nat → α := fun j => if an = 14 then (if j < 13 then F (j + 1) else x) else (if j < an then F j else x)
/-- nothing of the reference has changed but some rows and some of its own numbers -/
def Fa (M N : PM) (cs ks : List Nat) : Prop := N.2 = M.2 ∧ (∀ c, c ∉ cs → c ≠ 40 → N.1 c = M.1 c) ∧ ∀ k, k ∉ ks → N.1 40 k = M.1 40 k
theorem Fa.rf {M : PM} {cs ks : List Nat} : Fa M M cs ks := ⟨rfl, fun _ _ _ => rfl, fun _ _ => rfl⟩
theorem Fa.st {M N : PM} {cs ks : List Nat} {c : Nat} {f : Nat → Int32} (h : Fa M N cs ks) (hc : c ∈ cs) (h40 : c ≠ 40) : Fa M (sa N c f) cs ks :=
  ⟨h.1, fun c' h1 h2 => by rw [sa_ne (fun e => h1 (by rw [e]; exact hc))]; exact h.2.1 c' h1 h2, fun k hk => by rw [sa_ne (Ne.symm h40)]; exact h.2.2 k hk⟩
theorem Fa.up {M N : PM} {cs ks : List Nat} {k : Nat} {v : Int32} (h : Fa M N cs ks) (hk : k ∈ ks) : Fa M (sa N 40 (upd (N.1 40) k v)) cs ks :=
  ⟨h.1, fun c' h1 h2 => by rw [sa_ne h2]; exact h.2.1 c' h1 h2, fun j hj => by rw [sa_1, pk_un (fun e => hj (by rw [e]; exact hk))]; exact h.2.2 j hj⟩
theorem Fa.tr {M N K : PM} {cs ks ds js : List Nat} (h : Fa M N cs ks) (h2 : Fa N K ds js) (hs : ∀ c ∈ ds, c ∈ cs) (ht : ∀ c ∈ js, c ∈ ks) : Fa M K cs ks :=
  ⟨h2.1.trans h.1, fun c hc h40 => (h2.2.1 c (fun e => hc (hs c e)) h40).trans (h.2.1 c hc h40), fun k hk => (h2.2.2 k (fun e => hk (ht k e))).trans (h.2.2 k hk)⟩
theorem Fa.wd {M N : PM} {cs ks ds : List Nat} (h : Fa M N cs ks) (hs : ∀ c ∈ cs, c ∈ ds) : Fa M N ds ks := ⟨h.1, fun c hc h40 => h.2.1 c (fun e => hc (hs c e)) h40, h.2.2⟩
theorem Fr.Fa {M N : PM} {cs ks : List Nat} (h : Fr M N cs) (h40 : 40 ∉ cs) : Fa M N cs ks := ⟨h.1, fun c hc _ => h.2 c hc, fun k _ => by rw [h.2 40 h40]⟩
theorem Fa.v {M N : PM} {cs ks : List Nat} {c k : Nat} {v : Int32} (h : Fa M N cs ks) (hc : c ∉ cs) (h40 : c ≠ 40) (hv : M.1 c k = v) : N.1 c k = v := by rw [h.2.1 c hc h40]; exact hv
theorem Fa.f {M N : PM} {cs ks : List Nat} {k : Nat} {v : Int32} (h : Fa M N cs ks) (hk : k ∉ ks) (hv : M.1 40 k = v) : N.1 40 k = v := by rw [h.2.2 k hk]; exact hv
/-- page, gold, acts of the reference -/
def MP (M : PM) (n an : Nat) (q w : Nat → Nat) (g : Int32) (Q W : Nat → Nat → Nat) (G : Nat → Int32) : Prop := Pg M 49 n q w ∧ M.1 49 30 = g ∧ M.1 40 20 = nI an ∧ an ≤ 14 ∧ Bk M an n Q W G
set_option maxHeartbeats 8000000 in
theorem c_note (E : Ev) (d : Nat) (M : PM) (n an : Nat) (q w : Nat → Nat) (g : Int32) (Q W : Nat → Nat → Nat) (G : Nat → Int32) (h : MP M n an q w g Q W G) : Cv E d mX9_note [.ref (ad E 40)] M (fun N => Fa M N [51] [20] ∧ MP N n (pan an) q w g (psh an Q q) (psh an W w) (psh an G g)) := by
  obtain ⟨hp, hg, ha, ha14, hB⟩ := h
  have hn5 := hp.2.2.1
  refine Ct.ofv [some (.ref (ad E 40)), none] (own := RX9) rfl (by decide) (Nat.le_of_ble_eq_true rfl) rfl (fun C hR => ?_)
  have cont : ∀ an' s N l1, an' + s = an → an' ≤ 13 → (∀ j, j < an' → ∀ {α : Type} (F : Nat → α) (x : α), psh an F x j = F (j + s)) → (∀ {α : Type} (F : Nat → α) (x : α), psh an F x an' = x) → pan an = an' + 1 → Fa M N [51] [20] → N.1 40 20 = nI an' → (∀ i, i < 31 * an' → N.1 51 i = M.1 51 (i + 31 * s)) → X E d RX9 cX9_note 2 C 49 [some (.ref (ad E 40)), l1] [] N := by
    intro an' s N l1 has ha13 hp1 hp2 hpan hN hact hbook
    refine x_iconst (v := nI 0) dX9_note_49 (by decide) ?_
    refine xis2_1 dX9_note_50 rfl ?_
    have key : ∀ i, i ≤ 31 → ∀ N2, Fa M N2 [51] [20] → N2.1 40 20 = nI an' → (∀ k, k < 31 * an' → N2.1 51 k = N.1 51 k) → (∀ k, k < i → N2.1 51 (31 * an' + k) = M.1 49 k) → X E d RX9 cX9_note 2 C 51 [some (.ref (ad E 40)), some (.int (nI i))] [] N2 := by
      refine up_loop 31 ?_ ?_
      · intro N2 hN2 ha2 hk1 hk2
        refine x_iload_n dX9_note_51 rfl rfl ?_
        refine x_bipush (v := nI 31) dX9_note_52 (by decide) ?_
        refine x_icmp_geN (tgt := 83) dX9_note_54 (by decide) (by omega) (by omega) (fun hc => ?_) (fun hc => ?_)
        · refine x_aload_n dX9_note_83 rfl rfl ?_
          refine x_dup dX9_note_84 rfl ?_
          refine x_getv (ha2) dX9_note_85 fX9_127 rfl rfl (by decide) ?_
          refine x_iconst (v := nI 1) dX9_note_88 (by decide) ?_
          refine x_iaddN dX9_note_89 ?_
          refine x_put dX9_note_90 pX9_127 rfl rfl (by decide) rfl rfl ?_
          refine hR _ _ _ dX9_note_93 ⟨hN2.up (by decide), (hp.to (by rw [sa_ne (by decide)]; exact hN2.2.1 49 (by decide) (by decide))), ?_, ?_, ?_, ?_⟩
          · rw [sa_ne (by decide)]; exact hN2.v (by decide) (by decide) hg
          · rw [sa_1, pk_us, hpan]
          · rw [hpan]; omega
          · intro j hj
            rw [hpan] at hj
            by_cases e : j < an'
            · rw [hp1 j e, hp1 j e, hp1 j e]
              refine (hB (j + s) (by omega)).of hn5 (fun k hk => ?_)
              rw [sa_ne (by decide), hk1 _ (by omega), hbook _ (by omega)]
              rw [show 31 * j + k + 31 * s = 31 * (j + s) + k by omega]
            · have e : j = an' := by omega
              subst e
              rw [hp2, hp2, hp2]
              refine hp.bk hg (fun k hk => ?_)
              rw [sa_ne (by decide)]
              exact hk2 k hk
        · exact absurd hc (by omega)
      · intro i hi ih N2 hN2 ha2 hk1 hk2
        refine x_iload_n dX9_note_51 rfl rfl ?_
        refine x_bipush (v := nI 31) dX9_note_52 (by decide) ?_
        refine x_icmp_geN (tgt := 83) dX9_note_54 (by decide) (by omega) (by omega) (fun hc => ?_) (fun hc => ?_)
        · exact absurd hc (by omega)
        refine x_aload_n dX9_note_57 rfl rfl ?_
        refine x_getr dX9_note_58 fX9_40 rfl rfl (by decide) ?_
        refine x_bipush (v := nI 31) dX9_note_61 (by decide) ?_
        refine x_aload_n dX9_note_63 rfl rfl ?_
        refine x_getv (ha2) dX9_note_64 fX9_127 rfl rfl (by decide) ?_
        refine x_imulN dX9_note_67 ?_
        refine x_iload_n dX9_note_68 rfl rfl ?_
        refine x_iaddN dX9_note_69 ?_
        refine x_aload_n dX9_note_70 rfl rfl ?_
        refine x_getr dX9_note_71 fX9_34 rfl rfl (by decide) ?_
        refine x_iload_n dX9_note_74 rfl rfl ?_
        refine x_ialdN dX9_note_75 rfl (by decide) (by omega) (by decide) (hN2.v (by decide) (by decide) rfl) ?_
        refine x_iastN dX9_note_76 rfl (by decide) (by omega) (by decide) ?_
        refine xinc2_1N dX9_note_77 rfl ?_
        refine x_goto (tgt := 51) dX9_note_80 (by decide) ?_
        refine ih _ (hN2.st (by decide) (by decide)) (by rw [sa_ne (by decide)]; exact ha2) (fun k hk => ?_) (fun k hk => ?_)
        · rw [sa_1, pk_un (by omega)]; exact hk1 k hk
        · rw [sa_1]
          by_cases e : k = i
          · subst e; exact pk_us
          · rw [pk_un (by omega)]; exact hk2 k (by omega)
    exact key 0 (by omega) N hN hact (fun _ _ => rfl) (fun k hk => absurd hk (by omega))
  refine x_aload_n dX9_note_0 rfl rfl ?_
  refine x_getv (ha) dX9_note_1 fX9_127 rfl rfl (by decide) ?_
  refine x_bipush (v := nI 14) dX9_note_4 (by decide) ?_
  refine x_icmp_neN (tgt := 49) dX9_note_6 (by decide) (by omega) (by omega) (fun hc => ?_) (fun hc => ?_)
  · have hne : an ≠ 14 := hc
    exact cont an 0 M none (by omega) (by omega) (fun j hj _ F x => by unfold psh; rw [if_neg hne, if_pos hj]; rfl) (fun F x => by unfold psh; rw [if_neg hne, if_neg (by omega)]) (by unfold pan; rw [if_neg hne]) Fa.rf ha (fun i _ => rfl)
  · have he : an = 14 := hc
    refine x_iconst (v := nI 0) dX9_note_9 (by decide) ?_
    refine xis2_1 dX9_note_10 rfl ?_
    have key : ∀ i, i ≤ 403 → ∀ N, Fa M N [51] [20] → N.1 40 20 = nI an → (∀ k, k < i → N.1 51 k = M.1 51 (k + 31)) → (∀ k, i ≤ k → N.1 51 k = M.1 51 k) → X E d RX9 cX9_note 2 C 11 [some (.ref (ad E 40)), some (.int (nI i))] [] N := by
      refine up_loop 403 ?_ ?_
      · intro N hN ha2 hk1 hk2
        refine x_iload_n dX9_note_11 rfl rfl ?_
        refine x_sipush (v := nI 403) dX9_note_12 (by decide) ?_
        refine x_icmp_geN (tgt := 39) dX9_note_15 (by decide) (by omega) (by omega) (fun hc => ?_) (fun hc => ?_)
        · refine x_aload_n dX9_note_39 rfl rfl ?_
          refine x_dup dX9_note_40 rfl ?_
          refine x_getv (ha2) dX9_note_41 fX9_127 rfl rfl (by decide) ?_
          refine x_iconst (v := nI 1) dX9_note_44 (by decide) ?_
          refine x_isubN dX9_note_45 (by omega) ?_
          refine x_put dX9_note_46 pX9_127 rfl rfl (by decide) rfl rfl ?_
          refine cont 13 1 _ _ (by omega) (by omega) (fun j hj _ F x => by unfold psh; rw [if_pos he, if_pos hj]) (fun F x => by unfold psh; rw [if_pos he, if_neg (by omega)]) (by unfold pan; rw [if_pos he]) (hN.up (by decide)) ?_ (fun i hi => ?_)
          · rw [sa_1, pk_us, he]
          · rw [sa_ne (by decide)]; exact hk1 i (by omega)
        · exact absurd hc (by omega)
      · intro i hi ih N hN ha2 hk1 hk2
        refine x_iload_n dX9_note_11 rfl rfl ?_
        refine x_sipush (v := nI 403) dX9_note_12 (by decide) ?_
        refine x_icmp_geN (tgt := 39) dX9_note_15 (by decide) (by omega) (by omega) (fun hc => ?_) (fun hc => ?_)
        · exact absurd hc (by omega)
        refine x_aload_n dX9_note_18 rfl rfl ?_
        refine x_getr dX9_note_19 fX9_40 rfl rfl (by decide) ?_
        refine x_iload_n dX9_note_22 rfl rfl ?_
        refine x_aload_n dX9_note_23 rfl rfl ?_
        refine x_getr dX9_note_24 fX9_40 rfl rfl (by decide) ?_
        refine x_iload_n dX9_note_27 rfl rfl ?_
        refine x_bipush (v := nI 31) dX9_note_28 (by decide) ?_
        refine x_iaddN dX9_note_30 ?_
        refine x_ialdN dX9_note_31 rfl (by decide) (by omega) (by decide) (hk2 _ (by omega)) ?_
        refine x_iastN dX9_note_32 rfl (by decide) (by omega) (by decide) ?_
        refine xinc2_1N dX9_note_33 rfl ?_
        refine x_goto (tgt := 11) dX9_note_36 (by decide) ?_
        refine ih _ (hN.st (by decide) (by decide)) (by rw [sa_ne (by decide)]; exact ha2) (fun k hk => ?_) (fun k hk => ?_)
        · rw [sa_1]
          by_cases e : k = i
          · subst e; exact pk_us
          · rw [pk_un (by omega)]; exact hk1 k (by omega)
        · rw [sa_1, pk_un (by omega)]; exact hk2 k (by omega)
    exact key 0 (by omega) M Fa.rf ha (fun k hk => absurd hk (by omega)) (fun _ _ => rfl)
set_option maxHeartbeats 8000000 in
theorem cM_draw_row (E : Ev) (d : Nat) (M : PM) (n : Nat) (r a : Int32) (hT : M.1 40 0 = nI 0) (hn : M.1 40 4 = nI n) (hn5 : n ≤ 5) (hr : ¬ inR r n) : Ci E (d + 1) mX9_draw [.ref (ad E 40), .int r, .int a] M (fun v N => v = -1 ∧ M = N) := by
  refine Ct.ofi [some (.ref (ad E 40)), some (.int r), some (.int a)] (own := RX9) rfl (by decide) (Nat.le_of_ble_eq_true rfl) rfl (fun C hR => ?_)
  refine x_aload_n dX9_draw_0 rfl rfl ?_
  refine x_iconst (v := nI 0) dX9_draw_1 (by decide) ?_
  refine x_put dX9_draw_2 pX9_68 rfl rfl (by decide) rfl rfl ?_
  rw [thr hT]
  refine x_iload_n dX9_draw_5 rfl rfl ?_
  refine x_i2l dX9_draw_6 ?_
  refine x_lconst (v := 0) dX9_draw_7 rfl ?_
  refine x_aload_n dX9_draw_8 rfl rfl ?_
  refine x_getv (hn) dX9_draw_9 fX9_114 rfl rfl (by decide) ?_
  refine x_iconst (v := nI 1) dX9_draw_12 (by decide) ?_
  refine x_isub dX9_draw_13 ?_
  refine x_i2l dX9_draw_14 ?_
  refine x_callSi dX9_draw_15 msX9_in kX9_74 (c_in3 E d M r _ _ 0 ((n : Int) - 1) rfl (tl1 (by omega))) (by omega) rfl rfl (Nat.le_of_ble_eq_true rfl) ?_
  rintro _ _ ⟨rfl, rfl⟩
  refine x_if_neB (tgt := 23) dX9_draw_18 (by decide) (fun hc => ?_) (fun hc => ?_)
  · exact absurd (of_decide_eq_true hc) (by omega)
  · refine x_iconst (v := -1) dX9_draw_21 (by decide) ?_
    exact hR _ _ _ _ dX9_draw_22 (⟨rfl, rfl⟩)
set_option maxHeartbeats 8000000 in
theorem cM_draw_way (E : Ev) (d : Nat) (M : PM) (n r : Nat) (a : Int32) (hT : M.1 40 0 = nI 0) (hn : M.1 40 4 = nI n) (hn5 : n ≤ 5) (hr : r < n) (ha : ¬ inR a 2) : Ci E (d + 1) mX9_draw [.ref (ad E 40), .int (nI r), .int a] M (fun v N => v = -2 ∧ M = N) := by
  have hrt : (nI r).toInt = (r : Int) := nI_toInt (by omega)
  refine Ct.ofi [some (.ref (ad E 40)), some (.int (nI r)), some (.int a)] (own := RX9) rfl (by decide) (Nat.le_of_ble_eq_true rfl) rfl (fun C hR => ?_)
  refine x_aload_n dX9_draw_0 rfl rfl ?_
  refine x_iconst (v := nI 0) dX9_draw_1 (by decide) ?_
  refine x_put dX9_draw_2 pX9_68 rfl rfl (by decide) rfl rfl ?_
  rw [thr hT]
  refine x_iload_n dX9_draw_5 rfl rfl ?_
  refine x_i2l dX9_draw_6 ?_
  refine x_lconst (v := 0) dX9_draw_7 rfl ?_
  refine x_aload_n dX9_draw_8 rfl rfl ?_
  refine x_getv (hn) dX9_draw_9 fX9_114 rfl rfl (by decide) ?_
  refine x_iconst (v := nI 1) dX9_draw_12 (by decide) ?_
  refine x_isub dX9_draw_13 ?_
  refine x_i2l dX9_draw_14 ?_
  refine x_callSi dX9_draw_15 msX9_in kX9_74 (c_in3 E d M _ _ _ 0 ((n : Int) - 1) rfl (tl1 (by omega))) (by omega) rfl rfl (Nat.le_of_ble_eq_true rfl) ?_
  rintro _ _ ⟨rfl, rfl⟩
  refine x_if_neB (tgt := 23) dX9_draw_18 (by decide) (fun hc => ?_) (fun hc => ?_)
  rotate_left
  · exact absurd (of_decide_eq_false hc) (by omega)
  refine x_iload_n dX9_draw_23 rfl rfl ?_
  refine x_i2l dX9_draw_24 ?_
  refine x_lconst (v := 0) dX9_draw_25 rfl ?_
  refine x_lconst (v := 1) dX9_draw_26 rfl ?_
  refine x_callSi dX9_draw_27 msX9_in kX9_74 (c_in3 E d M a _ _ 0 1 rfl rfl) (by omega) rfl rfl (Nat.le_of_ble_eq_true rfl) ?_
  rintro _ _ ⟨rfl, rfl⟩
  refine x_if_neB (tgt := 36) dX9_draw_30 (by decide) (fun hc => ?_) (fun hc => ?_)
  · exact absurd (of_decide_eq_true hc) (by omega)
  · refine x_bipush (v := -2) dX9_draw_33 (by decide) ?_
    exact hR _ _ _ _ dX9_draw_35 (⟨rfl, rfl⟩)
set_option maxHeartbeats 8000000 in
theorem cM_draw (E : Ev) (d : Nat) (M : PM) (n an r a : Nat) (q w : Nat → Nat) (g : Int32) (Q W : Nat → Nat → Nat) (G : Nat → Int32) (hT : M.1 40 0 = nI 0) (hn : M.1 40 4 = nI n) (h : MP M n an q w g Q W G) (hr : r < n) (ha : a < 2) : Ci E (d + 2) mX9_draw [.ref (ad E 40), .int (nI r), .int (nI a)] M (fun v N => (cdw w n r (dt w r a) = false → v = -3 ∧ M = N) ∧ (cdw w n r (dt w r a) = true → v = nI (nw w r a r) ∧ Fa M N [49, 51] [20] ∧ MP N n (pan an) q (nw w r a) g (psh an Q q) (psh an W w) (psh an G g))) := by
  have hp := h.1
  have hn5 := hp.2.2.1
  have hrt : (nI r).toInt = (r : Int) := nI_toInt (by omega)
  have hat : (nI a).toInt = (a : Int) := nI_toInt (by omega)
  refine Ct.ofi [some (.ref (ad E 40)), some (.int (nI r)), some (.int (nI a))] (own := RX9) rfl (by decide) (Nat.le_of_ble_eq_true rfl) rfl (fun C hR => ?_)
  refine x_aload_n dX9_draw_0 rfl rfl ?_
  refine x_iconst (v := nI 0) dX9_draw_1 (by decide) ?_
  refine x_put dX9_draw_2 pX9_68 rfl rfl (by decide) rfl rfl ?_
  rw [thr hT]
  refine x_iload_n dX9_draw_5 rfl rfl ?_
  refine x_i2l dX9_draw_6 ?_
  refine x_lconst (v := 0) dX9_draw_7 rfl ?_
  refine x_aload_n dX9_draw_8 rfl rfl ?_
  refine x_getv (hn) dX9_draw_9 fX9_114 rfl rfl (by decide) ?_
  refine x_iconst (v := nI 1) dX9_draw_12 (by decide) ?_
  refine x_isub dX9_draw_13 ?_
  refine x_i2l dX9_draw_14 ?_
  refine x_callSi dX9_draw_15 msX9_in kX9_74 (c_in3 E (d + 1) M _ _ _ 0 ((n : Int) - 1) rfl (tl1 (by omega))) (by omega) rfl rfl (Nat.le_of_ble_eq_true rfl) ?_
  rintro _ _ ⟨rfl, rfl⟩
  refine x_if_neB (tgt := 23) dX9_draw_18 (by decide) (fun hc => ?_) (fun hc => ?_)
  rotate_left
  · exact absurd (of_decide_eq_false hc) (by omega)
  refine x_iload_n dX9_draw_23 rfl rfl ?_
  refine x_i2l dX9_draw_24 ?_
  refine x_lconst (v := 0) dX9_draw_25 rfl ?_
  refine x_lconst (v := 1) dX9_draw_26 rfl ?_
  refine x_callSi dX9_draw_27 msX9_in kX9_74 (c_in3 E (d + 1) M _ _ _ 0 1 rfl rfl) (by omega) rfl rfl (Nat.le_of_ble_eq_true rfl) ?_
  rintro _ _ ⟨rfl, rfl⟩
  refine x_if_neB (tgt := 36) dX9_draw_30 (by decide) (fun hc => ?_) (fun hc => ?_)
  rotate_left
  · exact absurd (of_decide_eq_false hc) (by omega)
  refine x_aload_n dX9_draw_36 rfl rfl ?_
  refine x_aload_n dX9_draw_37 rfl rfl ?_
  refine x_getr dX9_draw_38 fX9_34 rfl rfl (by decide) ?_
  refine x_iload_n dX9_draw_41 rfl rfl ?_
  refine x_iload_n dX9_draw_42 rfl rfl ?_
  refine x_callVi dX9_draw_43 mvX9_canDraw kX9_184 (c_canDraw E d M 49 n r a q w hn hp hr (by omega)) rfl (by decide) (by omega) rfl rfl (Nat.le_of_ble_eq_true rfl) ?_
  rintro _ _ ⟨rfl, rfl⟩
  refine x_if_neB (tgt := 52) dX9_draw_46 (by decide) (fun hc => ?_) (fun hc => ?_)
  rotate_left
  · refine x_bipush (v := -3) dX9_draw_49 (by decide) ?_
    exact hR _ _ _ _ dX9_draw_51 (⟨fun _ => ⟨rfl, rfl⟩, fun e => by rw [e] at hc; cases hc⟩)
  have hcd := hc
  refine x_aload_n dX9_draw_52 rfl rfl ?_
  refine x_callVv dX9_draw_53 mvX9_note kX9_188 (c_note E (d + 1) M n an q w g Q W G h) rfl (by decide) (by omega) rfl rfl (Nat.le_of_ble_eq_true rfl) ?_
  rintro N ⟨hN, hMP⟩
  obtain ⟨m1, m2, m3, m4, m5⟩ := hMP
  have hwr := m1.2.2.2.2 r hr
  have cont : ∀ t : Int32, t.toInt = dt w r a → X E (d + 2) RX9 cX9_draw 3 C 73 [some (.ref (ad E 40)), some (.int (nI r)), some (.int (nI a))] [.int t, .int (nI r), .ref (ad E 49)] N := by
    intro t ht
    refine x_iastN dX9_draw_73 rfl (by decide) (by omega) (by decide) ?_
    refine x_aload_n dX9_draw_74 rfl rfl ?_
    refine x_getr dX9_draw_75 fX9_34 rfl rfl (by decide) ?_
    refine x_iload_n dX9_draw_78 rfl rfl ?_
    have hP2 := m1.put hr rfl ht hcd
    have hf0 : Fa N (sa N 49 (upd (N.1 49) r t)) [49, 51] [20] := Fa.rf.st (by decide) (by decide)
    have hf : Fa M (sa N 49 (upd (N.1 49) r t)) [49, 51] [20] := (hN.wd (by decide)).tr hf0 (fun _ h => h) (fun _ h => h)
    refine x_ialdN dX9_draw_79 rfl (by decide) (by omega) (by decide) (hP2.2.2.2.2 r hr).1 ?_
    refine hR _ _ _ _ dX9_draw_80 ⟨fun e => (by rw [e] at hcd; cases hcd), fun _ => ⟨rfl, hf, hP2, ?_, ?_, m4, ?_⟩⟩
    · rw [sa_1, pk_un (by omega)]; exact m2
    · rw [sa_ne (by decide)]; exact m3
    · intro j hj
      exact (m5 j hj).of hn5 (fun k _ => by rw [sa_ne (by decide)])
  refine x_aload_n dX9_draw_56 rfl rfl ?_
  refine x_getr dX9_draw_57 fX9_34 rfl rfl (by decide) ?_
  refine x_iload_n dX9_draw_60 rfl rfl ?_
  refine x_dup2 dX9_draw_61 rfl rfl ?_
  refine x_ialdN dX9_draw_62 rfl (by decide) (by omega) (by decide) (hwr.1) ?_
  refine x_iload_n dX9_draw_63 rfl rfl ?_
  rcases (show a = 0 ∨ a = 1 by omega) with rfl | rfl
  · refine x_if_neN (tgt := 71) dX9_draw_64 (by decide) (by omega) (fun hc => ?_) (fun hc => ?_)
    · exact absurd rfl hc
    refine x_iconst (v := -1) dX9_draw_67 (by decide) ?_
    refine x_goto (tgt := 72) dX9_draw_68 (by decide) ?_
    refine x_iadd dX9_draw_72 ?_
    exact cont _ (by rw [nm1_toInt (by omega)]; rfl)
  · refine x_if_neN (tgt := 71) dX9_draw_64 (by decide) (by omega) (fun hc => ?_) (fun hc => ?_)
    · refine x_iconst (v := nI 1) dX9_draw_71 (by decide) ?_
      refine x_iaddN dX9_draw_72 ?_
      exact cont _ (by rw [nI_toInt (by omega)]; rfl)
    · exact absurd hc (by decide)
set_option maxHeartbeats 8000000 in
theorem cM_change_row (E : Ev) (d : Nat) (M : PM) (n : Nat) (r : Int32) (hT : M.1 40 0 = nI 0) (hn : M.1 40 4 = nI n) (hn5 : n ≤ 5) (hr : ¬ inR r n) : Ci E (d + 1) mX9_change [.ref (ad E 40), .int r] M (fun v N => v = -1 ∧ M = N) := by
  refine Ct.ofi [some (.ref (ad E 40)), some (.int r)] (own := RX9) rfl (by decide) (Nat.le_of_ble_eq_true rfl) rfl (fun C hR => ?_)
  refine x_aload_n dX9_change_0 rfl rfl ?_
  refine x_iconst (v := nI 0) dX9_change_1 (by decide) ?_
  refine x_put dX9_change_2 pX9_68 rfl rfl (by decide) rfl rfl ?_
  rw [thr hT]
  refine x_iload_n dX9_change_5 rfl rfl ?_
  refine x_i2l dX9_change_6 ?_
  refine x_lconst (v := 0) dX9_change_7 rfl ?_
  refine x_aload_n dX9_change_8 rfl rfl ?_
  refine x_getv (hn) dX9_change_9 fX9_114 rfl rfl (by decide) ?_
  refine x_iconst (v := nI 1) dX9_change_12 (by decide) ?_
  refine x_isub dX9_change_13 ?_
  refine x_i2l dX9_change_14 ?_
  refine x_callSi dX9_change_15 msX9_in kX9_74 (c_in3 E d M r _ _ 0 ((n : Int) - 1) rfl (tl1 (by omega))) (by omega) rfl rfl (Nat.le_of_ble_eq_true rfl) ?_
  rintro _ _ ⟨rfl, rfl⟩
  refine x_if_neB (tgt := 23) dX9_change_18 (by decide) (fun hc => ?_) (fun hc => ?_)
  · exact absurd (of_decide_eq_true hc) (by omega)
  · refine x_iconst (v := -1) dX9_change_21 (by decide) ?_
    exact hR _ _ _ _ dX9_change_22 (⟨rfl, rfl⟩)
set_option maxHeartbeats 8000000 in
theorem cM_change (E : Ev) (d : Nat) (M : PM) (n an r : Nat) (q w : Nat → Nat) (g : Int32) (Q W : Nat → Nat → Nat) (G : Nat → Int32) (hT : M.1 40 0 = nI 0) (hn : M.1 40 4 = nI n) (h : MP M n an q w g Q W G) (hr : r < n) : Ci E (d + 1) mX9_change [.ref (ad E 40), .int (nI r)] M (fun v N => (¬ (1 ≤ w r ∧ w r ≤ 4) → v = -3 ∧ M = N) ∧ (1 ≤ w r ∧ w r ≤ 4 → v = nI (q (5 * r + w r) / 4) ∧ Fa M N [49, 51] [20] ∧ MP N n (pan an) (swq q (5 * r + w r)) w g (psh an Q q) (psh an W w) (psh an G g))) := by
  have hp := h.1
  have hn5 := hp.2.2.1
  have hrt : (nI r).toInt = (r : Int) := nI_toInt (by omega)
  have hwr := hp.2.2.2.2 r hr
  have hwt : (nI (w r)).toInt = (w r : Int) := nI_toInt (by omega)
  refine Ct.ofi [some (.ref (ad E 40)), some (.int (nI r))] (own := RX9) rfl (by decide) (Nat.le_of_ble_eq_true rfl) rfl (fun C hR => ?_)
  refine x_aload_n dX9_change_0 rfl rfl ?_
  refine x_iconst (v := nI 0) dX9_change_1 (by decide) ?_
  refine x_put dX9_change_2 pX9_68 rfl rfl (by decide) rfl rfl ?_
  rw [thr hT]
  refine x_iload_n dX9_change_5 rfl rfl ?_
  refine x_i2l dX9_change_6 ?_
  refine x_lconst (v := 0) dX9_change_7 rfl ?_
  refine x_aload_n dX9_change_8 rfl rfl ?_
  refine x_getv (hn) dX9_change_9 fX9_114 rfl rfl (by decide) ?_
  refine x_iconst (v := nI 1) dX9_change_12 (by decide) ?_
  refine x_isub dX9_change_13 ?_
  refine x_i2l dX9_change_14 ?_
  refine x_callSi dX9_change_15 msX9_in kX9_74 (c_in3 E d M _ _ _ 0 ((n : Int) - 1) rfl (tl1 (by omega))) (by omega) rfl rfl (Nat.le_of_ble_eq_true rfl) ?_
  rintro _ _ ⟨rfl, rfl⟩
  refine x_if_neB (tgt := 23) dX9_change_18 (by decide) (fun hc => ?_) (fun hc => ?_)
  rotate_left
  · exact absurd (of_decide_eq_false hc) (by omega)
  refine x_aload_n dX9_change_23 rfl rfl ?_
  refine x_getr dX9_change_24 fX9_34 rfl rfl (by decide) ?_
  refine x_iload_n dX9_change_27 rfl rfl ?_
  refine x_ialdN dX9_change_28 rfl (by decide) (by omega) (by decide) (hwr.1) ?_
  refine x_i2l dX9_change_29 ?_
  refine x_lconst (v := 1) dX9_change_30 rfl ?_
  refine x_ldc2 dX9_change_31 qX9_172 ?_
  refine x_callSi dX9_change_34 msX9_in kX9_74 (c_in3 E d M _ _ _ 1 4 rfl rfl) (by omega) rfl rfl (Nat.le_of_ble_eq_true rfl) ?_
  rintro _ _ ⟨rfl, rfl⟩
  refine x_if_neB (tgt := 43) dX9_change_37 (by decide) (fun hc => ?_) (fun hc => ?_)
  rotate_left
  · have h2 := of_decide_eq_false hc
    refine x_bipush (v := -3) dX9_change_40 (by decide) ?_
    exact hR _ _ _ _ dX9_change_42 (⟨fun _ => ⟨rfl, rfl⟩, fun e => absurd (by omega) h2⟩)
  have h2 := of_decide_eq_true hc
  refine x_aload_n dX9_change_43 rfl rfl ?_
  refine x_callVv dX9_change_44 mvX9_note kX9_188 (c_note E d M n an q w g Q W G h) rfl (by decide) (by omega) rfl rfl (Nat.le_of_ble_eq_true rfl) ?_
  rintro N ⟨hN, m1, m2, m3, m4, m5⟩
  refine x_aload_n dX9_change_47 rfl rfl ?_
  refine x_getr dX9_change_48 fX9_34 rfl rfl (by decide) ?_
  refine x_iload_n dX9_change_51 rfl rfl ?_
  refine x_callSv dX9_change_52 msX9_swap kX9_191 (c_swap E d N 49 n r q w m1 hr (by omega) (by omega)) (by omega) rfl rfl (Nat.le_of_ble_eq_true rfl) ?_
  rintro N2 ⟨hN2, hg2, hP2⟩
  have hf0 : Fa N N2 [49, 51] [20] := (hN2.wd (by decide) : Fr N N2 [49, 51]).Fa (by decide)
  have hf : Fa M N2 [49, 51] [20] := (hN.wd (by decide)).tr hf0 (fun _ h => h) (fun _ h => h)
  have hcell := hP2.2.2.2.1 r (w r - 1) hr (by omega)
  rw [show 5 + 5 * r + (w r - 1) = 5 + 5 * r + w r - 1 by omega] at hcell
  have hwr2 := hP2.2.2.2.2 r hr
  refine x_aload_n dX9_change_55 rfl rfl ?_
  refine x_getr dX9_change_56 fX9_34 rfl rfl (by decide) ?_
  refine x_iconst (v := nI 5) dX9_change_59 (by decide) ?_
  refine x_iconst (v := nI 5) dX9_change_60 (by decide) ?_
  refine x_iload_n dX9_change_61 rfl rfl ?_
  refine x_imulN dX9_change_62 ?_
  refine x_iaddN dX9_change_63 ?_
  refine x_aload_n dX9_change_64 rfl rfl ?_
  refine x_getr dX9_change_65 fX9_34 rfl rfl (by decide) ?_
  refine x_iload_n dX9_change_68 rfl rfl ?_
  refine x_ialdN dX9_change_69 rfl (by decide) (by omega) (by decide) (hwr2.1) ?_
  refine x_iaddN dX9_change_70 ?_
  refine x_iconst (v := nI 1) dX9_change_71 (by decide) ?_
  refine x_isubN dX9_change_72 (by omega) ?_
  refine x_ialdN dX9_change_73 rfl (by decide) (by omega) (by decide) (hcell.1) ?_
  refine x_iconst (v := nI 4) dX9_change_74 (by decide) ?_
  refine x_idivN dX9_change_75 (by omega) (by omega) (by omega) ?_
  have ev : swq q (5 * r + w r) (5 * r + (w r - 1)) = q (5 * r + w r) := by
    unfold swq; rw [if_neg (by omega), if_pos (by omega)]
  refine hR _ _ _ _ dX9_change_76 ⟨fun e => absurd (by omega) e, fun _ => ⟨by rw [ev], hf, hP2, ?_, ?_, m4, ?_⟩⟩
  · rw [hg2]; exact m2
  · exact hN2.v (by decide) m3
  · intro j hj
    exact (m5 j hj).of hn5 (fun k _ => by rw [hN2.2 51 (by decide)])
set_option maxHeartbeats 8000000 in
theorem cM_join (E : Ev) (d : Nat) (M : PM) (n an : Nat) (q w : Nat → Nat) (g : Int32) (Q W : Nat → Nat → Nat) (G : Nat → Int32) (hT : M.1 40 0 = nI 0) (hn : M.1 40 4 = nI n) (h : MP M n an q w g Q W G) : Ci E (d + 2) mX9_join [.ref (ad E 40)] M (fun v N => v = g + nI (slp w n) ∧ Fa M N [49, 51] [20] ∧ MP N n (pan an) q (fun _ => 2) (g + nI (slp w n)) (psh an Q q) (psh an W w) (psh an G g)) := by
  have hp := h.1
  have hn5 := hp.2.2.1
  refine Ct.ofi [some (.ref (ad E 40))] (own := RX9) rfl (by decide) (Nat.le_of_ble_eq_true rfl) rfl (fun C hR => ?_)
  refine x_aload_n dX9_join_0 rfl rfl ?_
  refine x_iconst (v := nI 0) dX9_join_1 (by decide) ?_
  refine x_put dX9_join_2 pX9_68 rfl rfl (by decide) rfl rfl ?_
  rw [thr hT]
  refine x_aload_n dX9_join_5 rfl rfl ?_
  refine x_callVv dX9_join_6 mvX9_note kX9_188 (c_note E (d + 1) M n an q w g Q W G h) rfl (by decide) (by omega) rfl rfl (Nat.le_of_ble_eq_true rfl) ?_
  rintro N ⟨hN, m1, m2, m3, m4, m5⟩
  refine x_aload_n dX9_join_9 rfl rfl ?_
  refine x_aload_n dX9_join_10 rfl rfl ?_
  refine x_getr dX9_join_11 fX9_34 rfl rfl (by decide) ?_
  refine x_callVv dX9_join_14 mvX9_rejoin kX9_195 (c_rejoin E d N 49 n q w (hN.f (by decide) hn) m1) rfl (by decide) (by omega) rfl rfl (Nat.le_of_ble_eq_true rfl) ?_
  rintro N2 ⟨hN2, hg2, hP2⟩
  rw [m2] at hg2
  have hf0 : Fa N N2 [49, 51] [20] := (hN2.wd (by decide) : Fr N N2 [49, 51]).Fa (by decide)
  have hf : Fa M N2 [49, 51] [20] := (hN.wd (by decide)).tr hf0 (fun _ h => h) (fun _ h => h)
  refine x_aload_n dX9_join_17 rfl rfl ?_
  refine x_getr dX9_join_18 fX9_34 rfl rfl (by decide) ?_
  refine x_bipush (v := nI 30) dX9_join_21 (by decide) ?_
  refine x_ialdN dX9_join_23 rfl (by decide) (by omega) (by decide) (hg2) ?_
  refine hR _ _ _ _ dX9_join_24 ⟨rfl, hf, hP2, hg2, hN2.v (by decide) m3, m4, ?_⟩
  intro j hj
  exact (m5 j hj).of hn5 (fun k _ => by rw [hN2.2 51 (by decide)])
set_option maxHeartbeats 8000000 in
theorem cM_undo0 (E : Ev) (d : Nat) (M : PM) (hT : M.1 40 0 = nI 0) (ha : M.1 40 20 = nI 0) : Ci E d mX9_undo [.ref (ad E 40)] M (fun v N => v = -3 ∧ M = N) := by
  refine Ct.ofi [some (.ref (ad E 40)), none] (own := RX9) rfl (by decide) (Nat.le_of_ble_eq_true rfl) rfl (fun C hR => ?_)
  refine x_aload_n dX9_undo_0 rfl rfl ?_
  refine x_iconst (v := nI 0) dX9_undo_1 (by decide) ?_
  refine x_put dX9_undo_2 pX9_68 rfl rfl (by decide) rfl rfl ?_
  rw [thr hT]
  refine x_aload_n dX9_undo_5 rfl rfl ?_
  refine x_getv (ha) dX9_undo_6 fX9_127 rfl rfl (by decide) ?_
  refine x_if_neN (tgt := 15) dX9_undo_9 (by decide) (by omega) (fun hc => ?_) (fun hc => ?_)
  · exact absurd rfl hc
  · refine x_bipush (v := -3) dX9_undo_12 (by decide) ?_
    exact hR _ _ _ _ dX9_undo_14 (⟨rfl, rfl⟩)
set_option maxHeartbeats 8000000 in
theorem cM_undo (E : Ev) (d : Nat) (M : PM) (n an : Nat) (q w : Nat → Nat) (g : Int32) (Q W : Nat → Nat → Nat) (G : Nat → Int32) (hT : M.1 40 0 = nI 0) (h : MP M n (an + 1) q w g Q W G) : Ci E d mX9_undo [.ref (ad E 40)] M (fun v N => v = nI an ∧ Fa M N [49] [20] ∧ MP N n an (Q an) (W an) (G an) Q W G) := by
  obtain ⟨hp, hg, ha, ha14, hB⟩ := h
  have hn5 := hp.2.2.1
  refine Ct.ofi [some (.ref (ad E 40)), none] (own := RX9) rfl (by decide) (Nat.le_of_ble_eq_true rfl) rfl (fun C hR => ?_)
  refine x_aload_n dX9_undo_0 rfl rfl ?_
  refine x_iconst (v := nI 0) dX9_undo_1 (by decide) ?_
  refine x_put dX9_undo_2 pX9_68 rfl rfl (by decide) rfl rfl ?_
  rw [thr hT]
  refine x_aload_n dX9_undo_5 rfl rfl ?_
  refine x_getv (ha) dX9_undo_6 fX9_127 rfl rfl (by decide) ?_
  refine x_if_neN (tgt := 15) dX9_undo_9 (by decide) (by omega) (fun hc => ?_) (fun hc => ?_)
  rotate_left
  · exact absurd hc (by omega)
  refine x_aload_n dX9_undo_15 rfl rfl ?_
  refine x_dup dX9_undo_16 rfl ?_
  refine x_getv (ha) dX9_undo_17 fX9_127 rfl rfl (by decide) ?_
  refine x_iconst (v := nI 1) dX9_undo_20 (by decide) ?_
  refine x_isubN dX9_undo_21 (by omega) ?_
  refine x_put dX9_undo_22 pX9_127 rfl rfl (by decide) rfl rfl ?_
  refine x_iconst (v := nI 0) dX9_undo_25 (by decide) ?_
  refine xis2_1 dX9_undo_26 rfl ?_
  rw [show an + 1 - 1 = an by omega]
  have key : ∀ i, i ≤ 31 → ∀ N, Fa M N [49] [20] → N.1 40 20 = nI an → (∀ k, k < i → N.1 49 k = M.1 51 (31 * an + k)) → X E d RX9 cX9_undo 2 C 27 [some (.ref (ad E 40)), some (.int (nI i))] [] N := by
    refine up_loop 31 ?_ ?_
    · intro N hN ha2 hk
      refine x_iload_n dX9_undo_27 rfl rfl ?_
      refine x_bipush (v := nI 31) dX9_undo_28 (by decide) ?_
      refine x_icmp_geN (tgt := 59) dX9_undo_30 (by decide) (by omega) (by omega) (fun hc => ?_) (fun hc => ?_)
      · refine x_aload_n dX9_undo_59 rfl rfl ?_
        refine x_getv (ha2) dX9_undo_60 fX9_127 rfl rfl (by decide) ?_
        obtain ⟨p1, p2⟩ := (hB an (by omega)).pg hn5 hk
        exact hR _ _ _ _ dX9_undo_63 (⟨rfl, hN, p1, p2, ha2, by omega, fun j hj => (hB j (by omega)).of hn5 (fun k _ => by rw [hN.2.1 51 (by decide) (by decide)])⟩)
      · exact absurd hc (by omega)
    · intro i hi ih N hN ha2 hk
      refine x_iload_n dX9_undo_27 rfl rfl ?_
      refine x_bipush (v := nI 31) dX9_undo_28 (by decide) ?_
      refine x_icmp_geN (tgt := 59) dX9_undo_30 (by decide) (by omega) (by omega) (fun hc => ?_) (fun hc => ?_)
      · exact absurd hc (by omega)
      refine x_aload_n dX9_undo_33 rfl rfl ?_
      refine x_getr dX9_undo_34 fX9_34 rfl rfl (by decide) ?_
      refine x_iload_n dX9_undo_37 rfl rfl ?_
      refine x_aload_n dX9_undo_38 rfl rfl ?_
      refine x_getr dX9_undo_39 fX9_40 rfl rfl (by decide) ?_
      refine x_bipush (v := nI 31) dX9_undo_42 (by decide) ?_
      refine x_aload_n dX9_undo_44 rfl rfl ?_
      refine x_getv (ha2) dX9_undo_45 fX9_127 rfl rfl (by decide) ?_
      refine x_imulN dX9_undo_48 ?_
      refine x_iload_n dX9_undo_49 rfl rfl ?_
      refine x_iaddN dX9_undo_50 ?_
      refine x_ialdN dX9_undo_51 rfl (by decide) (by omega) (by decide) (hN.v (by decide) (by decide) rfl) ?_
      refine x_iastN dX9_undo_52 rfl (by decide) (by omega) (by decide) ?_
      refine xinc2_1N dX9_undo_53 rfl ?_
      refine x_goto (tgt := 27) dX9_undo_56 (by decide) ?_
      refine ih _ (hN.st (by decide) (by decide)) (by rw [sa_ne (by decide)]; exact ha2) (fun k hk0 => ?_)
      rw [sa_1]
      by_cases e : k = i
      · subst e; exact pk_us
      · rw [pk_un e]; exact hk k (by omega)
  exact key 0 (by omega) _ (Fa.rf.up (by decide)) (by rw [sa_1, pk_us]) (fun k hk => absurd hk (by omega))
