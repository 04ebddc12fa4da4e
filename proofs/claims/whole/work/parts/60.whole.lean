-- ===== the law from its entry =====
theorem J0 : J M0 := by
  refine ⟨0, 0, 0, zf, zf, zf, zf, zf, nI 0, 0, fun _ => 0, zf, fun _ => 0, fun _ => zf, fun _ => zf, 0, zf, zf, 0, zf, zf, fun _ => zf, fun _ => zf, fun _ => 0, 0, ?_, ?_, fun r c h => absurd h (by omega), fun j h => absurd h (by omega), fun s hs z => absurd rfl z⟩
  · exact ⟨⟨rfl, rfl, rfl, by omega, by omega, by omega, fun k h => absurd h (by omega), fun k h => absurd h (by omega), fun k h => absurd h (by omega)⟩, ⟨by omega, fun r c h => absurd h (by omega), fun r h => absurd h (by omega)⟩, rfl, ⟨rfl, by omega, fun j h => absurd h (by omega)⟩, ⟨rfl, by omega, fun j h => absurd h (by omega)⟩, ⟨rfl, by omega, fun j h => absurd h (by omega)⟩, fun s hs => ⟨rfl, Nat.zero_lt_succ _, fun z => absurd rfl z⟩, rfl⟩
  · exact ⟨rfl, ⟨rfl, rfl, rfl, by omega, by omega, by omega, fun k h => absurd h (by omega), fun k h => absurd h (by omega), fun k h => absurd h (by omega)⟩, ⟨⟨rfl, by decide, by omega, fun r c h => absurd h (by omega), fun r h => absurd h (by omega)⟩, rfl, rfl, by omega, fun j h => absurd h (by omega)⟩, ⟨rfl, by omega, fun j h => absurd h (by omega)⟩, ⟨rfl, by omega, fun j h => absurd h (by omega)⟩, fun s hs => ⟨rfl, Nat.zero_lt_succ _, fun z => absurd rfl z⟩, rfl⟩
theorem arr2 {cA : ClassId} {f g : Nat → Option Nat} (h0 : f 0 = g 0) (h1 : f 1 = g 1) : vp_cell cA (2, .inr (.inr (.inr (.inr f)))) = vp_cell cA (2, .inr (.inr (.inr (.inr g)))) := by
  rw [vp_cell_q, vp_cell_q]
  unfold arrV
  congr 1
  apply Array.ext
  · simp
  · intro i hi1 hi2
    have hi : i < 2 := by simpa using hi1
    rcases (show i = 0 ∨ i = 1 by omega) with rfl | rfl
    · simp [h0]
    · simp [h1]
theorem fvs_f {B : Bs} {ad : Nat → Nat} {f g : Nat} {M : PM} {c : Nat} : ∀ (fs : List (Nat ⊕ Bool)) (k : Nat), fvs (mkE B ad f) M c k fs = fvs (mkE B ad g) M c k fs
  | [], _ => rfl
  | q :: t, k => by
    show fv _ _ _ _ _ :: _ = fv _ _ _ _ _ :: _
    rw [fvs_f t (k + 1)]
    congr 1
theorem ce_f {B : Bs} {ad : Nat → Nat} {f g : Nat} {M : PM} {c : Nat} : ce (mkE B ad f) M c = ce (mkE B ad g) M c := by
  unfold ce
  split
  · rfl
  · rfl
  · rfl
  · rw [fvs_f (f := f) (g := g)]
/-- the world that was made is the layout's -/
theorem made {B : Bs} {ad : Nat → Nat} {en : Nat → va_E} {f : Nat} {H : Heap} (hP : va_P B.2.1 vwCl (wl (60, ad, en)) H) (he : ∀ j, j < 60 → j ≠ 19 → en j = ce (mkE B ad f) M0 j) (h19 : ∃ g : Nat → Option Nat, en 19 = .inl (bT_ B, 2, .inr (.inr (.inr (.inr g)))) ∧ g 0 = some (ad 20) ∧ g 1 = some (ad 23)) : va_P (eD (mkE B ad f)) vwCl (ws (mkE B ad f) M0) H := by
  intro k q hq
  have hk : k < cK := by
    have := (List.getElem?_eq_some_iff.mp hq).1
    simpa [ws] using this
  rw [ws_at hk] at hq
  cases hq
  have hp := hP k _ (wl_at (w := (60, ad, en)) hk)
  by_cases e : k = 19
  · subst e
    obtain ⟨g, g1, g2, g3⟩ := h19
    have hp2 : H[ad 19]? = some (vp_cell (bT_ B) (2, .inr (.inr (.inr (.inr g))))) := by
      have := hp
      dsimp only at this
      rw [g1] at this
      exact this
    show H[ad 19]? = some (vp_cell (bT_ B) (2, .inr (.inr (.inr (.inr (fun i => some (ad (20 + 3 * i))))))))
    rw [hp2]
    exact congrArg some (arr2 g2 g3)
  · have := hp
    dsimp only at this
    rw [he k hk e] at this
    exact this
theorem nest_tab : ∀ w ∈ nestW, w ∈ lw_tbl := fun w hw => List.mem_append_right _ (List.mem_filter.mp hw).1
theorem nest_on {w : Cond} (h : isNest w = true) : w.onTables = true := by
  cases w <;> first | rfl | (simp [isNest] at h; done)
def R_law : String := "WireFamilyLaw"
def lw_P (b : Addr) (xs : List Int32) (args : Array Value) (s : State) : Prop := args = #[.ref b] ∧ s.IntsAt b xs ∧ xs.length ≤ 2560 ∧ (Jvm.Cond.and given_1 narrow_1).before args s = true
def lw_Q (_ : Array Value) (s : State) (o : Outcome) (t : State) : Prop := o = .returned (some (.int 1)) ∧ Framed s o t [] 600000 7302250
def lw_Z (below : List Frame) (a : Array Value) (s : State) : State → Prop := fun t => ∃ o, t.status = .running ∧ Ended t below o ∧ lw_Q a s o t
/-- the law's own end, with 1 on the stack, nothing written that was there before, its room as the claim has it -/
theorem lw_ret {p : Program} {l : Launch} {e : Env} {s : State} {m : MethodId} {below : List Frame} {meth : Method} {c : Code} {b : Nat} (hx : p.tables.exec = Jvm.exec) (hb : c.code = code) (hr : meth.sig.returnType = ret) (hlocks : meth.locks = false) {pc : Nat} {H : Heap} {ls : Array Slot} (hdg : decode code pc = .ok (.ireturn, 1)) : W p l e room_1 s m #[Value.ref b] below meth c H [] 600000 7302250 (lw_Z below #[Value.ref b] s) (F0 m pc ls [.int 1]) := by
  intro T hT X
  obtain ⟨fs, hret, hrun, hended, hW, hframe⟩ := X.leave (v := some (.int 1)) (hlocks := hlocks) (fun h => by rw [hr] at h; cases h)
  have hmeth' : T.vm.method? m = some meth := X.method'
  refine ⟨T.setFrames fs, ?_, .returned (some (.int 1)), hrun, hended, rfl, ⟨_, rfl⟩, hW, hframe⟩
  jvm_step X.here [X.here.top, hx, hb, hdg, hmeth', hr, ret, narrow_b1]
  (try refine ⟨rfl, ?_⟩); (try refine ⟨rfl, ?_⟩)
  first | (intro acts; rw [hret _ acts rfl rfl rfl]) | rw [hret _ _ rfl rfl rfl]
  exact Steps.refl _
/-- what holds at the law's entry: the machine, the code, the tables' words (any of lw_tbl by 'hts w (by decide +kernel)'), the script of L ints xs at the cell b, what the Statement gives of the start (any of its parts by flat_of_before) -/
def lw_At (p : Program) (s : State) (m : MethodId) (meth : Method) (c : Code) (b L : Nat) (xs : Nat → Int32) : Prop :=
  p.tables.exec = Jvm.exec ∧ c.code = code ∧ meth.sig.returnType = ret ∧ c.maxLocals = 4 ∧ s.vm.findClass R_law = some m.cls ∧ (∀ w ∈ lw_tbl, w.before #[Value.ref b] s = true) ∧ va_X b L xs s s.heap ∧ b < s.heap.size ∧ meth.locks = false ∧ (Jvm.Cond.and given_1 narrow_1).before #[Value.ref b] s = true
set_option maxHeartbeats 8000000 in
set_option maxRecDepth 100000 in
/-- from a world that was made into the loop -/
theorem law_go {p : Program} {e : Env} {s : State} {m : MethodId} {below : List Frame} {meth : Method} {c : Code} {B : Bs} {b L kc ks : Nat} {xs : Nat → Int32} {w : AW} {ad : Nat → Nat} {en : Nat → va_E} (hL : L ≤ 2560) (C0 : lw_At p s m meth c b L xs) (hBh : B.2.2.2 = s.heap.size) (hG : GdB B s) (okB : OkB B 8 RL cL_law 4 (600000, 7302250) (p, e, room_1, s, m, #[Value.ref b], below, meth, c, (600000, 7302250), lw_Z below #[Value.ref b] s)) (hw : w = (60, ad, en)) (he : ∀ j, j < 60 → j ≠ 19 → en j = ce (mkE B ad 0) M0 j) (h19 : ∃ g : Nat → Option Nat, en 19 = .inl (bT_ B, 2, .inr (.inr (.inr (.inr g)))) ∧ g 0 = some (ad 20) ∧ g 1 = some (ad 23)) (hkc : kc ≤ 600000 := by exact Nat.le_of_ble_eq_true rfl) (hks : ks ≤ 7302250 := by exact Nat.le_of_ble_eq_true rfl) : Y B 8 RL cL_law 4 (p, e, room_1, s, m, #[Value.ref b], below, meth, c, (600000, 7302250), lw_Z below #[Value.ref b] s) (600000, 7302250) 18 [some (.ref b), some (.ref (ad 0)), some (.ref (ad 40)), some (.int (nI 0))] [] w kc ks := by
  subst hw
  intro ok H locs ls hP hD hS hl
  obtain ⟨hx, hb, hr, hml, hown, hts, hX, hbl, hlocks, hgv⟩ := id C0
  obtain ⟨o1, o2, o3, o4, o5, o6, o7, o8, o9, o10, o11⟩ := id okB
  have hge : ∀ j, j < 60 → s.heap.size ≤ ad j := fun j hj => by
    have h := hD.2 j _ (wl_at (w := (60, ad, en)) hj)
    have h2 : B.2.2.2 ≤ ad j := h
    rw [hBh] at h2
    exact h2
  have hnA : ∀ f a, a < s.heap.size → ¬ wA (mkE B ad f) a := by
    rintro f a ha ⟨j, hj, rfl⟩
    have := hge j hj
    have h2 : ad j < s.heap.size := ha
    omega
  have hflat := flat_of_before _ hgv
  have harr : (Cond.arrayOf (.static "WireFamily" "FACTORIAL" "[I") .int).before #[Value.ref b] s = true := hflat _ (by decide +kernel)
  have hlen : (Cond.eq (.length (.static "WireFamily" "FACTORIAL" "[I")) (.int 6)).before #[Value.ref b] s = true := hflat _ (by decide +kernel)
  have g0 : (Cond.eq (.elem (.static "WireFamily" "FACTORIAL" "[I") (.int 0)) (.int 1)).before #[Value.ref b] s = true := hflat _ (by decide +kernel)
  have g1 : (Cond.eq (.elem (.static "WireFamily" "FACTORIAL" "[I") (.int 1)) (.int 1)).before #[Value.ref b] s = true := hflat _ (by decide +kernel)
  have g2 : (Cond.eq (.elem (.static "WireFamily" "FACTORIAL" "[I") (.int 2)) (.int 2)).before #[Value.ref b] s = true := hflat _ (by decide +kernel)
  have g3 : (Cond.eq (.elem (.static "WireFamily" "FACTORIAL" "[I") (.int 3)) (.int 6)).before #[Value.ref b] s = true := hflat _ (by decide +kernel)
  have g4 : (Cond.eq (.elem (.static "WireFamily" "FACTORIAL" "[I") (.int 4)) (.int 24)).before #[Value.ref b] s = true := hflat _ (by decide +kernel)
  have g5 : (Cond.eq (.elem (.static "WireFamily" "FACTORIAL" "[I") (.int 5)) (.int 120)).before #[Value.ref b] s = true := hflat _ (by decide +kernel)
  obtain ⟨t, ht, hT⟩ := va_Tof (tm := .static "WireFamily" "FACTORIAL" "[I") (ty := .int) (N := 6) (f := facF) (A := fun q => s.heap.size ≤ q) (by decide) harr (va_eqt hlen) (fun j hj => by
    match j, hj with
    | 0, _ => exact va_eqt g0
    | 1, _ => exact va_eqt g1
    | 2, _ => exact va_eqt g2
    | 3, _ => exact va_eqt g3
    | 4, _ => exact va_eqt g4
    | 5, _ => exact va_eqt g5
    | k + 6, h => exact absurd h (by omega)) (fun a ha => Nat.not_le.mpr ha)
  have hZ := va_Zof (C := "WireFamily") (n := "FACTORIAL") (d := "[I") (v := .ref t) (A := fun q => s.heap.size ≤ q) (hts (.laysStatic "WireFamily" "FACTORIAL" "[I") (by decide +kernel)) (hts (.initialized "WireFamily") (by decide +kernel)) ht (fun a ha => Nat.not_le.mpr ha)
  have hsub : ∀ q, wA (mkE B ad t) q → s.heap.size ≤ q := by
    rintro q ⟨j, hj, rfl⟩
    exact hge j hj
  have hAp : Ap (mkE B ad t) := fun i j hi hj hij => hD.1 i j _ _ (wl_at (w := (60, ad, en)) hi) (wl_at (w := (60, ad, en)) hj) hij
  have hGd : Gd (mkE B ad t) s := ⟨hG.1, hG.2.1, hZ.narrow hsub, hT.narrow hsub⟩
  have hPE := made (f := t) hP (fun j hj h => (he j hj h).trans ce_f) h19
  have okX : Ok (mkE B ad t) 8 RL cL_law 4 (p, e, room_1, s, m, #[Value.ref b], below, meth, c, (600000, 7302250), lw_Z below #[Value.ref b] s) := ⟨o1, o2, o3, o4, o5, hAp, hGd, o8, o9, o10, o11⟩
  have hScr : Scr (mkE B ad t) b L xs (p, e, room_1, s, m, #[Value.ref b], below, meth, c, (600000, 7302250), lw_Z below #[Value.ref b] s) := ⟨hX, hbl, hnA t b hbl⟩
  have hR : ∀ (pc : Nat) (Lo : List (Option Value)) (N : PM), decode cL_law pc = .ok (.ireturn, 1) → X (mkE B ad t) 8 RL cL_law 4 (p, e, room_1, s, m, #[Value.ref b], below, meth, c, (600000, 7302250), lw_Z below #[Value.ref b] s) pc Lo [.int 1] N := by
    intro pc Lo N hd _ H locs ls _ hS _
    exact va_forget (fun q hq => hsub _ (hS.2.2 q hq)) (lw_ret hx hb hr hlocks hd)
  refine va_forget (fun q hq => by have h : B.2.2.2 ≤ q.base := hS.2.2 q hq; rw [hBh] at h; exact h) ?_
  refine W.widen (k := 600000) (n := 7302250) hkc hks ?_
  exact law_loop hScr hL hR (L + 5) 0 (by omega) (by omega) M0 J0 okX H [] ls hPE ⟨hS.1, fun q h1 h2 => hS.2.1 q h1 (fun z => by have h : B.2.2.2 ≤ q := z; rw [hBh] at h; omega), fun q hq => by cases hq⟩ hl
set_option maxHeartbeats 16000000 in
set_option maxRecDepth 100000 in
theorem whole_start {p : Program} {e : Env} {s : State} {m : MethodId} {below : List Frame} {meth : Method} {c : Code} (l : Launch) (hflags : l.flags = flags0) {b L : Nat} {xs : Nat → Int32} (hL : L ≤ 2560) (C0 : lw_At p s m meth c b L xs) : W p l e room_1 s m #[Value.ref b] below meth c s.heap [] 0 0 (lw_Z below #[Value.ref b] s) (entryFrame m ([Value.ref b] : List Value).toArray 4) := by
  obtain ⟨hx, hb, hr, hml, hown, hts, hX, hbl, hlocks, hgv⟩ := id C0
  have htg : ∀ w ∈ tblG, w.before #[Value.ref b] s = true := fun w hw => hts w (List.mem_filter.mp hw).1
  obtain ⟨c0, i0, hk0⟩ := u_known (C := RX0) (T := TX0) (N := 4) (n := 4) htg in_X0 (htg (.instantiable RX0 4) (by decide +kernel))
  obtain ⟨c1, i1, hk1⟩ := u_known (C := RX1) (T := TX1) (N := 9) (n := 9) htg in_X1 (htg (.instantiable RX1 9) (by decide +kernel))
  obtain ⟨c2, i2, hk2⟩ := u_known (C := RX2) (T := TX2) (N := 3) (n := 3) htg in_X2 (htg (.instantiable RX2 3) (by decide +kernel))
  obtain ⟨c3, i3, hk3⟩ := u_known (C := RX3) (T := TX3) (N := 3) (n := 3) htg in_X3 (htg (.instantiable RX3 3) (by decide +kernel))
  obtain ⟨c4, i4, hk4⟩ := u_known (C := RX4) (T := TX4) (N := 4) (n := 4) htg in_X4 (htg (.instantiable RX4 4) (by decide +kernel))
  obtain ⟨c5, i5, hk5⟩ := u_known (C := RX5) (T := TX5) (N := 3) (n := 3) htg in_X5 (htg (.instantiable RX5 3) (by decide +kernel))
  obtain ⟨c6, i6, hk6⟩ := u_known (C := RX6) (T := TX6) (N := 2) (n := 2) htg in_X6 (htg (.instantiable RX6 2) (by decide +kernel))
  obtain ⟨c7, i7, hk7⟩ := u_known (C := RX7) (T := TX7) (N := 3) (n := 3) htg in_X7 (htg (.instantiable RX7 3) (by decide +kernel))
  obtain ⟨c8, i8, hk8⟩ := u_known (C := RX8) (T := TX8) (N := 13) (n := 13) htg in_X8 (htg (.instantiable RX8 13) (by decide +kernel))
  obtain ⟨c9, i9, hk9⟩ := u_known (C := RX9) (T := TX9) (N := 35) (n := 35) htg in_X9 (htg (.instantiable RX9 35) (by decide +kernel))
  obtain ⟨cI0, kI0, pI0, a1, a2, a3⟩ := Cond.arrayClass_spec (htg _ w_ai)
  obtain ⟨cZ0, kZ0, pZ0, z1, z2, z3⟩ := Cond.arrayClass_spec (htg _ w_az)
  have hover : (Cond.arrayOver (.object "WireFamily$Table")).before #[Value.ref b] s = true := hts _ (by decide +kernel)
  obtain ⟨pT0, cT0, kT0, t1, -, t2, t3, t4⟩ := Cond.arrayOver_spec hover
  obtain ⟨B, hBl, hBh, hG⟩ : ∃ B : Bs, B.1 = l ∧ B.2.2.2 = s.heap.size ∧ GdB B s := by
    refine ⟨(l, ((fun k => match k with | 0 => c0 | 1 => c1 | 2 => c2 | 3 => c3 | 4 => c4 | 5 => c5 | 6 => c6 | 7 => c7 | 8 => c8 | _ => c9), (fun k => match k with | 0 => i0 | 1 => i1 | 2 => i2 | 3 => i3 | 4 => i4 | 5 => i5 | 6 => i6 | 7 => i7 | 8 => i8 | _ => i9)), (cI0, cZ0, cT0), s.heap.size), rfl, rfl, ⟨fun k q hq => ?_, fun k q hq => ?_⟩, fun w hw => ?_, va_AO.of hover⟩
    · match k, hq with
      | 0, hq => cases hq; exact hk0
      | 1, hq => cases hq; exact hk1
      | 2, hq => cases hq; exact hk2
      | 3, hq => cases hq; exact hk3
      | 4, hq => cases hq; exact hk4
      | 5, hq => cases hq; exact hk5
      | 6, hq => cases hq; exact hk6
      | 7, hq => cases hq; exact hk7
      | 8, hq => cases hq; exact hk8
      | 9, hq => cases hq; exact hk9
      | k + 10, hq => simp [vwCl] at hq
    · match k, hq with
      | 0, hq => cases hq; exact ⟨fun n z => ⟨fun k h => (by cases h), kI0, a2, pI0, a3⟩, a1⟩
      | 1, hq => cases hq; exact ⟨fun n z => ⟨fun k h => (by cases h), kZ0, z2, pZ0, z3⟩, z1⟩
      | 2, hq => cases hq; exact ⟨fun n z => ⟨fun k h => (by cases h), kT0, t2, pT0, t3⟩, kT0, pT0, t2, t3, t1, t4⟩
      | k + 3, hq => simp [tysB] at hq
    · exact va_Nw.of (nest_on (List.mem_filter.mp hw).2) (hts w (nest_tab w hw))
  subst hBl
  have hl := lv_entry ([.ref b]) (n := 4) (Nat.le_of_ble_eq_true rfl)
  rw [lg_entry_eq]
  generalize (lg_sl ([.ref b]) ++ List.replicate (4 - (lg_sl ([.ref b])).length) Slot.unset).toArray = ls0 at hl ⊢
  have hl0 : lvH ls0 4 [some (.ref b), none, none, none] := lvH.of hl (fun i v hi => (show al 0 [some (.ref b), none, none, none] = lv_args 0 [.ref b] from rfl) ▸ mem_al.mpr ⟨Nat.zero_le _, by simpa using hi⟩)
  have okB : OkB B 8 RL cL_law 4 (600000, 7302250) (p, e, room_1, s, m, #[Value.ref b], below, meth, c, (600000, 7302250), lw_Z below #[Value.ref b] s) := ⟨hx, hb, hml, hown, htg, hG, by rw [hBh]; exact Nat.le_refl _, Nat.le_of_ble_eq_true rfl, Nat.le_of_ble_eq_true rfl, Nat.le_of_ble_eq_true rfl, Nat.le_of_ble_eq_true rfl⟩
  suffices hY : Y B 8 RL cL_law 4 (p, e, room_1, s, m, #[Value.ref b], below, meth, c, (600000, 7302250), lw_Z below #[Value.ref b] s) (600000, 7302250) 0 [some (.ref b), none, none, none] [] (0, fun _ => 0, fun _ => .inr (0, [])) 0 0 from hY okB s.heap [] ls0 (fun k q h => by simp [wl] at h) ⟨fun i j p q h => by simp [wl] at h, fun k q h => by simp [wl] at h⟩ va_S.rf hl0
  refine y_new dL_law_0 nL_7 (Nat.le_of_ble_eq_true rfl) (Nat.le_of_ble_eq_true rfl) (fun q0 => ?_)
  refine y_dup dL_law_3 rfl ?_
  refine y_call dL_law_4 moX8_init rfl ins_X8_init (Or.inl kL_9) (i_X8_0 B _ _ q0 (by rfl) (by rfl)) (Nat.le_of_ble_eq_true rfl) rfl rfl (Nat.le_of_ble_eq_true rfl) (Nat.le_of_ble_eq_true rfl) (Nat.le_of_ble_eq_true rfl) ?_
  rintro w ⟨ad, en, rfl, h0, h8, f, h19, hf0, hf1⟩
  subst h0
  refine y_astore_n dL_law_7 rfl rfl (Nat.le_of_ble_eq_true rfl) ?_
  refine y_new dL_law_8 nL_10 (Nat.le_of_ble_eq_true rfl) (Nat.le_of_ble_eq_true rfl) (fun q40 => ?_)
  refine y_dup dL_law_11 rfl ?_
  refine y_call dL_law_12 moX9_init rfl ins_X9_init (Or.inl kL_12) (i_X9_40 B _ _ q40 (by rfl) (by rfl)) (Nat.le_of_ble_eq_true rfl) rfl rfl (Nat.le_of_ble_eq_true rfl) (Nat.le_of_ble_eq_true rfl) (Nat.le_of_ble_eq_true rfl) ?_
  rintro w ⟨q41, q42, q43, q44, q45, q46, q47, q48, q49, q50, q51, q52, q53, q54, q55, q56, q57, q58, q59, rfl⟩
  refine y_astore_n dL_law_15 rfl rfl (Nat.le_of_ble_eq_true rfl) ?_
  refine y_iconst (v := nI 0) dL_law_16 (by decide) ?_
  refine y_istore_n dL_law_17 rfl rfl (Nat.le_of_ble_eq_true rfl) ?_
  refine law_go hL C0 hBh hG okB (ad := _) (en := _) rfl (fun j hj h => ?_) ⟨f, h19, hf0, hf1⟩
  match j, hj, h with
  | 0, _, _ => exact h8 0 (by decide) (by decide)
  | 1, _, _ => exact h8 1 (by decide) (by decide)
  | 2, _, _ => exact h8 2 (by decide) (by decide)
  | 3, _, _ => exact h8 3 (by decide) (by decide)
  | 4, _, _ => exact h8 4 (by decide) (by decide)
  | 5, _, _ => exact h8 5 (by decide) (by decide)
  | 6, _, _ => exact h8 6 (by decide) (by decide)
  | 7, _, _ => exact h8 7 (by decide) (by decide)
  | 8, _, _ => exact h8 8 (by decide) (by decide)
  | 9, _, _ => exact h8 9 (by decide) (by decide)
  | 10, _, _ => exact h8 10 (by decide) (by decide)
  | 11, _, _ => exact h8 11 (by decide) (by decide)
  | 12, _, _ => exact h8 12 (by decide) (by decide)
  | 13, _, _ => exact h8 13 (by decide) (by decide)
  | 14, _, _ => exact h8 14 (by decide) (by decide)
  | 15, _, _ => exact h8 15 (by decide) (by decide)
  | 16, _, _ => exact h8 16 (by decide) (by decide)
  | 17, _, _ => exact h8 17 (by decide) (by decide)
  | 18, _, _ => exact h8 18 (by decide) (by decide)
  | 19, _, h => exact absurd rfl h
  | 20, _, _ => exact h8 20 (by decide) (by decide)
  | 21, _, _ => exact h8 21 (by decide) (by decide)
  | 22, _, _ => exact h8 22 (by decide) (by decide)
  | 23, _, _ => exact h8 23 (by decide) (by decide)
  | 24, _, _ => exact h8 24 (by decide) (by decide)
  | 25, _, _ => exact h8 25 (by decide) (by decide)
  | 26, _, _ => exact h8 26 (by decide) (by decide)
  | 27, _, _ => exact h8 27 (by decide) (by decide)
  | 28, _, _ => exact h8 28 (by decide) (by decide)
  | 29, _, _ => exact h8 29 (by decide) (by decide)
  | 30, _, _ => exact h8 30 (by decide) (by decide)
  | 31, _, _ => exact h8 31 (by decide) (by decide)
  | 32, _, _ => exact h8 32 (by decide) (by decide)
  | 33, _, _ => exact h8 33 (by decide) (by decide)
  | 34, _, _ => exact h8 34 (by decide) (by decide)
  | 35, _, _ => exact h8 35 (by decide) (by decide)
  | 36, _, _ => exact h8 36 (by decide) (by decide)
  | 37, _, _ => exact h8 37 (by decide) (by decide)
  | 38, _, _ => exact h8 38 (by decide) (by decide)
  | 39, _, _ => exact h8 39 (by decide) (by decide)
  | 40, _, _ => rfl
  | 41, _, _ => rfl
  | 42, _, _ => rfl
  | 43, _, _ => rfl
  | 44, _, _ => rfl
  | 45, _, _ => rfl
  | 46, _, _ => rfl
  | 47, _, _ => rfl
  | 48, _, _ => rfl
  | 49, _, _ => rfl
  | 50, _, _ => rfl
  | 51, _, _ => rfl
  | 52, _, _ => rfl
  | 53, _, _ => rfl
  | 54, _, _ => rfl
  | 55, _, _ => rfl
  | 56, _, _ => rfl
  | 57, _, _ => rfl
  | 58, _, _ => rfl
  | 59, _, _ => rfl
  | k + 60, h, _ => exact absurd h (by omega)
set_option maxHeartbeats 4000000 in
theorem lw_walk (l : Launch) (hflags : l.flags = flags0) (b : Addr) (xs : List Int32) : MetFree l x (headSpec (Jvm.Cond.code x code maxLocals ret :: tables_1) room_1) (lw_P b xs) (fun _ _ _ _ _ => True) lw_Q := by
  refine MetFree.of_bodyS (code := code) (maxLocals := maxLocals) (ret := ret) (by decide) ?_ ?_
  · intro args s m h hn
    obtain ⟨meth, c, h1, h2, h3, h4, h5, h6, -, -⟩ := Cond.code_spec hn (atoms_spec (ws := Jvm.Cond.code x code maxLocals ret :: tables_1) h _ List.mem_cons_self)
    exact ⟨meth, c, h1, h2, h3, h4, h5, h6⟩
  · intro p e s m args below meth c s₁ B hml0 hP _
    obtain ⟨rfl, hx, hbd, hgv⟩ := hP
    obtain ⟨scr, harrAt, hlist, hof, hsmall⟩ := hx
    obtain ⟨hcb, hkn, -, -⟩ := State.arrayAt?_spec harrAt
    have hown : s.vm.findClass R_law = some m.cls := findClass_of_methodNamed B.named
    have hts0 : ∀ c ∈ (Jvm.Cond.code x code maxLocals ret :: tables_1), c.before #[Value.ref b] s = true := atoms_spec (ws := Jvm.Cond.code x code maxLocals ret :: tables_1) B.pre
    have hts : ∀ w ∈ lw_tbl, w.before #[Value.ref b] s = true := k2_hts_sels lw_privs (fun w hw => hts0 w (List.mem_cons_of_mem _ hw)) lw_privs_ok
    have hml : c.maxLocals = 4 := B.maxLocals_eq (hts0 _ List.mem_cons_self)
    have X₀ : Stand p l e room_1 s m #[Value.ref b] below meth c s₁ [] 0 0 := Stand.of_body B
    have hh0 : s₁.heap = s.heap := by rw [B.state]; rfl
    have hsz : scr.slots.size = xs.length := by rw [← Array.length_toList, hlist, List.length_map]
    have hval : ∀ j : Nat, j < xs.length → scr.slots[j]? = some (.int (xs.getD j 0)) := fun j hj => by
      rw [← Array.getElem?_toList, hlist]
      simp [hj]
    have hbl : b < s.heap.size := (Array.getElem?_eq_some_iff.mp hcb).1
    have hX : va_X b xs.length (fun j => xs.getD j 0) s s.heap := ⟨scr, hcb, hof, hkn, hsz, hval⟩
    have K : W p l e room_1 s m #[Value.ref b] below meth c s₁.heap [] 0 0 (lw_Z below #[Value.ref b] s) (entryFrame m ([Value.ref b] : List Value).toArray 4) := by
      rw [hh0]
      exact whole_start l hflags hbd ⟨B.exec, B.bytes, B.returns, hml, hown, hts, hX, hbl, B.notSynchronized, hgv⟩
    obtain ⟨t, a1, o, b1, b2, b3⟩ := K s₁ rfl X₀
    exact ⟨t, o, a1, b1, b2, b3⟩
theorem lw_pre_spec {args : Array Value} {s : State} (h : (Jvm.Cond.and given_1 narrow_1).before args s = true) (hr : rest_1_c.before args s = true) : ∃ (b : Addr) (xs : List Int32), lw_P b xs args s := by
  have hs := flat_of_before _ h
  have hq := flat_of_before _ hr
  have hc : (Cond.count 1).before args s = true := hs _ (by decide +kernel)
  have harr : (Cond.arrayOf (.arg 0) .int).before args s = true := hs _ (by decide +kernel)
  have hle : (Cond.le (.length (.arg 0)) (.int 2560)).before args s = true := hs _ (by decide +kernel)
  have hlen : (Cond.isInt (.length (.arg 0))).before args s = true := hq _ (by decide +kernel)
  have hall : (Cond.all (.arg 0) (.isInt (.elem (.arg 0) (.index 0)))).before args s = true := hq _ (by decide +kernel)
  obtain ⟨b, xs, hb, hx⟩ := State.ints_of_pre rfl harr hlen hall
  have hsm : xs.length < 2 ^ 31 := hx.choose_spec.2.2.2
  have hev : (Term.length (.arg 0)).eval args s none [] s = some (.int xs.length.toInt32) := hx.length_eval hb
  have hv := Cond.le_ints hev (show (Term.int 2560).eval args s none [] s = some (.int 2560) from rfl)
  have hd : xs.length.toInt32 ≤ 2560 := by
    simpa [Cond.before, Cond.holds, hv] using hle
  have hN : xs.length ≤ 2560 := (Int32.ofNat_le_ofNat hsm (by decide)).mp (show Int32.ofNat xs.length ≤ Int32.ofNat 2560 from hd)
  exact ⟨b, xs, Cond.one_arg hc (show args[0]? = some (.ref b) from hb), hx, hN, h⟩
theorem lw_comes (l : Launch) (hflags : l.flags = flags0) : Comes l x (Jvm.Cond.code x code maxLocals ret :: tables_1) room_1 (fun tb e args s => Calls_1 tb e args s ∧ rest_1 tb e args s ∧ Pre_1 tb e args s)
    (fun _ _ args s o t => lw_Q args s o t) := by
  intro p e ha hc hk s m args below hf hfit hheap happ hpre
  obtain ⟨b, xs, hP⟩ := lw_pre_spec hpre.2.2 hpre.2.1
  obtain ⟨k, o, h1, h2, h3, hQ⟩ := lw_walk l hflags b xs p e ha hc hk s m args below hf ((Spec.applies_iff_loose hf).mp happ).1 hP trivial
  exact ⟨k, o, h1, h2, h3, hQ⟩
theorem lw_frame {s t : State} {o : Outcome} {args : Array Value} (h : Framed s o t [] 600000 7302250) :
    Framed s o t (fieldLocs frame_1_writes args s ++ arrayLocs frame_1_arrays args s ++ staticLocs frame_1_statics s) 600000 7302250 := h
theorem lw_limb (L : Cond) (hL : ∀ (args : Array Value) (s t : State), L.after args s (.returned (some (.int 1))) t = true) :
    ArmFor flags0 classFile x code maxLocals ret World_1 tables_1 room_1 Calls_1 rest_1 Pre_1
      (fun tb e a s o t => postC L tb e a s o t ∧ Framed s o t (fieldLocs frame_1_writes a s ++ arrayLocs frame_1_arrays a s ++ staticLocs frame_1_statics s) 600000 7302250) := by
  intro l hflags _ _ p e ha hc hk s m args below hf hfit hheap happ hpre
  obtain ⟨k, o, h1, h2, h3, rfl, hF⟩ := lw_comes l hflags p e ha hc hk s m args below hf hfit hheap happ hpre
  exact ⟨k, _, h1, h2, h3, hL args s _, lw_frame hF⟩
theorem i_vc : Claimed_1_1 ∧ Claimed_1_2 := ⟨lw_limb limb_1_1 (fun args s t => by simp [limb_1_1, Cond.after, Cond.holds, Cond.value]), lw_limb limb_1_2 (fun args s t => Cond.after_iff.mpr (by
  first | (rw [show limb_1_2 = Cond.eq .result (.int 1) from rfl, Cond.eq_ints (x := 1) (y := 1) rfl rfl]; simp; done) | (simp [limb_1_2, Cond.value, Term.eval]; done)))⟩
