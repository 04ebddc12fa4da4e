-- ===== making: worlds that grow =====
abbrev AW : Type := Nat × (Nat → Nat) × (Nat → va_E)
def wl (w : AW) : va_W := (List.range w.1).map (fun c => (w.2.1 c, w.2.2 c))
def grow (w : AW) (q : Nat) (x : va_E) : AW := (w.1 + 1, uf w.2.1 w.1 q, uf w.2.2 w.1 x)
def chg (w : AW) (c : Nat) (x : va_E) : AW := (w.1, w.2.1, uf w.2.2 c x)
theorem wl_at {w : AW} {c : Nat} (h : c < w.1) : (wl w)[c]? = some (w.2.1 c, w.2.2 c) := by simp [wl, h]
theorem wl_grow {w : AW} {q : Nat} {x : va_E} : wl (grow w q x) = wl w ++ [(q, x)] := by
  show (List.range (w.1 + 1)).map _ = _
  rw [List.range_succ, List.map_append]
  congr 1
  · apply List.map_congr_left
    intro c hc
    have hne : c ≠ w.1 := Nat.ne_of_lt (List.mem_range.mp hc)
    show (uf w.2.1 w.1 q c, uf w.2.2 w.1 x c) = _
    rw [uf_n hne, uf_n hne]
  · show [(uf w.2.1 w.1 q w.1, uf w.2.2 w.1 x w.1)] = _
    rw [uf_s, uf_s]
theorem wl_chg {w : AW} {c : Nat} {x : va_E} (h : c < w.1) : wl (chg w c x) = (wl w).set c (w.2.1 c, x) := by
  apply List.ext_getElem?
  intro i
  by_cases hi : i < w.1
  · rw [wl_at (w := chg w c x) hi]
    show some (w.2.1 i, uf w.2.2 c x i) = _
    by_cases e : i = c
    · subst e
      rw [uf_s, List.getElem?_set_self (by simp [wl]; exact hi)]
    · rw [uf_n e, List.getElem?_set_ne (Ne.symm e), wl_at hi]
  · rw [List.getElem?_eq_none (by simp [wl, chg]; omega), List.getElem?_eq_none (by simp [wl]; omega)]
abbrev Bs : Type := Launch × va_G × (ClassId × ClassId × ClassId) × Nat
def bI_ (B : Bs) : ClassId := B.2.2.1.1
def bZ_ (B : Bs) : ClassId := B.2.2.1.2.1
def bT_ (B : Bs) : ClassId := B.2.2.1.2.2
def bH (B : Bs) : Nat → Prop := fun q => B.2.2.2 ≤ q
def tysB (B : Bs) : List (ClassId × FieldType) := [(bI_ B, .int), (bZ_ B, .boolean), (bT_ B, .object "WireFamily$Table")]
def GdB (B : Bs) (U : State) : Prop := va_K B.2.1 vwCl (tysB B) U ∧ (∀ w ∈ nestW, va_Nw w U) ∧ va_AO "WireFamily$Table" U
theorem GdB.to {B : Bs} {s U : State} (h : GdB B s) (hW : s.WarmedH U.vm) : GdB B U := ⟨va_K.moved hW.alike h.1, nest_moved hW h.2.1, h.2.2.moved hW.alike⟩
theorem GdB.blind {B : Bs} {U V : State} (h : GdB B U) (hv : V.vm = U.vm) : GdB B V := by
  have ha : U.vm.Alike V.vm := by rw [hv]; exact Vm.Alike.refl U.vm
  exact ⟨va_K.moved ha h.1, nest_same hv.symm h.2.1, h.2.2.moved ha⟩
def isInit : Cx → Prop
  | (_, _, _, _, _, _, _, meth, _, _, _) => meth.name = "<init>"
def OkB (B : Bs) (d : Nat) (own : String) (b : ByteArray) (nL : Nat) (bd : Nat × Nat) : Cx → Prop
  | (p, _, R, s, m, args, _, _, c, _, _) => p.tables.exec = Jvm.exec ∧ c.code = b ∧ c.maxLocals = nL ∧ s.vm.findClass own = some m.cls ∧ (∀ w ∈ tblG, w.before args s = true) ∧ GdB B s ∧ B.2.2.2 ≤ s.heap.size ∧ d ≤ R.frames ∧ 35 * d ≤ R.locals ∧ bd.1 ≤ R.cells ∧ bd.2 ≤ R.slots
def Y (B : Bs) (d : Nat) (own : String) (b : ByteArray) (nL : Nat) (C : Cx) (bd : Nat × Nat) (pc : Nat) (L : List (Option Value)) (st : List Value) (w : AW) (kc ks : Nat) : Prop := OkB B d own b nL bd C → match C with
  | (p, e, R, s, m, args, below, meth, c, _, Q) => ∀ (H : Heap) (locs : List Loc) (ls : Array Slot), va_P B.2.1 vwCl (wl w) H → va_D (bH B) (wl w) → va_S (bH B) s.heap H locs → lvH ls nL L → W p B.1 e R s m args below meth c H locs kc ks Q (F0 m pc ls st)
def rmB (d mc ms : Nat) : Room := { frames := d, cells := mc, slots := ms, locals := 35 * d }
def CtB (B : Bs) (d : Nat) (m : MI) (mc ms : Nat) (args : List Value) (w : AW) (P : AW → Prop) : Prop :=
  Met B.1 m.1 (wsM m) (rmB d mc ms) (va_Pc args (fun U => GdB B U ∧ B.2.2.2 ≤ U.heap.size ∧ va_P B.2.1 vwCl (wl w) U.heap ∧ va_D (bH B) (wl w))) (fun _ st o t => (o = .returned none ∧ ∃ w', P w' ∧ va_P B.2.1 vwCl (wl w') t.heap ∧ va_D (bH B) (wl w')) ∧ va_F (bH B) st t) mc ms (bH B)
/-- a final field of the class's own, set by its constructor -/
def FF (own : String) (idx ci k : Nat) (ty : FieldType) : Prop := ∃ (Cn : String) (T : u_T) (N : Nat), vwCl[ci]? = some (Cn, T, N) ∧ k < N ∧ (∀ w ∈ u_ws Cn T N, w ∈ tblG) ∧ Cond.fieldLink own idx (T k).1 (T k).2.1 (T k).2.2.1 ∈ tblG ∧ (∃ ty0 : Nat → FieldType, ∀ j, j < N → parseFieldDescriptor (T j).2.2.1 = some (ty0 j)) ∧ (∀ a, a < N → ∀ b, b < N → a ≠ b → (T a).2.1 ≠ (T b).2.1) ∧ (T k).2.2.2 = true ∧ (T k).1 = own ∧ parseFieldDescriptor (T k).2.2.1 = some ty
/-- a class that can be made -/
def NW (own : String) (idx ci N : Nat) (fs : List Value) : Prop := ∃ (Cn : String) (T : u_T) (ty : Nat → FieldType), vwCl[ci]? = some (Cn, T, N) ∧ (∀ w ∈ u_ws Cn T N, w ∈ tblG) ∧ (∀ k, k < N → parseFieldDescriptor (T k).2.2.1 = some (ty k)) ∧ (∀ j, j < N → defaultValue (ty j) = vp_V fs j) ∧ Cond.classLink own idx Cn ∈ tblG ∧ Cond.instantiable Cn N ∈ tblG ∧ Cond.initialized Cn ∈ tblG
theorem w_ai : Cond.arrayClass .int ∈ tblG := List.mem_filter.mpr ⟨List.mem_of_getElem? (i := 78) (by decide +kernel), by decide +kernel⟩
theorem w_az : Cond.arrayClass .boolean ∈ tblG := List.mem_filter.mpr ⟨List.mem_of_getElem? (i := 169) (by decide +kernel), by decide +kernel⟩
theorem w_oi : Cond.instanceMethod Lib.objectInit ∈ tblG := List.mem_filter.mpr ⟨List.mem_of_getElem? (i := 62) (by decide +kernel), by decide +kernel⟩
theorem w_oc : Cond.code Lib.objectInit ⟨#[0xb1]⟩ 1 none ∈ tblG := List.mem_filter.mpr ⟨List.mem_of_getElem? (i := 63) (by decide +kernel), by decide +kernel⟩
theorem wo_X8 : Cond.methodLink RX8 3 Lib.objectInit ∈ tblG := List.mem_filter.mpr ⟨List.mem_of_getElem? (i := 61) (by decide +kernel), by decide +kernel⟩
theorem wo_X6 : Cond.methodLink RX6 3 Lib.objectInit ∈ tblG := List.mem_filter.mpr ⟨List.mem_of_getElem? (i := 69) (by decide +kernel), by decide +kernel⟩
theorem wo_X1 : Cond.methodLink RX1 3 Lib.objectInit ∈ tblG := List.mem_filter.mpr ⟨List.mem_of_getElem? (i := 84) (by decide +kernel), by decide +kernel⟩
theorem wo_X4 : Cond.methodLink RX4 3 Lib.objectInit ∈ tblG := List.mem_filter.mpr ⟨List.mem_of_getElem? (i := 130) (by decide +kernel), by decide +kernel⟩
theorem wo_X0 : Cond.methodLink RX0 3 Lib.objectInit ∈ tblG := List.mem_filter.mpr ⟨List.mem_of_getElem? (i := 154) (by decide +kernel), by decide +kernel⟩
theorem wo_X5 : Cond.methodLink RX5 3 Lib.objectInit ∈ tblG := List.mem_filter.mpr ⟨List.mem_of_getElem? (i := 175) (by decide +kernel), by decide +kernel⟩
theorem wo_X3 : Cond.methodLink RX3 3 Lib.objectInit ∈ tblG := List.mem_filter.mpr ⟨List.mem_of_getElem? (i := 191) (by decide +kernel), by decide +kernel⟩
theorem wo_X7 : Cond.methodLink RX7 3 Lib.objectInit ∈ tblG := List.mem_filter.mpr ⟨List.mem_of_getElem? (i := 208) (by decide +kernel), by decide +kernel⟩
theorem wo_X2 : Cond.methodLink RX2 3 Lib.objectInit ∈ tblG := List.mem_filter.mpr ⟨List.mem_of_getElem? (i := 226) (by decide +kernel), by decide +kernel⟩
theorem wo_X9 : Cond.methodLink RX9 1 Lib.objectInit ∈ tblG := List.mem_filter.mpr ⟨List.mem_of_getElem? (i := 684) (by decide +kernel), by decide +kernel⟩
section YR
variable {B : Bs} {d : Nat} {own : String} {b : ByteArray} {nL : Nat} {C : Cx} {bd : Nat × Nat} {pc : Nat} {L : List (Option Value)} {st : List Value} {w : AW} {kc ks : Nat}
theorem y_iconst {n : Int} {v : Int32} (hd : decode b pc = .ok (.iconst n, 1)) (hv : Int32.ofInt n = v) (kk : Y B d own b nL C bd (pc + 1) L (.int v :: st) w kc ks) : Y B d own b nL C bd pc L (st) w kc ks := by
  obtain ⟨p, e, R, s, m, args, below, meth, c, cs, Q⟩ := C
  intro ok H locs ls hP hD hS hl
  exact lv_iconst ok.1 ok.2.1 hd hv (kk ok H locs ls hP hD hS hl)
theorem y_bipush {n : Int} {v : Int32} (hd : decode b pc = .ok (.bipush n, 2)) (hv : (Int8.ofInt n).toInt32 = v) (kk : Y B d own b nL C bd (pc + 2) L (.int v :: st) w kc ks) : Y B d own b nL C bd pc L (st) w kc ks := by
  obtain ⟨p, e, R, s, m, args, below, meth, c, cs, Q⟩ := C
  intro ok H locs ls hP hD hS hl
  exact lv_bipush ok.1 ok.2.1 hd hv (kk ok H locs ls hP hD hS hl)
theorem y_sipush {n : Int} {v : Int32} (hd : decode b pc = .ok (.sipush n, 3)) (hv : (Int16.ofInt n).toInt32 = v) (kk : Y B d own b nL C bd (pc + 3) L (.int v :: st) w kc ks) : Y B d own b nL C bd pc L (st) w kc ks := by
  obtain ⟨p, e, R, s, m, args, below, meth, c, cs, Q⟩ := C
  intro ok H locs ls hP hD hS hl
  exact lv_sipush ok.1 ok.2.1 hd hv (kk ok H locs ls hP hD hS hl)
theorem y_lconst {n : Fin 2} {v : Int64} (hd : decode b pc = .ok (.lconst n, 1)) (hv : Int64.ofNat (n : Nat) = v) (kk : Y B d own b nL C bd (pc + 1) L (.long v :: st) w kc ks) : Y B d own b nL C bd pc L (st) w kc ks := by
  obtain ⟨p, e, R, s, m, args, below, meth, c, cs, Q⟩ := C
  intro ok H locs ls hP hD hS hl
  exact lv_lconst ok.1 ok.2.1 hd hv (kk ok H locs ls hP hD hS hl)
theorem y_aload_n {k : Fin 4} {i x : Nat} (hd : decode b pc = .ok (.aload_n k, 1)) (hi : (k : Nat) = i) (hv : L[i]? = some (some (.ref x))) (kk : Y B d own b nL C bd (pc + 1) L (.ref x :: st) w kc ks) : Y B d own b nL C bd pc L (st) w kc ks := by
  obtain ⟨p, e, R, s, m, args, below, meth, c, cs, Q⟩ := C
  intro ok H locs ls hP hD hS hl
  exact lv_aload_n ok.1 ok.2.1 hd hi (hl.2.2 _ _ hv) (kk ok H locs ls hP hD hS hl)
theorem y_iload_n {k : Fin 4} {i : Nat} {x : Int32} (hd : decode b pc = .ok (.iload_n k, 1)) (hi : (k : Nat) = i) (hv : L[i]? = some (some (.int x))) (kk : Y B d own b nL C bd (pc + 1) L (.int x :: st) w kc ks) : Y B d own b nL C bd pc L (st) w kc ks := by
  obtain ⟨p, e, R, s, m, args, below, meth, c, cs, Q⟩ := C
  intro ok H locs ls hP hD hS hl
  exact lv_iload_n ok.1 ok.2.1 hd hi (hl.2.2 _ _ hv) (kk ok H locs ls hP hD hS hl)
theorem y_dup {v : Value} (hd : decode b pc = .ok (.dup, 1)) (hv : v.category = 1) (kk : Y B d own b nL C bd (pc + 1) L (v :: v :: st) w kc ks) : Y B d own b nL C bd pc L (v :: st) w kc ks := by
  obtain ⟨p, e, R, s, m, args, below, meth, c, cs, Q⟩ := C
  intro ok H locs ls hP hD hS hl
  exact lv_dup ok.1 ok.2.1 hd hv (kk ok H locs ls hP hD hS hl)
theorem y_goto {off : Int} {tgt : Nat} (hd : decode b pc = .ok (.goto off, 3)) (ht : (pc : Int) + off = (tgt : Int)) (kk : Y B d own b nL C bd tgt L st w kc ks) : Y B d own b nL C bd pc L st w kc ks := by
  obtain ⟨p, e, R, s, m, args, below, meth, c, cs, Q⟩ := C
  intro ok H locs ls hP hD hS hl
  exact lv_goto ok.1 ok.2.1 hd ht (kk ok H locs ls hP hD hS hl)
theorem y_icmp_ge {x y : Int32} {off : Int} {tgt : Nat} (hd : decode b pc = .ok (.if_icmp .ge off, 3)) (ht : (pc : Int) + off = (tgt : Int)) (kt : y ≤ x → Y B d own b nL C bd tgt L st w kc ks) (kf : ¬ y ≤ x → Y B d own b nL C bd (pc + 3) L st w kc ks) : Y B d own b nL C bd pc L (.int y :: .int x :: st) w kc ks := by
  obtain ⟨p, e, R, s, m, args, below, meth, c, cs, Q⟩ := C
  intro ok H locs ls hP hD hS hl
  exact lv_icmp_ge ok.1 ok.2.1 hd ht (fun q => kt q ok H locs ls hP hD hS hl) (fun q => kf q ok H locs ls hP hD hS hl)
theorem y_istore_n {k : Fin 4} {i : Nat} {v : Int32} (hd : decode b pc = .ok (.istore_n k, 1)) (hi : (k : Nat) = i) (hn : nlAt L i = true) (hb : i < nL) (kk : Y B d own b nL C bd (pc + 1) (L.set i (some (.int v))) st w kc ks) : Y B d own b nL C bd pc L (.int v :: st) w kc ks := by
  obtain ⟨p, e, R, s, m, args, below, meth, c, cs, Q⟩ := C
  intro ok H locs ls hP hD hS hl
  exact lv_istore_n ok.1 ok.2.1 hd hi hl.has hb rfl (fun ls' hl' => kk ok H locs ls' hP hD hS (lvH.of hl' (st_mem hn)))
theorem y_astore_n {k : Fin 4} {i : Nat} {v : Nat} (hd : decode b pc = .ok (.astore_n k, 1)) (hi : (k : Nat) = i) (hn : nlAt L i = true) (hb : i < nL) (kk : Y B d own b nL C bd (pc + 1) (L.set i (some (.ref v))) st w kc ks) : Y B d own b nL C bd pc L (.ref v :: st) w kc ks := by
  obtain ⟨p, e, R, s, m, args, below, meth, c, cs, Q⟩ := C
  intro ok H locs ls hP hD hS hl
  exact lv_astore_n ok.1 ok.2.1 hd hi hl.has hb rfl (fun ls' hl' => kk ok H locs ls' hP hD hS (lvH.of hl' (st_mem hn)))
theorem y_iinc {i : Nat} {n : Int} {x v : Int32} (hd : decode b pc = .ok (.iinc i n, 3)) (hv : L[i]? = some (some (.int x))) (hw : Int32.ofInt n = v) (hn : nlAt L i = true) (hb : i < nL) (kk : Y B d own b nL C bd (pc + 3) (L.set i (some (.int (x + v)))) st w kc ks) : Y B d own b nL C bd pc L st w kc ks := by
  obtain ⟨p, e, R, s, m, args, below, meth, c, cs, Q⟩ := C
  intro ok H locs ls hP hD hS hl
  subst hw
  obtain ⟨k, hk⟩ := List.getElem?_of_mem (mem_al.mpr ⟨Nat.zero_le i, by simpa using hv⟩ : (i, Value.int x) ∈ al 0 L)
  exact lv_iinc ok.1 ok.2.1 hd hl.has hk rfl hb rfl (fun ls' hl' => kk ok H locs ls' hP hD hS (lvH.of hl' (st_mem hn)))
theorem y_obj {idx a : Nat} (hd : decode b pc = .ok (.invokespecial idx, 3)) (hlk : Cond.methodLink own idx Lib.objectInit ∈ tblG) (hd1 : 1 ≤ d) (hw : (st.map fun v => v.category).sum ≤ 8) (kk : Y B d own b nL C bd (pc + 3) L st w kc ks) : Y B d own b nL C bd pc L (.ref a :: st) w kc ks := by
  obtain ⟨p, e, R, s, m, args, below, meth, c, cs, Q⟩ := C
  intro ok H locs ls hP hD hS hl
  obtain ⟨o1, o2, o3, o4, o5, o6, o7, o8, o9, o10, o11⟩ := id ok
  have hz : (F0 m pc ls (.ref a :: st)).monitorRoom = 0 := rfl
  exact W.objInit o1 o2 o4 (o5 _ hlk) (o5 _ w_oi) (o5 _ w_oc) rfl (hl.1.trans o3.symm) rfl hd (by omega) (by rw [hz]; omega) (W.eq (g2 := F0 m (pc + 3) ls st) rfl (kk ok H locs ls hP hD hS hl))
theorem y_newi {n : Int32} {N : Nat} (hd : decode b pc = .ok (.newarray .int, 2)) (hn : ¬ n < 0) (hN : n.toNatClampNeg = N) (hN4 : N ≤ 1000) (h1 : kc + 1 ≤ bd.1) (h2 : ks + N ≤ bd.2) (kk : ∀ q, Y B d own b nL C bd (pc + 2) L (.ref q :: st) (grow w q (.inl (bI_ B, N, .inl (fun _ => 0)))) (kc + 1) (ks + N)) : Y B d own b nL C bd pc L (.int n :: st) w kc ks := by
  obtain ⟨p, e, R, s, m, args, below, meth, c, cs, Q⟩ := C
  intro ok H locs ls hP hD hS hl
  obtain ⟨o1, o2, o3, o4, o5, o6, o7, o8, o9, o10, o11⟩ := id ok
  refine va_newa (atype := .int) o1 o2 (o5 _ w_ai) rfl o6.1 hP hD hS (fun q h => Nat.le_trans o7 h) (a0 := (N, .inl (fun _ => 0))) (fun _ => rfl) hn hN (by show N * 4 ≤ _; omega) (by omega) (by omega) hd (fun q cA H1 hK1 hP1 hD1 hS1 => ?_)
  have ec : cA = bI_ B := Option.some.inj ((hK1.2 3 (cA, .int) rfl).2.symm.trans (o6.1.2 0 _ rfl).2)
  subst ec
  exact kk q ok H1 locs ls (by rw [wl_grow]; exact hP1) (by rw [wl_grow]; exact hD1) hS1 hl
theorem y_newz {n : Int32} {N : Nat} (hd : decode b pc = .ok (.newarray .boolean, 2)) (hn : ¬ n < 0) (hN : n.toNatClampNeg = N) (hN4 : N ≤ 1000) (h1 : kc + 1 ≤ bd.1) (h2 : ks + N ≤ bd.2) (kk : ∀ q, Y B d own b nL C bd (pc + 2) L (.ref q :: st) (grow w q (.inl (bZ_ B, N, .inl (fun _ => 0)))) (kc + 1) (ks + N)) : Y B d own b nL C bd pc L (.int n :: st) w kc ks := by
  obtain ⟨p, e, R, s, m, args, below, meth, c, cs, Q⟩ := C
  intro ok H locs ls hP hD hS hl
  obtain ⟨o1, o2, o3, o4, o5, o6, o7, o8, o9, o10, o11⟩ := id ok
  refine va_newa (atype := .boolean) o1 o2 (o5 _ w_az) rfl o6.1 hP hD hS (fun q h => Nat.le_trans o7 h) (a0 := (N, .inl (fun _ => 0))) (fun _ => rfl) hn hN (by show N * 1 ≤ _; omega) (by omega) (by omega) hd (fun q cA H1 hK1 hP1 hD1 hS1 => ?_)
  have ec : cA = bZ_ B := Option.some.inj ((hK1.2 3 (cA, .boolean) rfl).2.symm.trans (o6.1.2 1 _ rfl).2)
  subst ec
  exact kk q ok H1 locs ls (by rw [wl_grow]; exact hP1) (by rw [wl_grow]; exact hD1) hS1 hl
theorem y_new {idx ci N : Nat} {fs : List Value} (hd : decode b pc = .ok (.new idx, 3)) (hw : NW own idx ci N fs) (h1 : kc + 1 ≤ bd.1) (h2 : ks + N ≤ bd.2) (kk : ∀ q, Y B d own b nL C bd (pc + 3) L (.ref q :: st) (grow w q (.inr (ci, fs))) (kc + 1) (ks + N)) : Y B d own b nL C bd pc L st w kc ks := by
  obtain ⟨p, e, R, s, m, args, below, meth, c, cs, Q⟩ := C
  intro ok H locs ls hP hD hS hl
  obtain ⟨o1, o2, o3, o4, o5, o6, o7, o8, o9, o10, o11⟩ := id ok
  obtain ⟨Cn, T, ty, n1, n2, n3, n4, n5, n6, n7⟩ := hw
  exact va_new o1 o2 o5 n2 ty n3 o4 (o5 _ n5) (o5 _ n6) (o5 _ n7) o6.1 hP hD hS (fun q h => Nat.le_trans o7 h) n1 n4 (by omega) (by omega) hd (fun q H1 hP1 hD1 hS1 => kk q ok H1 locs ls (by rw [wl_grow]; exact hP1) (by rw [wl_grow]; exact hD1) hS1 hl)
theorem y_anew {idx : Nat} {n : Int32} {N : Nat} (hd : decode b pc = .ok (.anewarray idx, 3)) (hlk : Cond.classLink own idx "WireFamily$Table" ∈ tblG) (hn : ¬ n < 0) (hN : n.toNatClampNeg = N) (hN4 : N ≤ 1000) (h1 : kc + 1 ≤ bd.1) (h2 : ks + N ≤ bd.2) (kk : ∀ q, Y B d own b nL C bd (pc + 3) L (.ref q :: st) (grow w q (.inl (bT_ B, N, .inr (.inr (.inr (.inr (fun _ => none))))))) (kc + 1) (ks + N)) : Y B d own b nL C bd pc L (.int n :: st) w kc ks := by
  obtain ⟨p, e, R, s, m, args, below, meth, c, cs, Q⟩ := C
  intro ok H locs ls hP hD hS hl
  obtain ⟨o1, o2, o3, o4, o5, o6, o7, o8, o9, o10, o11⟩ := id ok
  refine va_newq o1 o2 o4 (o5 _ hlk) o6.2.2 o6.1 hP hD hS (fun q h => Nat.le_trans o7 h) hn hN (by omega) (by omega) (by omega) hd (fun q cA H1 hK1 hP1 hD1 hS1 => ?_)
  have ec : cA = bT_ B := by
    obtain ⟨_, _, _, _, _, g1⟩ := (hK1.2 3 (cA, .object "WireFamily$Table") rfl).2
    obtain ⟨_, _, _, _, _, g2⟩ := (o6.1.2 2 _ rfl).2
    exact Option.some.inj (g1.symm.trans g2)
  subst ec
  exact kk q ok H1 locs ls (by rw [wl_grow]; exact hP1) (by rw [wl_grow]; exact hD1) hS1 hl
theorem y_ast {c0 c1 n v a : Nat} {vs : List Value} {f : Nat → Option Nat} {i : Int32} (hd : decode b pc = .ok (.aastore, 1)) (h0 : c0 < w.1) (h1 : c1 < w.1) (ha : w.2.1 c0 = a) (hv : w.2.1 c1 = v) (e0 : w.2.2 c0 = .inl (bT_ B, n, .inr (.inr (.inr (.inr f))))) (e1 : w.2.2 c1 = .inr (4, vs)) (hin : vp_in i n) (kk : Y B d own b nL C bd (pc + 1) L st (chg w c0 (.inl (bT_ B, n, .inr (.inr (.inr (.inr (va_up f i.toNatClampNeg (some v)))))))) kc ks) : Y B d own b nL C bd pc L (.ref v :: .int i :: .ref a :: st) w kc ks := by
  obtain ⟨p, e, R, s, m, args, below, meth, c, cs, Q⟩ := C
  intro ok H locs ls hP hD hS hl
  obtain ⟨o1, o2, o3, o4, o5, o6, o7, o8, o9, o10, o11⟩ := id ok
  subst ha
  subst hv
  exact va_astq o1 o2 o6.1 hP hD hS c0 2 c1 4 (r := (RX4, TX4, 4)) (by rw [wl_at h0, e0]) rfl (by rw [wl_at h1, e1]) rfl hin hd (fun H1 locs1 hP1 hD1 hS1 => kk ok H1 locs1 ls (by rw [wl_chg h0]; exact hP1) (by rw [wl_chg h0]; exact hD1) hS1 hl)
theorem y_get {idx ci k c0 a : Nat} {fs : List Value} {v : Value} (hd : decode b pc = .ok (.getfield idx, 3)) (hf : FL own idx ci k) (h0 : c0 < w.1) (ha : w.2.1 c0 = a) (e0 : w.2.2 c0 = .inr (ci, fs)) (hv : fs[k]? = some v) (kk : Y B d own b nL C bd (pc + 3) L (v :: st) w kc ks) : Y B d own b nL C bd pc L (.ref a :: st) w kc ks := by
  obtain ⟨p, e, R, s, m, args, below, meth, c, cs, Q⟩ := C
  intro ok H locs ls hP hD hS hl
  obtain ⟨o1, o2, o3, o4, o5, o6, o7, o8, o9, o10, o11⟩ := id ok
  subst ha
  obtain ⟨Cn, T, N, g1, g2, g3, g4⟩ := hf
  have he : (wl w)[c0]? = some (w.2.1 c0, .inr (ci, fs)) := by rw [wl_at h0, e0]
  rcases g4 with g4 | ⟨host, g4⟩
  · exact va_get o1 o2 o5 g3 o4 o6.1 hP c0 he g1 k g2 (o5 _ g4) (fun _ h9 => h9) hv hd (kk ok H locs ls hP hD hS hl)
  · exact va_getN o1 o2 o5 g3 o4 o6.1 hP c0 he g1 k g2 (va_Nw.use rfl (o6.2.1 _ g4)) (fun _ h9 => h9) hv hd (kk ok H locs ls hP hD hS hl)
theorem y_putF {idx ci k c0 a : Nat} {fs : List Value} {ty : FieldType} {v : Value} (hI : isInit C) (hd : decode b pc = .ok (.putfield idx, 3)) (hf : FF own idx ci k ty) (h0 : c0 < w.1) (ha : w.2.1 c0 = a) (e0 : w.2.2 c0 = .inr (ci, fs)) (hn : narrow ty v = v) (hfit : fits ty v = true) (hlen : k < fs.length) (kk : Y B d own b nL C bd (pc + 3) L st (chg w c0 (.inr (ci, fs.set k v))) kc ks) : Y B d own b nL C bd pc L (v :: .ref a :: st) w kc ks := by
  obtain ⟨p, e, R, s, m, args, below, meth, c, cs, Q⟩ := C
  intro ok H locs ls hP hD hS hl
  obtain ⟨o1, o2, o3, o4, o5, o6, o7, o8, o9, o10, o11⟩ := id ok
  subst ha
  obtain ⟨Cn, T, N, g1, g2, g3, g4, ⟨ty0, g5⟩, g6, g7, g8, g9⟩ := hf
  have he : (wl w)[c0]? = some (w.2.1 c0, .inr (ci, fs)) := by rw [wl_at h0, e0]
  exact va_putF o1 o2 o5 g3 ty0 g5 g6 o4 o6.1 hP hD hS c0 he g1 k g2 (o5 _ g4) (fun _ h9 => h9) g7 hI g8 g9 hn hfit hlen hd (fun H1 locs1 hP1 hD1 hS1 => kk ok H1 locs1 ls (by rw [wl_chg h0]; exact hP1) (by rw [wl_chg h0]; exact hD1) hS1 hl)
theorem y_put {idx ci k c0 a : Nat} {fs : List Value} {ty : FieldType} {v : Value} (hd : decode b pc = .ok (.putfield idx, 3)) (hf : FP own idx ci k ty) (h0 : c0 < w.1) (ha : w.2.1 c0 = a) (e0 : w.2.2 c0 = .inr (ci, fs)) (hn : narrow ty v = v) (hfit : fits ty v = true) (hlen : k < fs.length) (kk : Y B d own b nL C bd (pc + 3) L st (chg w c0 (.inr (ci, fs.set k v))) kc ks) : Y B d own b nL C bd pc L (v :: .ref a :: st) w kc ks := by
  obtain ⟨p, e, R, s, m, args, below, meth, c, cs, Q⟩ := C
  intro ok H locs ls hP hD hS hl
  obtain ⟨o1, o2, o3, o4, o5, o6, o7, o8, o9, o10, o11⟩ := id ok
  subst ha
  obtain ⟨Cn, T, N, g1, g2, g3, g4, ⟨ty0, g5⟩, g6, g7, g8⟩ := hf
  have he : (wl w)[c0]? = some (w.2.1 c0, .inr (ci, fs)) := by rw [wl_at h0, e0]
  rcases g4 with g4 | ⟨host, g4⟩
  · exact va_put o1 o2 o5 g3 ty0 g5 g6 o4 o6.1 hP hD hS c0 he g1 k g2 (o5 _ g4) (fun _ h9 => h9) g7 g8 hn hfit hlen hd (fun H1 locs1 hP1 hD1 hS1 => kk ok H1 locs1 ls (by rw [wl_chg h0]; exact hP1) (by rw [wl_chg h0]; exact hD1) hS1 hl)
  · exact va_putN o1 o2 o5 g3 ty0 g5 g6 o4 o6.1 hP hD hS c0 he g1 k g2 (va_Nw.use rfl (o6.2.1 _ g4)) (fun _ h9 => h9) g7 g8 hn hfit hlen hd (fun H1 locs1 hP1 hD1 hS1 => kk ok H1 locs1 ls (by rw [wl_chg h0]; exact hP1) (by rw [wl_chg h0]; exact hD1) hS1 hl)
theorem GdB.bl {al : List Value} : FrameBlind (va_Pc al (fun U => GdB B U ∧ B.2.2.2 ≤ U.heap.size ∧ va_P B.2.1 vwCl (wl w) U.heap ∧ va_D (bH B) (wl w))) := by
  rintro a U g mk ⟨h1, h2, h3, h4, h5⟩
  exact ⟨h1, h2.blind rfl, h3, h4, h5⟩
theorem y_run {p : Program} {e : Env} {R : Room} {s : State} {m : MethodId} {args : Array Value} {below : List Frame} {meth : Method} {c : Code} {cs : Nat × Nat} {Q : State → Prop} {H : Heap} {locs : List Loc} {ls : Array Slot} {st0 rest : List Value} {P : AW → Prop} {mc ms : Nat} (ok : OkB B d own b nL bd (p, e, R, s, m, args, below, meth, c, cs, Q)) (hS : va_S (bH B) s.heap H locs) (hl : lvH ls nL L)
    (hr : va_Run p B.1 e R s m args below meth c H locs kc ks mc ms (F0 m pc ls st0) rest (fun (st : State) (o : Outcome) (t : State) => (o = .returned none ∧ ∃ w', P w' ∧ va_P B.2.1 vwCl (wl w') t.heap ∧ va_D (bH B) (wl w')) ∧ va_F (bH B) st t) (bH B))
    (kk : ∀ w', P w' → Y B d own b nL (p, e, R, s, m, args, below, meth, c, cs, Q) bd (pc + 3) L rest w' (kc + mc) (ks + ms)) : W p B.1 e R s m args below meth c H locs kc ks Q (F0 m pc ls st0) := by
  intro T hT Xs
  obtain ⟨v, st₀, t, T', Lc, h0, X', hL, e1, e2, ⟨⟨hv, w', hp, hPn, hDn⟩, hz, hk⟩, stp⟩ := hr T hT Xs
  cases hv
  rw [h0] at hz hk
  have hS' : va_S (bH B) s.heap T'.heap (locs ++ Lc) := by
    refine ⟨Nat.le_trans hS.1 (by rw [e1]; exact hz), fun q h1 h2 => ?_, fun q hq => ?_⟩
    · rw [e1, hk q (Nat.lt_of_lt_of_le h1 hS.1) h2]; exact hS.2.1 q h1 h2
    · rcases List.mem_append.mp hq with h | h
      · exact hS.2.2 q h
      · exact hL q h
  obtain ⟨t2, a1, b1⟩ := kk w' hp ok T'.heap (locs ++ Lc) ls (by rw [e1]; exact hPn) hDn hS' hl T' rfl X'
  exact ⟨t2, stp t2 a1, b1⟩
theorem y_call {d' idx n mc ms a mL : Nat} {y : MethodName} {bts : ByteArray} {As rest st0 : List Value} {P : AW → Prop} (hd : decode b pc = .ok (.invokespecial idx, 3)) (hm : MOk (y, bts, mL, none) n) (hi : y.name = "<init>") (hins : Cond.instanceMethod y ∈ tblG) (hlk : Cond.methodLink own idx y ∈ tblG ∨ ∃ host, Cond.methodLinkNest own idx y host ∈ nestW) (hct : CtB B d' (y, bts, mL, none) mc ms (.ref a :: As) w P) (hdd : d' + 1 ≤ d) (hn : As.length = n) (hst : st0 = As.reverse ++ .ref a :: rest) (hw : (rest.map fun v => v.category).sum ≤ 8) (h1 : kc + mc ≤ bd.1) (h2 : ks + ms ≤ bd.2)
    (kk : ∀ w', P w' → Y B d own b nL C bd (pc + 3) L rest w' (kc + mc) (ks + ms)) : Y B d own b nL C bd pc L st0 w kc ks := by
  obtain ⟨p, e, R, s, m, args, below, meth, c, cs, Q⟩ := C
  intro ok H locs ls hP hD hS hl
  obtain ⟨⟨m1, m2, m3, m4, m5⟩⟩ := And.intro hm trivial
  obtain ⟨o1, o2, o3, o4, o5, o6, o7, o8, o9, o10, o11⟩ := id ok
  have hR : (rmB d' mc ms).frames + 1 ≤ R.frames ∧ 8 + (mL + 11) + (rmB d' mc ms).locals ≤ R.locals := ⟨by show d' + 1 ≤ _; omega, by show 8 + (_ + 11) + 35 * d' ≤ _; have : mL ≤ 16 := m5; omega⟩
  have hpre : PreS s H (va_Pc (.ref a :: As) (fun U => GdB B U ∧ B.2.2.2 ≤ U.heap.size ∧ va_P B.2.1 vwCl (wl w) U.heap ∧ va_D (bH B) (wl w))) (.ref a :: As) := ⟨GdB.bl, fun U hU hW => ⟨rfl, o6.to hW, by rw [hU]; exact Nat.le_trans o7 hS.1, by rw [hU]; exact hP, hD⟩⟩
  rcases hlk with hlk | ⟨host, hlk⟩
  · exact y_run ok hS hl (va_runI (As := As) (rest := rest) ⟨o1, o2, o3, o4, o5⟩ hct (cwI n o5 (goodIn_M m1) rfl rfl rfl (o5 _ m2) (o5 _ hlk) (o5 _ hins) hi ⟨m3.1, m3.2, m4⟩ hR) hpre rfl hn hl.1 hst (lv_room hw) hd ⟨by omega, by omega⟩) kk
  · exact y_run ok hS hl (va_runIN (As := As) (rest := rest) ⟨o1, o2, o3, o4, o5⟩ hct ⟨va_cnB n o5 (goodIn_M m1) rfl rfl rfl (o6.2.1 _ hlk) (o5 _ m2) ⟨m3.1, m3.2, m4⟩ hR, hi, o5 _ hins⟩ hpre rfl hn hl.1 hst (lv_room hw) hd ⟨by omega, by omega⟩) kk
end YR
theorem CtB.of {B : Bs} {d : Nat} {y : MethodName} {b : ByteArray} {nL mc ms : Nat} {args : List Value} {w : AW} {P : AW → Prop} {own : String} (L0 : List (Option Value)) (ho : y.cls = own) (hy : plainName own = true) (hin : y.name = "<init>") (hL : (lg_sl args).length ≤ nL) (hL0 : al 0 L0 = lv_args 0 args)
    (body : ∀ C : Cx, isInit C → (∀ (pc : Nat) (L : List (Option Value)) (w' : AW), decode b pc = .ok (.return_, 1) → P w' → Y B d own b nL C (mc, ms) pc L [] w' mc ms) → Y B d own b nL C (mc, ms) 0 L0 [] w 0 0) : CtB B d (y, b, nL, none) mc ms args w P := by
  subst ho
  unfold CtB
  refine Met.ofW (cc := b) (maxL := nL) (ret := none) hy rfl ?_
  intro p e s m args' below meth c s₁ Bd hml hv
  obtain ⟨rfl, hG, hh, hP0, hD0⟩ := hv
  have hts := atoms_spec (ws := wsM (y, b, nL, none)) Bd.pre
  have hr := Bd.returns
  have hlocks := Bd.notSynchronized
  rw [lg_entry_eq]
  refine body (p, e, rmB d mc ms, s, m, args.toArray, below, meth, c, (0, 0), _) ?_ ?_ ⟨Bd.exec, Bd.bytes, hml, findClass_of_methodNamed Bd.named, fun w hw => hts w (List.mem_cons_of_mem _ hw), hG, hh, Nat.le_refl _, Nat.le_refl _, Nat.le_refl _, Nat.le_refl _⟩ s.heap [] _ hP0 hD0 va_S.rf (lvH.of (lv_entry args hL) (fun i v hi => hL0 ▸ mem_al.mpr ⟨Nat.zero_le _, by simpa using hi⟩))
  · exact ((name_of_methodNamed Bd.named Bd.method).1).trans hin
  · intro pc L w' hd hp ok2 H locs ls hP hD hS hl
    exact W.vret ok2.1 ok2.2.1 hr (fun t ht hW => ⟨⟨rfl, w', hp, by rw [ht]; exact hP, hD⟩, hS.F ht⟩) hS.2.2 hd
theorem dv_X0 : ∀ j, j < 4 → defaultValue (tyX0 j) = vp_V ([.null, .null, .null, .int 0]) j := by
  intro j hj
  match j, hj with
  | 0, _ => rfl
  | 1, _ => rfl
  | 2, _ => rfl
  | 3, _ => rfl
  | k + 4, h => exact absurd h (by omega)
theorem dv_X1 : ∀ j, j < 9 → defaultValue (tyX1 j) = vp_V ([.null, .null, .null, .null, .int 0, .int 0, .int 0, .int 0, .int 0]) j := by
  intro j hj
  match j, hj with
  | 0, _ => rfl
  | 1, _ => rfl
  | 2, _ => rfl
  | 3, _ => rfl
  | 4, _ => rfl
  | 5, _ => rfl
  | 6, _ => rfl
  | 7, _ => rfl
  | 8, _ => rfl
  | k + 9, h => exact absurd h (by omega)
theorem dv_X2 : ∀ j, j < 3 → defaultValue (tyX2 j) = vp_V ([.int 0, .int 0, .int 0]) j := by
  intro j hj
  match j, hj with
  | 0, _ => rfl
  | 1, _ => rfl
  | 2, _ => rfl
  | k + 3, h => exact absurd h (by omega)
theorem dv_X3 : ∀ j, j < 3 → defaultValue (tyX3 j) = vp_V ([.null, .null, .int 0]) j := by
  intro j hj
  match j, hj with
  | 0, _ => rfl
  | 1, _ => rfl
  | 2, _ => rfl
  | k + 3, h => exact absurd h (by omega)
theorem dv_X4 : ∀ j, j < 4 → defaultValue (tyX4 j) = vp_V ([.null, .null, .null, .int 0]) j := by
  intro j hj
  match j, hj with
  | 0, _ => rfl
  | 1, _ => rfl
  | 2, _ => rfl
  | 3, _ => rfl
  | k + 4, h => exact absurd h (by omega)
theorem dv_X5 : ∀ j, j < 3 → defaultValue (tyX5 j) = vp_V ([.null, .null, .null]) j := by
  intro j hj
  match j, hj with
  | 0, _ => rfl
  | 1, _ => rfl
  | 2, _ => rfl
  | k + 3, h => exact absurd h (by omega)
theorem dv_X6 : ∀ j, j < 2 → defaultValue (tyX6 j) = vp_V ([.null, .int 0]) j := by
  intro j hj
  match j, hj with
  | 0, _ => rfl
  | 1, _ => rfl
  | k + 2, h => exact absurd h (by omega)
theorem dv_X7 : ∀ j, j < 3 → defaultValue (tyX7 j) = vp_V ([.null, .int 0, .int 0]) j := by
  intro j hj
  match j, hj with
  | 0, _ => rfl
  | 1, _ => rfl
  | 2, _ => rfl
  | k + 3, h => exact absurd h (by omega)
theorem dv_X8 : ∀ j, j < 13 → defaultValue (tyX8 j) = vp_V ([.null, .null, .null, .null, .null, .null, .null, .null, .null, .null, .null, .null, .long 0]) j := by
  intro j hj
  match j, hj with
  | 0, _ => rfl
  | 1, _ => rfl
  | 2, _ => rfl
  | 3, _ => rfl
  | 4, _ => rfl
  | 5, _ => rfl
  | 6, _ => rfl
  | 7, _ => rfl
  | 8, _ => rfl
  | 9, _ => rfl
  | 10, _ => rfl
  | 11, _ => rfl
  | 12, _ => rfl
  | k + 13, h => exact absurd h (by omega)
theorem dv_X9 : ∀ j, j < 35 → defaultValue (tyX9 j) = vp_V ([.int 0, .null, .int 0, .int 0, .int 0, .int 0, .null, .int 0, .null, .null, .int 0, .null, .int 0, .null, .int 0, .null, .null, .null, .null, .null, .int 0, .null, .null, .int 0, .null, .null, .long 0, .null, .null, .null, .int 0, .int 0, .int 0, .int 0, .null]) j := by
  intro j hj
  match j, hj with
  | 0, _ => rfl
  | 1, _ => rfl
  | 2, _ => rfl
  | 3, _ => rfl
  | 4, _ => rfl
  | 5, _ => rfl
  | 6, _ => rfl
  | 7, _ => rfl
  | 8, _ => rfl
  | 9, _ => rfl
  | 10, _ => rfl
  | 11, _ => rfl
  | 12, _ => rfl
  | 13, _ => rfl
  | 14, _ => rfl
  | 15, _ => rfl
  | 16, _ => rfl
  | 17, _ => rfl
  | 18, _ => rfl
  | 19, _ => rfl
  | 20, _ => rfl
  | 21, _ => rfl
  | 22, _ => rfl
  | 23, _ => rfl
  | 24, _ => rfl
  | 25, _ => rfl
  | 26, _ => rfl
  | 27, _ => rfl
  | 28, _ => rfl
  | 29, _ => rfl
  | 30, _ => rfl
  | 31, _ => rfl
  | 32, _ => rfl
  | 33, _ => rfl
  | 34, _ => rfl
  | k + 35, h => exact absurd h (by omega)
theorem gX6_9 : FF RX6 9 6 0 (.array .int) := ⟨RX6, TX6, 2, rfl, by decide, in_X6, List.mem_filter.mpr ⟨List.mem_of_getElem? (i := 70) (by decide +kernel), by decide +kernel⟩, ⟨tyX6, tyX6_ok⟩, nmX6, rfl, rfl, by decide +kernel⟩
theorem gX1_9 : FF RX1 9 1 0 (.array .int) := ⟨RX1, TX1, 9, rfl, by decide, in_X1, List.mem_filter.mpr ⟨List.mem_of_getElem? (i := 85) (by decide +kernel), by decide +kernel⟩, ⟨tyX1, tyX1_ok⟩, nmX1, rfl, rfl, by decide +kernel⟩
theorem gX1_15 : FF RX1 15 1 1 (.array .int) := ⟨RX1, TX1, 9, rfl, by decide, in_X1, List.mem_filter.mpr ⟨List.mem_of_getElem? (i := 88) (by decide +kernel), by decide +kernel⟩, ⟨tyX1, tyX1_ok⟩, nmX1, rfl, rfl, by decide +kernel⟩
theorem gX1_18 : FF RX1 18 1 2 (.array .int) := ⟨RX1, TX1, 9, rfl, by decide, in_X1, List.mem_filter.mpr ⟨List.mem_of_getElem? (i := 90) (by decide +kernel), by decide +kernel⟩, ⟨tyX1, tyX1_ok⟩, nmX1, rfl, rfl, by decide +kernel⟩
theorem gX1_21 : FF RX1 21 1 3 (.array .int) := ⟨RX1, TX1, 9, rfl, by decide, in_X1, List.mem_filter.mpr ⟨List.mem_of_getElem? (i := 92) (by decide +kernel), by decide +kernel⟩, ⟨tyX1, tyX1_ok⟩, nmX1, rfl, rfl, by decide +kernel⟩
theorem gX4_9 : FF RX4 9 4 1 (.array .int) := ⟨RX4, TX4, 4, rfl, by decide, in_X4, List.mem_filter.mpr ⟨List.mem_of_getElem? (i := 132) (by decide +kernel), by decide +kernel⟩, ⟨tyX4, tyX4_ok⟩, nmX4, rfl, rfl, by decide +kernel⟩
theorem gX4_15 : FF RX4 15 4 2 (.array .int) := ⟨RX4, TX4, 4, rfl, by decide, in_X4, List.mem_filter.mpr ⟨List.mem_of_getElem? (i := 134) (by decide +kernel), by decide +kernel⟩, ⟨tyX4, tyX4_ok⟩, nmX4, rfl, rfl, by decide +kernel⟩
theorem gX4_18 : FF RX4 18 4 0 (.object "WireFamily$House") := ⟨RX4, TX4, 4, rfl, by decide, in_X4, List.mem_filter.mpr ⟨List.mem_of_getElem? (i := 131) (by decide +kernel), by decide +kernel⟩, ⟨tyX4, tyX4_ok⟩, nmX4, rfl, rfl, by decide +kernel⟩
theorem gX0_9 : FF RX0 9 0 0 (.array .int) := ⟨RX0, TX0, 4, rfl, by decide, in_X0, List.mem_filter.mpr ⟨List.mem_of_getElem? (i := 155) (by decide +kernel), by decide +kernel⟩, ⟨tyX0, tyX0_ok⟩, nmX0, rfl, rfl, by decide +kernel⟩
theorem gX0_15 : FF RX0 15 0 1 (.array .int) := ⟨RX0, TX0, 4, rfl, by decide, in_X0, List.mem_filter.mpr ⟨List.mem_of_getElem? (i := 156) (by decide +kernel), by decide +kernel⟩, ⟨tyX0, tyX0_ok⟩, nmX0, rfl, rfl, by decide +kernel⟩
theorem gX0_18 : FF RX0 18 0 2 (.array .int) := ⟨RX0, TX0, 4, rfl, by decide, in_X0, List.mem_filter.mpr ⟨List.mem_of_getElem? (i := 157) (by decide +kernel), by decide +kernel⟩, ⟨tyX0, tyX0_ok⟩, nmX0, rfl, rfl, by decide +kernel⟩
theorem gX5_9 : FF RX5 9 5 1 (.array .int) := ⟨RX5, TX5, 3, rfl, by decide, in_X5, List.mem_filter.mpr ⟨List.mem_of_getElem? (i := 177) (by decide +kernel), by decide +kernel⟩, ⟨tyX5, tyX5_ok⟩, nmX5, rfl, rfl, by decide +kernel⟩
theorem gX5_15 : FF RX5 15 5 2 (.array .int) := ⟨RX5, TX5, 3, rfl, by decide, in_X5, List.mem_filter.mpr ⟨List.mem_of_getElem? (i := 178) (by decide +kernel), by decide +kernel⟩, ⟨tyX5, tyX5_ok⟩, nmX5, rfl, rfl, by decide +kernel⟩
theorem gX5_18 : FF RX5 18 5 0 (.object "WireFamily$House") := ⟨RX5, TX5, 3, rfl, by decide, in_X5, List.mem_filter.mpr ⟨List.mem_of_getElem? (i := 176) (by decide +kernel), by decide +kernel⟩, ⟨tyX5, tyX5_ok⟩, nmX5, rfl, rfl, by decide +kernel⟩
theorem gX3_9 : FF RX3 9 3 0 (.array .int) := ⟨RX3, TX3, 3, rfl, by decide, in_X3, List.mem_filter.mpr ⟨List.mem_of_getElem? (i := 192) (by decide +kernel), by decide +kernel⟩, ⟨tyX3, tyX3_ok⟩, nmX3, rfl, rfl, by decide +kernel⟩
theorem gX3_15 : FF RX3 15 3 1 (.array .int) := ⟨RX3, TX3, 3, rfl, by decide, in_X3, List.mem_filter.mpr ⟨List.mem_of_getElem? (i := 193) (by decide +kernel), by decide +kernel⟩, ⟨tyX3, tyX3_ok⟩, nmX3, rfl, rfl, by decide +kernel⟩
theorem gX7_9 : FF RX7 9 7 0 (.array .int) := ⟨RX7, TX7, 3, rfl, by decide, in_X7, List.mem_filter.mpr ⟨List.mem_of_getElem? (i := 209) (by decide +kernel), by decide +kernel⟩, ⟨tyX7, tyX7_ok⟩, nmX7, rfl, rfl, by decide +kernel⟩
theorem nX8_9 : NW RX8 9 6 2 ([.null, .int 0]) := ⟨RX6, TX6, tyX6, rfl, in_X6, tyX6_ok, dv_X6, List.mem_filter.mpr ⟨List.mem_of_getElem? (i := 64) (by decide +kernel), by decide +kernel⟩, List.mem_filter.mpr ⟨List.mem_of_getElem? (i := 65) (by decide +kernel), by decide +kernel⟩, List.mem_filter.mpr ⟨List.mem_of_getElem? (i := 43) (by decide +kernel), by decide +kernel⟩⟩
theorem gX8_12 : FF RX8 12 8 0 (.object "WireFamily$Text") := ⟨RX8, TX8, 13, rfl, by decide, in_X8, List.mem_filter.mpr ⟨List.mem_of_getElem? (i := 240) (by decide +kernel), by decide +kernel⟩, ⟨tyX8, tyX8_ok⟩, nmX8, rfl, rfl, by decide +kernel⟩
theorem nX8_16 : NW RX8 16 1 9 ([.null, .null, .null, .null, .int 0, .int 0, .int 0, .int 0, .int 0]) := ⟨RX1, TX1, tyX1, rfl, in_X1, tyX1_ok, dv_X1, List.mem_filter.mpr ⟨List.mem_of_getElem? (i := 79) (by decide +kernel), by decide +kernel⟩, List.mem_filter.mpr ⟨List.mem_of_getElem? (i := 80) (by decide +kernel), by decide +kernel⟩, List.mem_filter.mpr ⟨List.mem_of_getElem? (i := 44) (by decide +kernel), by decide +kernel⟩⟩
theorem gX8_19 : FF RX8 19 8 1 (.object "WireFamily$House") := ⟨RX8, TX8, 13, rfl, by decide, in_X8, List.mem_filter.mpr ⟨List.mem_of_getElem? (i := 241) (by decide +kernel), by decide +kernel⟩, ⟨tyX8, tyX8_ok⟩, nmX8, rfl, rfl, by decide +kernel⟩
theorem gX8_23 : FF RX8 23 8 2 (.object "WireFamily$House") := ⟨RX8, TX8, 13, rfl, by decide, in_X8, List.mem_filter.mpr ⟨List.mem_of_getElem? (i := 242) (by decide +kernel), by decide +kernel⟩, ⟨tyX8, tyX8_ok⟩, nmX8, rfl, rfl, by decide +kernel⟩
theorem nX8_26 : NW RX8 26 4 4 ([.null, .null, .null, .int 0]) := ⟨RX4, TX4, tyX4, rfl, in_X4, tyX4_ok, dv_X4, List.mem_filter.mpr ⟨List.mem_of_getElem? (i := 125) (by decide +kernel), by decide +kernel⟩, List.mem_filter.mpr ⟨List.mem_of_getElem? (i := 126) (by decide +kernel), by decide +kernel⟩, List.mem_filter.mpr ⟨List.mem_of_getElem? (i := 45) (by decide +kernel), by decide +kernel⟩⟩
theorem gX8_31 : FF RX8 31 8 3 (.object "WireFamily$Table") := ⟨RX8, TX8, 13, rfl, by decide, in_X8, List.mem_filter.mpr ⟨List.mem_of_getElem? (i := 243) (by decide +kernel), by decide +kernel⟩, ⟨tyX8, tyX8_ok⟩, nmX8, rfl, rfl, by decide +kernel⟩
theorem gX8_35 : FF RX8 35 8 4 (.object "WireFamily$Table") := ⟨RX8, TX8, 13, rfl, by decide, in_X8, List.mem_filter.mpr ⟨List.mem_of_getElem? (i := 244) (by decide +kernel), by decide +kernel⟩, ⟨tyX8, tyX8_ok⟩, nmX8, rfl, rfl, by decide +kernel⟩
theorem aX8_26 : Cond.classLink RX8 26 "WireFamily$Table" ∈ tblG := List.mem_filter.mpr ⟨List.mem_of_getElem? (i := 125) (by decide +kernel), by decide +kernel⟩
theorem gX8_38 : FF RX8 38 8 5 (.array (.object "WireFamily$Table")) := ⟨RX8, TX8, 13, rfl, by decide, in_X8, List.mem_filter.mpr ⟨List.mem_of_getElem? (i := 245) (by decide +kernel), by decide +kernel⟩, ⟨tyX8, tyX8_ok⟩, nmX8, rfl, rfl, by decide +kernel⟩
theorem gX8_42 : FF RX8 42 8 6 (.array .boolean) := ⟨RX8, TX8, 13, rfl, by decide, in_X8, List.mem_filter.mpr ⟨List.mem_of_getElem? (i := 246) (by decide +kernel), by decide +kernel⟩, ⟨tyX8, tyX8_ok⟩, nmX8, rfl, rfl, by decide +kernel⟩
theorem nX8_46 : NW RX8 46 0 4 ([.null, .null, .null, .int 0]) := ⟨RX0, TX0, tyX0, rfl, in_X0, tyX0_ok, dv_X0, List.mem_filter.mpr ⟨List.mem_of_getElem? (i := 149) (by decide +kernel), by decide +kernel⟩, List.mem_filter.mpr ⟨List.mem_of_getElem? (i := 150) (by decide +kernel), by decide +kernel⟩, List.mem_filter.mpr ⟨List.mem_of_getElem? (i := 46) (by decide +kernel), by decide +kernel⟩⟩
theorem gX8_49 : FF RX8 49 8 7 (.object "WireFamily$Acts") := ⟨RX8, TX8, 13, rfl, by decide, in_X8, List.mem_filter.mpr ⟨List.mem_of_getElem? (i := 247) (by decide +kernel), by decide +kernel⟩, ⟨tyX8, tyX8_ok⟩, nmX8, rfl, rfl, by decide +kernel⟩
theorem nX8_53 : NW RX8 53 5 3 ([.null, .null, .null]) := ⟨RX5, TX5, tyX5, rfl, in_X5, tyX5_ok, dv_X5, List.mem_filter.mpr ⟨List.mem_of_getElem? (i := 170) (by decide +kernel), by decide +kernel⟩, List.mem_filter.mpr ⟨List.mem_of_getElem? (i := 171) (by decide +kernel), by decide +kernel⟩, List.mem_filter.mpr ⟨List.mem_of_getElem? (i := 47) (by decide +kernel), by decide +kernel⟩⟩
theorem gX8_56 : FF RX8 56 8 8 (.object "WireFamily$Tally") := ⟨RX8, TX8, 13, rfl, by decide, in_X8, List.mem_filter.mpr ⟨List.mem_of_getElem? (i := 248) (by decide +kernel), by decide +kernel⟩, ⟨tyX8, tyX8_ok⟩, nmX8, rfl, rfl, by decide +kernel⟩
theorem nX8_60 : NW RX8 60 3 3 ([.null, .null, .int 0]) := ⟨RX3, TX3, tyX3, rfl, in_X3, tyX3_ok, dv_X3, List.mem_filter.mpr ⟨List.mem_of_getElem? (i := 186) (by decide +kernel), by decide +kernel⟩, List.mem_filter.mpr ⟨List.mem_of_getElem? (i := 187) (by decide +kernel), by decide +kernel⟩, List.mem_filter.mpr ⟨List.mem_of_getElem? (i := 48) (by decide +kernel), by decide +kernel⟩⟩
theorem gX8_63 : FF RX8 63 8 9 (.object "WireFamily$Seen") := ⟨RX8, TX8, 13, rfl, by decide, in_X8, List.mem_filter.mpr ⟨List.mem_of_getElem? (i := 249) (by decide +kernel), by decide +kernel⟩, ⟨tyX8, tyX8_ok⟩, nmX8, rfl, rfl, by decide +kernel⟩
theorem nX8_67 : NW RX8 67 7 3 ([.null, .int 0, .int 0]) := ⟨RX7, TX7, tyX7, rfl, in_X7, tyX7_ok, dv_X7, List.mem_filter.mpr ⟨List.mem_of_getElem? (i := 203) (by decide +kernel), by decide +kernel⟩, List.mem_filter.mpr ⟨List.mem_of_getElem? (i := 204) (by decide +kernel), by decide +kernel⟩, List.mem_filter.mpr ⟨List.mem_of_getElem? (i := 49) (by decide +kernel), by decide +kernel⟩⟩
theorem gX8_70 : FF RX8 70 8 10 (.object "WireFamily$Wires") := ⟨RX8, TX8, 13, rfl, by decide, in_X8, List.mem_filter.mpr ⟨List.mem_of_getElem? (i := 250) (by decide +kernel), by decide +kernel⟩, ⟨tyX8, tyX8_ok⟩, nmX8, rfl, rfl, by decide +kernel⟩
theorem nX8_74 : NW RX8 74 2 3 ([.int 0, .int 0, .int 0]) := ⟨RX2, TX2, tyX2, rfl, in_X2, tyX2_ok, dv_X2, List.mem_filter.mpr ⟨List.mem_of_getElem? (i := 221) (by decide +kernel), by decide +kernel⟩, List.mem_filter.mpr ⟨List.mem_of_getElem? (i := 222) (by decide +kernel), by decide +kernel⟩, List.mem_filter.mpr ⟨List.mem_of_getElem? (i := 50) (by decide +kernel), by decide +kernel⟩⟩
theorem gX8_77 : FF RX8 77 8 11 (.object "WireFamily$Pick") := ⟨RX8, TX8, 13, rfl, by decide, in_X8, List.mem_filter.mpr ⟨List.mem_of_getElem? (i := 251) (by decide +kernel), by decide +kernel⟩, ⟨tyX8, tyX8_ok⟩, nmX8, rfl, rfl, by decide +kernel⟩
theorem gX9_7 : FF RX9 7 9 1 (.array .int) := ⟨RX9, TX9, 35, rfl, by decide, in_X9, List.mem_filter.mpr ⟨List.mem_of_getElem? (i := 686) (by decide +kernel), by decide +kernel⟩, ⟨tyX9, tyX9_ok⟩, nmX9, rfl, rfl, by decide +kernel⟩
theorem gX9_13 : FF RX9 13 9 6 (.array .int) := ⟨RX9, TX9, 35, rfl, by decide, in_X9, List.mem_filter.mpr ⟨List.mem_of_getElem? (i := 691) (by decide +kernel), by decide +kernel⟩, ⟨tyX9, tyX9_ok⟩, nmX9, rfl, rfl, by decide +kernel⟩
theorem gX9_16 : FF RX9 16 9 8 (.array .int) := ⟨RX9, TX9, 35, rfl, by decide, in_X9, List.mem_filter.mpr ⟨List.mem_of_getElem? (i := 693) (by decide +kernel), by decide +kernel⟩, ⟨tyX9, tyX9_ok⟩, nmX9, rfl, rfl, by decide +kernel⟩
theorem gX9_19 : FF RX9 19 9 9 (.array .int) := ⟨RX9, TX9, 35, rfl, by decide, in_X9, List.mem_filter.mpr ⟨List.mem_of_getElem? (i := 694) (by decide +kernel), by decide +kernel⟩, ⟨tyX9, tyX9_ok⟩, nmX9, rfl, rfl, by decide +kernel⟩
theorem gX9_22 : FF RX9 22 9 11 (.array .int) := ⟨RX9, TX9, 35, rfl, by decide, in_X9, List.mem_filter.mpr ⟨List.mem_of_getElem? (i := 696) (by decide +kernel), by decide +kernel⟩, ⟨tyX9, tyX9_ok⟩, nmX9, rfl, rfl, by decide +kernel⟩
theorem gX9_25 : FF RX9 25 9 13 (.array .int) := ⟨RX9, TX9, 35, rfl, by decide, in_X9, List.mem_filter.mpr ⟨List.mem_of_getElem? (i := 698) (by decide +kernel), by decide +kernel⟩, ⟨tyX9, tyX9_ok⟩, nmX9, rfl, rfl, by decide +kernel⟩
theorem gX9_28 : FF RX9 28 9 15 (.array .int) := ⟨RX9, TX9, 35, rfl, by decide, in_X9, List.mem_filter.mpr ⟨List.mem_of_getElem? (i := 700) (by decide +kernel), by decide +kernel⟩, ⟨tyX9, tyX9_ok⟩, nmX9, rfl, rfl, by decide +kernel⟩
theorem gX9_31 : FF RX9 31 9 16 (.array .int) := ⟨RX9, TX9, 35, rfl, by decide, in_X9, List.mem_filter.mpr ⟨List.mem_of_getElem? (i := 701) (by decide +kernel), by decide +kernel⟩, ⟨tyX9, tyX9_ok⟩, nmX9, rfl, rfl, by decide +kernel⟩
theorem gX9_34 : FF RX9 34 9 17 (.array .int) := ⟨RX9, TX9, 35, rfl, by decide, in_X9, List.mem_filter.mpr ⟨List.mem_of_getElem? (i := 702) (by decide +kernel), by decide +kernel⟩, ⟨tyX9, tyX9_ok⟩, nmX9, rfl, rfl, by decide +kernel⟩
theorem gX9_37 : FF RX9 37 9 18 (.array .int) := ⟨RX9, TX9, 35, rfl, by decide, in_X9, List.mem_filter.mpr ⟨List.mem_of_getElem? (i := 703) (by decide +kernel), by decide +kernel⟩, ⟨tyX9, tyX9_ok⟩, nmX9, rfl, rfl, by decide +kernel⟩
theorem gX9_40 : FF RX9 40 9 19 (.array .int) := ⟨RX9, TX9, 35, rfl, by decide, in_X9, List.mem_filter.mpr ⟨List.mem_of_getElem? (i := 704) (by decide +kernel), by decide +kernel⟩, ⟨tyX9, tyX9_ok⟩, nmX9, rfl, rfl, by decide +kernel⟩
theorem gX9_43 : FF RX9 43 9 21 (.array .int) := ⟨RX9, TX9, 35, rfl, by decide, in_X9, List.mem_filter.mpr ⟨List.mem_of_getElem? (i := 706) (by decide +kernel), by decide +kernel⟩, ⟨tyX9, tyX9_ok⟩, nmX9, rfl, rfl, by decide +kernel⟩
theorem gX9_46 : FF RX9 46 9 22 (.array .boolean) := ⟨RX9, TX9, 35, rfl, by decide, in_X9, List.mem_filter.mpr ⟨List.mem_of_getElem? (i := 707) (by decide +kernel), by decide +kernel⟩, ⟨tyX9, tyX9_ok⟩, nmX9, rfl, rfl, by decide +kernel⟩
theorem gX9_50 : FF RX9 50 9 24 (.array .int) := ⟨RX9, TX9, 35, rfl, by decide, in_X9, List.mem_filter.mpr ⟨List.mem_of_getElem? (i := 709) (by decide +kernel), by decide +kernel⟩, ⟨tyX9, tyX9_ok⟩, nmX9, rfl, rfl, by decide +kernel⟩
theorem gX9_53 : FF RX9 53 9 25 (.array .int) := ⟨RX9, TX9, 35, rfl, by decide, in_X9, List.mem_filter.mpr ⟨List.mem_of_getElem? (i := 710) (by decide +kernel), by decide +kernel⟩, ⟨tyX9, tyX9_ok⟩, nmX9, rfl, rfl, by decide +kernel⟩
theorem gX9_56 : FF RX9 56 9 27 (.array .int) := ⟨RX9, TX9, 35, rfl, by decide, in_X9, List.mem_filter.mpr ⟨List.mem_of_getElem? (i := 712) (by decide +kernel), by decide +kernel⟩, ⟨tyX9, tyX9_ok⟩, nmX9, rfl, rfl, by decide +kernel⟩
theorem gX9_59 : FF RX9 59 9 28 (.array .int) := ⟨RX9, TX9, 35, rfl, by decide, in_X9, List.mem_filter.mpr ⟨List.mem_of_getElem? (i := 713) (by decide +kernel), by decide +kernel⟩, ⟨tyX9, tyX9_ok⟩, nmX9, rfl, rfl, by decide +kernel⟩
theorem gX9_62 : FF RX9 62 9 29 (.array .int) := ⟨RX9, TX9, 35, rfl, by decide, in_X9, List.mem_filter.mpr ⟨List.mem_of_getElem? (i := 714) (by decide +kernel), by decide +kernel⟩, ⟨tyX9, tyX9_ok⟩, nmX9, rfl, rfl, by decide +kernel⟩
theorem gX9_65 : FF RX9 65 9 34 (.array .int) := ⟨RX9, TX9, 35, rfl, by decide, in_X9, List.mem_filter.mpr ⟨List.mem_of_getElem? (i := 719) (by decide +kernel), by decide +kernel⟩, ⟨tyX9, tyX9_ok⟩, nmX9, rfl, rfl, by decide +kernel⟩
theorem nL_7 : NW RL 7 8 13 ([.null, .null, .null, .null, .null, .null, .null, .null, .null, .null, .null, .null, .long 0]) := ⟨RX8, TX8, tyX8, rfl, in_X8, tyX8_ok, dv_X8, List.mem_filter.mpr ⟨List.mem_of_getElem? (i := 56) (by decide +kernel), by decide +kernel⟩, List.mem_filter.mpr ⟨List.mem_of_getElem? (i := 57) (by decide +kernel), by decide +kernel⟩, List.mem_filter.mpr ⟨List.mem_of_getElem? (i := 42) (by decide +kernel), by decide +kernel⟩⟩
theorem nL_10 : NW RL 10 9 35 ([.int 0, .null, .int 0, .int 0, .int 0, .int 0, .null, .int 0, .null, .null, .int 0, .null, .int 0, .null, .int 0, .null, .null, .null, .null, .null, .int 0, .null, .null, .int 0, .null, .null, .long 0, .null, .null, .null, .int 0, .int 0, .int 0, .int 0, .null]) := ⟨RX9, TX9, tyX9, rfl, in_X9, tyX9_ok, dv_X9, List.mem_filter.mpr ⟨List.mem_of_getElem? (i := 679) (by decide +kernel), by decide +kernel⟩, List.mem_filter.mpr ⟨List.mem_of_getElem? (i := 680) (by decide +kernel), by decide +kernel⟩, List.mem_filter.mpr ⟨List.mem_of_getElem? (i := 51) (by decide +kernel), by decide +kernel⟩⟩
theorem ins_X6_init : Cond.instanceMethod yX6_init ∈ tblG := List.mem_filter.mpr ⟨List.mem_of_getElem? (i := 67) (by decide +kernel), by decide +kernel⟩
theorem ins_X1_init : Cond.instanceMethod yX1_init ∈ tblG := List.mem_filter.mpr ⟨List.mem_of_getElem? (i := 82) (by decide +kernel), by decide +kernel⟩
theorem ins_X4_init : Cond.instanceMethod yX4_init ∈ tblG := List.mem_filter.mpr ⟨List.mem_of_getElem? (i := 128) (by decide +kernel), by decide +kernel⟩
theorem ins_X0_init : Cond.instanceMethod yX0_init ∈ tblG := List.mem_filter.mpr ⟨List.mem_of_getElem? (i := 152) (by decide +kernel), by decide +kernel⟩
theorem ins_X5_init : Cond.instanceMethod yX5_init ∈ tblG := List.mem_filter.mpr ⟨List.mem_of_getElem? (i := 173) (by decide +kernel), by decide +kernel⟩
theorem ins_X3_init : Cond.instanceMethod yX3_init ∈ tblG := List.mem_filter.mpr ⟨List.mem_of_getElem? (i := 189) (by decide +kernel), by decide +kernel⟩
theorem ins_X7_init : Cond.instanceMethod yX7_init ∈ tblG := List.mem_filter.mpr ⟨List.mem_of_getElem? (i := 206) (by decide +kernel), by decide +kernel⟩
theorem ins_X2_init : Cond.instanceMethod yX2_init ∈ tblG := List.mem_filter.mpr ⟨List.mem_of_getElem? (i := 224) (by decide +kernel), by decide +kernel⟩
theorem ins_X8_init : Cond.instanceMethod yX8_init ∈ tblG := List.mem_filter.mpr ⟨List.mem_of_getElem? (i := 59) (by decide +kernel), by decide +kernel⟩
theorem ins_X9_init : Cond.instanceMethod yX9_init ∈ tblG := List.mem_filter.mpr ⟨List.mem_of_getElem? (i := 682) (by decide +kernel), by decide +kernel⟩
