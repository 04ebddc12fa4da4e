-- ===== the pure machine: one fixed layout of cells, a memory of numbers, rows that hide the heap =====
abbrev PM : Type := (Nat → Nat → Int32) × (Nat → Int64)
abbrev Ev : Type := Launch × (Nat → Nat) × (Nat → ClassId) × (Nat → Nat → Nat) × (ClassId × ClassId × ClassId) × Nat
def ad (E : Ev) (c : Nat) : Nat := E.2.1 c
def eD (E : Ev) : va_G := (E.2.2.1, E.2.2.2.1)
def cI (E : Ev) : ClassId := E.2.2.2.2.1.1
def cZ (E : Ev) : ClassId := E.2.2.2.2.1.2.1
def cT (E : Ev) : ClassId := E.2.2.2.2.1.2.2
def fa (E : Ev) : Nat := E.2.2.2.2.2
def sa (M : PM) (c : Nat) (f : Nat → Int32) : PM := (fun c' => if c' = c then f else M.1 c', M.2)
def sl (M : PM) (c : Nat) (v : Int64) : PM := (M.1, fun c' => if c' = c then v else M.2 c')
def cK : Nat := 60
def lay (c : Nat) : (Nat × Nat) ⊕ (Nat × List (Nat ⊕ Bool)) := match c with
  | 0 => .inr (8, [.inl 1, .inl 3, .inl 8, .inl 13, .inl 16, .inl 19, .inl 26, .inl 27, .inl 31, .inl 34, .inl 37, .inl 39, .inr true])
  | 1 => .inr (6, [.inl 2, .inr false])
  | 2 => .inl (0, 56)
  | 3 => .inr (1, [.inl 4, .inl 5, .inl 6, .inl 7, .inr false, .inr false, .inr false, .inr false, .inr false])
  | 4 => .inl (0, 5)
  | 5 => .inl (0, 25)
  | 6 => .inl (0, 4)
  | 7 => .inl (0, 4)
  | 8 => .inr (1, [.inl 9, .inl 10, .inl 11, .inl 12, .inr false, .inr false, .inr false, .inr false, .inr false])
  | 9 => .inl (0, 5)
  | 10 => .inl (0, 25)
  | 11 => .inl (0, 4)
  | 12 => .inl (0, 4)
  | 13 => .inr (4, [.inl 3, .inl 14, .inl 15, .inr false])
  | 14 => .inl (0, 25)
  | 15 => .inl (0, 5)
  | 16 => .inr (4, [.inl 3, .inl 17, .inl 18, .inr false])
  | 17 => .inl (0, 25)
  | 18 => .inl (0, 5)
  | 19 => .inl (2, 2)
  | 20 => .inr (4, [.inl 3, .inl 21, .inl 22, .inr false])
  | 21 => .inl (0, 25)
  | 22 => .inl (0, 5)
  | 23 => .inr (4, [.inl 3, .inl 24, .inl 25, .inr false])
  | 24 => .inl (0, 25)
  | 25 => .inl (0, 5)
  | 26 => .inl (1, 2)
  | 27 => .inr (0, [.inl 28, .inl 29, .inl 30, .inr false])
  | 28 => .inl (0, 14)
  | 29 => .inl (0, 14)
  | 30 => .inl (0, 14)
  | 31 => .inr (5, [.inl 3, .inl 32, .inl 33])
  | 32 => .inl (0, 10)
  | 33 => .inl (0, 40)
  | 34 => .inr (3, [.inl 35, .inl 36, .inr false])
  | 35 => .inl (0, 6)
  | 36 => .inl (0, 6)
  | 37 => .inr (7, [.inl 38, .inr false, .inr false])
  | 38 => .inl (0, 5)
  | 39 => .inr (2, [.inr false, .inr false, .inr false])
  | 40 => .inr (9, [.inr false, .inl 41, .inr false, .inr false, .inr false, .inr false, .inl 42, .inr false, .inl 43, .inl 44, .inr false, .inl 45, .inr false, .inl 46, .inr false, .inl 47, .inl 48, .inl 49, .inl 50, .inl 51, .inr false, .inl 52, .inl 53, .inr false, .inl 54, .inl 55, .inr true, .inl 56, .inl 57, .inl 58, .inr false, .inr false, .inr false, .inr false, .inl 59])
  | 41 => .inl (0, 56)
  | 42 => .inl (0, 5)
  | 43 => .inl (0, 4)
  | 44 => .inl (0, 4)
  | 45 => .inl (0, 25)
  | 46 => .inl (0, 5)
  | 47 => .inl (0, 4)
  | 48 => .inl (0, 4)
  | 49 => .inl (0, 31)
  | 50 => .inl (0, 31)
  | 51 => .inl (0, 434)
  | 52 => .inl (0, 62)
  | 53 => .inl (1, 2)
  | 54 => .inl (0, 6)
  | 55 => .inl (0, 6)
  | 56 => .inl (0, 5)
  | 57 => .inl (0, 5)
  | 58 => .inl (0, 5)
  | 59 => .inl (0, 32)
  | _ => .inl (0, 0)
def fv (E : Ev) (M : PM) (c k : Nat) (q : Nat ⊕ Bool) : Value := match q with
  | .inl r => .ref (ad E r)
  | .inr false => .int (M.1 c k)
  | .inr true => .long (M.2 c)
def fvs (E : Ev) (M : PM) (c : Nat) : Nat → List (Nat ⊕ Bool) → List Value
  | _, [] => []
  | k, q :: t => fv E M c k q :: fvs E M c (k + 1) t
def ce (E : Ev) (M : PM) (c : Nat) : va_E := match lay c with
  | .inl (0, n) => .inl (cI E, n, .inl (M.1 c))
  | .inl (1, n) => .inl (cZ E, n, .inl (M.1 c))
  | .inl (_, n) => .inl (cT E, n, .inr (.inr (.inr (.inr (fun i => some (ad E (20 + 3 * i)))))))
  | .inr (ci, fs) => .inr (ci, fvs E M c 0 fs)
theorem ce_i {E : Ev} {M : PM} {c n : Nat} (h : lay c = .inl (0, n)) : ce E M c = .inl (cI E, n, .inl (M.1 c)) := by
  simp only [ce, h]
theorem ce_z {E : Ev} {M : PM} {c n : Nat} (h : lay c = .inl (1, n)) : ce E M c = .inl (cZ E, n, .inl (M.1 c)) := by
  simp only [ce, h]
theorem ce_o {E : Ev} {M : PM} {c ci : Nat} {fs : List (Nat ⊕ Bool)} (h : lay c = .inr (ci, fs)) : ce E M c = .inr (ci, fvs E M c 0 fs) := by
  simp only [ce, h]
def ws (E : Ev) (M : PM) : va_W := (List.range cK).map (fun c => (ad E c, ce E M c))
theorem ws_at {E : Ev} {M : PM} {c : Nat} (h : c < cK) : (ws E M)[c]? = some (ad E c, ce E M c) := by
  simp [ws, h]
theorem ce_congr {E : Ev} {M N : PM} {c : Nat} (h1 : M.1 c = N.1 c) (h2 : M.2 c = N.2 c) : ce E M c = ce E N c := by
  have hf : ∀ (fs : List (Nat ⊕ Bool)) (k : Nat), fvs E M c k fs = fvs E N c k fs := by
    intro fs
    induction fs with
    | nil => intro k; rfl
    | cons q t ih =>
      intro k
      show fv E M c k q :: fvs E M c (k + 1) t = fv E N c k q :: fvs E N c (k + 1) t
      rw [ih (k + 1)]
      congr 1
      unfold fv
      split <;> simp [h1, h2]
  unfold ce
  split <;> simp [h1, hf]
theorem ws_set {E : Ev} {M N : PM} {c : Nat} (h : ∀ c', c' ≠ c → M.1 c' = N.1 c' ∧ M.2 c' = N.2 c') : (ws E M).set c (ad E c, ce E N c) = ws E N := by
  apply List.ext_getElem?
  intro i
  by_cases hc : i = c
  · subst hc
    by_cases hl : i < cK
    · rw [List.getElem?_set_self (by simpa [ws] using hl), ws_at hl]
    · rw [List.getElem?_eq_none (by simpa [ws] using hl), List.getElem?_eq_none (by simpa [ws] using hl)]
  · rw [List.getElem?_set_ne (Ne.symm hc)]
    by_cases hl : i < cK
    · rw [ws_at hl, ws_at hl, ce_congr (h i hc).1 (h i hc).2]
    · rw [List.getElem?_eq_none (by simpa [ws] using hl), List.getElem?_eq_none (by simpa [ws] using hl)]
theorem sa_1 {M : PM} {c : Nat} {f : Nat → Int32} : (sa M c f).1 c = f := by simp [sa]
theorem sa_ne {M : PM} {c c' : Nat} {f : Nat → Int32} (h : c' ≠ c) : (sa M c f).1 c' = M.1 c' := by simp [sa, h]
theorem sa_2 {M : PM} {c : Nat} {f : Nat → Int32} : (sa M c f).2 = M.2 := rfl
theorem sl_1 {M : PM} {c : Nat} {v : Int64} : (sl M c v).1 = M.1 := rfl
theorem sl_2 {M : PM} {c : Nat} {v : Int64} : (sl M c v).2 c = v := by simp [sl]
theorem ws_sa {E : Ev} {M : PM} {c : Nat} {f : Nat → Int32} : (ws E M).set c (ad E c, ce E (sa M c f) c) = ws E (sa M c f) :=
  ws_set fun c' h => ⟨(sa_ne h).symm, rfl⟩
theorem ws_sl {E : Ev} {M : PM} {c : Nat} {v : Int64} : (ws E M).set c (ad E c, ce E (sl M c v) c) = ws E (sl M c v) :=
  ws_set fun c' h => ⟨rfl, by simp [sl, h]⟩
theorem fvs_at {E : Ev} {M : PM} {c : Nat} (fs : List (Nat ⊕ Bool)) (j i : Nat) {q : Nat ⊕ Bool} (h : fs[i]? = some q) : (fvs E M c j fs)[i]? = some (fv E M c (j + i) q) := by
  induction fs generalizing i j with
  | nil => simp at h
  | cons a t ih =>
    cases i with
    | zero => simp at h; subst h; simp [fvs]
    | succ i =>
      simp at h
      have := ih (j + 1) i h
      simp only [fvs, List.getElem?_cons_succ, this]
      rw [show j + 1 + i = j + (i + 1) by omega]
theorem fvs_len {E : Ev} {M : PM} {c : Nat} (fs : List (Nat ⊕ Bool)) (j : Nat) : (fvs E M c j fs).length = fs.length := by
  induction fs generalizing j with
  | nil => rfl
  | cons a t ih => simp [fvs, ih]
theorem fvs_put {E : Ev} {M : PM} {c : Nat} (fs : List (Nat ⊕ Bool)) (j i : Nat) {v : Int32} (h : fs[i]? = some (.inr false)) : (fvs E M c j fs).set i (.int v) = fvs E (sa M c (upd (M.1 c) (j + i) v)) c j fs := by
  have hk : ∀ (fs : List (Nat ⊕ Bool)) (j k : Nat), k < j → fvs E (sa M c (upd (M.1 c) k v)) c j fs = fvs E M c j fs := by
    intro fs
    induction fs with
    | nil => intro j k _; rfl
    | cons q t ih =>
      intro j k hj
      show fv _ _ _ _ _ :: _ = fv _ _ _ _ _ :: _
      rw [ih (j + 1) k (by omega)]
      congr 1
      unfold fv
      split
      · rfl
      · rw [sa_1]; (try simp [upd]); (try (intro h; omega))
      · rfl
  induction fs generalizing i j with
  | nil => simp at h
  | cons a t ih =>
    cases i with
    | zero =>
      simp at h; subst h
      show Value.int v :: _ = fv _ _ _ _ _ :: _
      rw [hk t (j + 1) (j + 0) (by omega)]
      congr 1
      unfold fv
      simp [sa_1, upd]
    | succ i =>
      simp at h
      show fv _ _ _ _ _ :: _ = fv _ _ _ _ _ :: _
      rw [ih (j + 1) i h, show j + 1 + i = j + (i + 1) by omega]
      congr 1
      unfold fv
      split
      · rfl
      · rw [sa_1]; (try simp [upd]); (try (intro h; omega))
      · rfl
theorem fvs_putl {E : Ev} {M : PM} {c : Nat} (fs : List (Nat ⊕ Bool)) (j i : Nat) {v : Int64} (h : fs[i]? = some (Sum.inr true)) (h1 : ∀ k : Nat, fs[k]? = some (Sum.inr true) → k = i) : (fvs E M c j fs).set i (.long v) = fvs E (sl M c v) c j fs := by
  have hk : ∀ (fs : List (Nat ⊕ Bool)) (j : Nat), (∀ k : Nat, fs[k]? ≠ some (Sum.inr true)) → fvs E (sl M c v) c j fs = fvs E M c j fs := by
    intro fs
    induction fs with
    | nil => intro j _; rfl
    | cons q t ih =>
      intro j hn
      show fv _ _ _ _ _ :: _ = fv _ _ _ _ _ :: _
      rw [ih (j + 1) (fun k hk => hn (k + 1) (by simpa using hk))]
      congr 1
      have hq := hn 0
      simp at hq
      unfold fv
      split
      · rfl
      · rfl
      · exact absurd rfl hq
  induction fs generalizing i j with
  | nil => simp at h
  | cons a t ih =>
    cases i with
    | zero =>
      simp at h; subst h
      show Value.long v :: _ = fv _ _ _ _ _ :: _
      rw [hk t (j + 1) (fun k hk => by have := h1 (k + 1) (by simpa using hk); omega)]
      congr 1
      unfold fv
      simp [sl]
    | succ i =>
      simp at h
      show fv _ _ _ _ _ :: _ = fv _ _ _ _ _ :: _
      rw [ih (j + 1) i h (fun k hk => by have := h1 (k + 1) (by simpa using hk); omega)]
      congr 1
      have hq : a ≠ .inr true := fun e => by have := h1 0 (by simp [e]); omega
      unfold fv
      split
      · rfl
      · rfl
      · exact absurd rfl hq
-- ===== what holds around a method =====
def isNest : Cond → Bool
  | .fieldLinkNest .. => true
  | .methodLinkNest .. => true
  | _ => false
def nestW : List Cond := tables_1.filter isNest
def tblG : List Cond := lw_tbl.filter goodWord
theorem tblG_good : ∀ w ∈ tblG, (w.onTables && w.keeps) = true ∨ ∃ ty, w = .arrayClass ty := fun _ h => good_of_word (List.mem_filter.mp h).2
def wA (E : Ev) : Nat → Prop := fun q => ∃ c, c < cK ∧ q = ad E c
def tysE (E : Ev) : List (ClassId × FieldType) := [(cI E, .int), (cZ E, .boolean), (cT E, .object "WireFamily$Table")]
def facF (j : Nat) : Value := .int ((#[1, 1, 2, 6, 24, 120] : Array Int32).getD j 0)
def Gd (E : Ev) (U : State) : Prop := va_K (eD E) vwCl (tysE E) U ∧ (∀ w ∈ nestW, va_Nw w U) ∧ va_Z "WireFamily" "FACTORIAL" "[I" (.ref (fa E)) (wA E) U U.heap ∧ va_T .int (fa E) 6 facF (wA E) U U.heap
def Ap (E : Ev) : Prop := ∀ i j, i < cK → j < cK → ad E i = ad E j → i = j
def Wd (E : Ev) (M : PM) (U : State) : Prop := Ap E ∧ Gd E U ∧ va_P (eD E) vwCl (ws E M) U.heap
theorem Ap.D {E : Ev} (h : Ap E) (M : PM) : va_D (wA E) (ws E M) := by
  have key : ∀ (k : Nat) (q : Nat × va_E), (ws E M)[k]? = some q → k < cK ∧ q.1 = ad E k := by
    intro k q hq
    have hk : k < cK := by
      have := (List.getElem?_eq_some_iff.mp hq).1
      simpa [ws] using this
    rw [ws_at hk] at hq
    cases hq
    exact ⟨hk, rfl⟩
  refine ⟨fun i j p q hi hj hpq => ?_, fun k q hq => ?_⟩
  · obtain ⟨a1, a2⟩ := key i p hi
    obtain ⟨b1, b2⟩ := key j q hj
    exact h i j a1 b1 (by rw [← a2, ← b2]; exact hpq)
  · obtain ⟨a1, a2⟩ := key k q hq
    exact ⟨k, a1, a2⟩
theorem nest_moved {s U : State} (hW : s.WarmedH U.vm) (h : ∀ w ∈ nestW, va_Nw w s) : ∀ w ∈ nestW, va_Nw w U := by
  intro w hw
  have h1 := h w hw
  have h2 := (List.mem_filter.mp hw).2
  cases w <;> first | (simp [isNest] at h2; done) | exact va_Nw.warmF hW h1 | exact va_Nw.warmM hW h1
theorem nest_same {s U : State} (hv : s.vm = U.vm) (h : ∀ w ∈ nestW, va_Nw w s) : ∀ w ∈ nestW, va_Nw w U := by
  intro w hw
  have h1 := h w hw
  have h2 := (List.mem_filter.mp hw).2
  cases w <;> first | (simp [isNest] at h2; done) | exact va_Nw.same rfl hv h1
theorem Gd.to {E : Ev} {s U : State} (h : Gd E s) (hW : s.WarmedH U.vm) (hk : ∀ a : Nat, a < s.heap.size → ¬ wA E a → U.heap[a]? = s.heap[a]?) : Gd E U := by
  obtain ⟨h1, h2, h3, h4⟩ := h
  refine ⟨va_K.moved hW.alike h1, nest_moved hW h2, (h3.kept hk).moved hW.alike, (h4.kept hk).moved hW.alike⟩
theorem Gd.blind {E : Ev} {U V : State} (h : Gd E U) (hv : V.vm = U.vm) (hh : V.heap = U.heap) : Gd E V := by
  obtain ⟨h1, h2, h3, h4⟩ := h
  have ha : U.vm.Alike V.vm := by rw [hv]; exact Vm.Alike.refl U.vm
  refine ⟨va_K.moved ha h1, nest_same hv.symm h2, ?_, ?_⟩
  · rw [hh]; exact h3.moved ha
  · rw [hh]; exact h4.moved ha
-- ===== locals =====
def lvH (ls : Array Slot) (nL : Nat) (L : List (Option Value)) : Prop := ls.size = nL ∧ lv_wf ls ∧ ∀ (i : Nat) (v : Value), L[i]? = some (some v) → ls[i]? = some (.val v)
def al : Nat → List (Option Value) → List (Nat × Value)
  | _, [] => []
  | k, none :: t => al (k + 1) t
  | k, some v :: t => (k, v) :: al (k + 1) t
theorem mem_al {L : List (Option Value)} {k i : Nat} {v : Value} : (i, v) ∈ al k L ↔ k ≤ i ∧ L[i - k]? = some (some v) := by
  induction L generalizing k with
  | nil => simp [al]
  | cons a t ih =>
    have key : (k + 1 ≤ i ∧ t[i - (k + 1)]? = some (some v)) ↔ (k < i ∧ (a :: t)[i - k]? = some (some v)) := by
      constructor
      · rintro ⟨h1, h2⟩
        refine ⟨h1, ?_⟩
        rw [show i - k = (i - (k + 1)) + 1 by omega, List.getElem?_cons_succ]
        exact h2
      · rintro ⟨h1, h2⟩
        refine ⟨h1, ?_⟩
        rw [show i - k = (i - (k + 1)) + 1 by omega, List.getElem?_cons_succ] at h2
        exact h2
    cases a with
    | none =>
      show (i, v) ∈ al (k + 1) t ↔ _
      rw [ih, key]
      constructor
      · rintro ⟨h1, h2⟩; exact ⟨by omega, h2⟩
      · rintro ⟨h1, h2⟩
        refine ⟨?_, h2⟩
        rcases Nat.lt_or_ge k i with h | h
        · exact h
        · have : i = k := by omega
          subst this
          simp at h2
    | some w =>
      show (i, v) ∈ (k, w) :: al (k + 1) t ↔ _
      rw [List.mem_cons, ih, key]
      constructor
      · rintro (h | ⟨h1, h2⟩)
        · cases h; simp
        · exact ⟨by omega, h2⟩
      · rintro ⟨h1, h2⟩
        rcases Nat.lt_or_ge k i with h | h
        · exact Or.inr ⟨h, h2⟩
        · have : i = k := by omega
          subst this
          simp at h2
          exact Or.inl (by rw [h2])
theorem lvH.has {ls : Array Slot} {nL : Nat} {L : List (Option Value)} (h : lvH ls nL L) : lv_has ls nL (al 0 L) := by
  refine ⟨h.1, h.2.1, fun q hq => ?_⟩
  obtain ⟨i, v⟩ := q
  exact h.2.2 i v (by simpa using (mem_al.mp hq).2)
theorem lvH.of {ls : Array Slot} {nL : Nat} {l : List (Nat × Value)} {L : List (Option Value)} (h : lv_has ls nL l) (hL : ∀ (i : Nat) (v : Value), L[i]? = some (some v) → (i, v) ∈ l) : lvH ls nL L :=
  ⟨h.1, h.2.1, fun i v hi => h.2.2 (i, v) (hL i v hi)⟩
def nl : Option Value → Bool
  | some (.long _) => false
  | some (.double _) => false
  | _ => true
theorem nl_cat {v : Value} (h : nl (some v) = true) : v.category ≠ 2 := by
  cases v <;> simp_all [nl, Value.category]
def nlAt (L : List (Option Value)) : Nat → Bool
  | 0 => true
  | i + 1 => match L[i]? with
    | some a => nl a
    | none => true
theorem st_mem {L : List (Option Value)} {i : Nat} {v : Value} (hn : nlAt L i = true) : ∀ (j : Nat) (w : Value), (L.set i (some v))[j]? = some (some w) → (j, w) ∈ (i, v) :: (al 0 L).filter (fun q => !(q.1 == i) && !(q.1 + 1 == i && q.2.category == 2)) := by
  intro j w hj
  by_cases hji : j = i
  · subst hji
    have hl : j < L.length := by
      have := (List.getElem?_eq_some_iff.mp hj).1
      simpa using this
    rw [List.getElem?_set_self hl] at hj
    cases hj
    exact List.mem_cons_self
  · rw [List.getElem?_set_ne (Ne.symm hji)] at hj
    refine List.mem_cons_of_mem _ (List.mem_filter.mpr ⟨mem_al.mpr ⟨Nat.zero_le _, by simpa using hj⟩, ?_⟩)
    have h1 : ¬ (j + 1 = i ∧ w.category = 2) := by
      rintro ⟨e, hc⟩
      subst e
      simp only [nlAt, hj] at hn
      exact nl_cat hn hc
    simp [hji]
    by_cases e : j + 1 = i
    · exact Or.inr (fun hc => h1 ⟨e, hc⟩)
    · exact Or.inl e
theorem st_mem2 {L : List (Option Value)} {i : Nat} {v : Value} (hn : nlAt L i = true) : ∀ (j : Nat) (w : Value), ((L.set i (some v)).set (i + 1) none)[j]? = some (some w) → (j, w) ∈ (i, v) :: (al 0 L).filter (fun q => !(q.1 == i) && (!(q.1 == i + 1) && !(q.1 + 1 == i && q.2.category == 2))) := by
  intro j w hj
  have hj1 : j ≠ i + 1 := by
    rintro rfl
    have hl : i + 1 < (L.set i (some v)).length := by
      have := (List.getElem?_eq_some_iff.mp hj).1
      simpa using this
    rw [List.getElem?_set_self hl] at hj
    cases hj
  rw [List.getElem?_set_ne (Ne.symm hj1)] at hj
  have h0 := st_mem hn j w hj
  rcases List.mem_cons.mp h0 with h | h
  · exact List.mem_cons.mpr (Or.inl h)
  · obtain ⟨a, b⟩ := List.mem_filter.mp h
    refine List.mem_cons_of_mem _ (List.mem_filter.mpr ⟨a, ?_⟩)
    simp at b ⊢
    exact ⟨b.1, hj1, b.2⟩
-- ===== the judgement X =====
abbrev Cx : Type := Program × Env × Room × State × MethodId × Array Value × List Frame × Method × Code × (Nat × Nat) × (State → Prop)
def Ok (E : Ev) (d : Nat) (own : String) (b : ByteArray) (nL : Nat) : Cx → Prop
  | (p, _, R, s, m, args, _, _, c, cs, _) => p.tables.exec = Jvm.exec ∧ c.code = b ∧ c.maxLocals = nL ∧ s.vm.findClass own = some m.cls ∧ (∀ w ∈ tblG, w.before args s = true) ∧ Ap E ∧ Gd E s ∧ d ≤ R.frames ∧ 35 * d ≤ R.locals ∧ cs.1 ≤ R.cells ∧ cs.2 ≤ R.slots
def X (E : Ev) (d : Nat) (own : String) (b : ByteArray) (nL : Nat) (C : Cx) (pc : Nat) (L : List (Option Value)) (st : List Value) (M : PM) : Prop := Ok E d own b nL C → match C with
  | (p, e, R, s, m, args, below, meth, c, cs, Q) => ∀ (H : Heap) (locs : List Loc) (ls : Array Slot), va_P (eD E) vwCl (ws E M) H → va_S (wA E) s.heap H locs → lvH ls nL L → W p E.1 e R s m args below meth c H locs cs.1 cs.2 Q (F0 m pc ls st)
abbrev MI : Type := MethodName × ByteArray × Nat × Option FieldType
def rmD (d : Nat) : Room := { frames := d, cells := 0, slots := 0, locals := 35 * d }
def wsM (m : MI) : List Cond := Cond.code m.1 m.2.1 m.2.2.1 m.2.2.2 :: tblG
/-- the contract of a method at depth d: from a world with memory M it returns, with an answer and a memory that satisfy P -/
def Ct (E : Ev) (d : Nat) (m : MI) (args : List Value) (M : PM) (P : Option Value → PM → Prop) : Prop :=
  Met E.1 m.1 (wsM m) (rmD d) (va_Pc args (fun U => Wd E M U)) (fun _ st o t => (∃ (r : Option Value) (N : PM), o = .returned r ∧ P r N ∧ va_P (eD E) vwCl (ws E N) t.heap) ∧ va_F (wA E) st t) 0 0 (wA E)
def Ci (E : Ev) (d : Nat) (m : MI) (args : List Value) (M : PM) (P : Int32 → PM → Prop) : Prop := Ct E d m args M (fun r N => ∃ v, r = some (.int v) ∧ P v N)
def Cv (E : Ev) (d : Nat) (m : MI) (args : List Value) (M : PM) (P : PM → Prop) : Prop := Ct E d m args M (fun r N => r = none ∧ P N)
def Cl (E : Ev) (d : Nat) (m : MI) (args : List Value) (M : PM) (P : Int64 → PM → Prop) : Prop := Ct E d m args M (fun r N => ∃ v, r = some (.long v) ∧ P v N)
def Cr (E : Ev) (d : Nat) (m : MI) (args : List Value) (M : PM) (P : Nat → PM → Prop) : Prop := Ct E d m args M (fun r N => ∃ c, r = some (.ref (ad E c)) ∧ P c N)
section XR
variable {E : Ev} {d : Nat} {own : String} {b : ByteArray} {nL : Nat} {C : Cx} {pc : Nat} {L : List (Option Value)} {st : List Value} {M : PM}

theorem x_iconst {n : Int} {v : Int32} (hd : decode b pc = .ok (.iconst n, 1)) (hv : Int32.ofInt n = v) (kk : X E d own b nL C (pc + 1) L (.int v :: st) M) : X E d own b nL C pc L (st) M := by
  obtain ⟨p, e, R, s, m, args, below, meth, c, cs, Q⟩ := C
  intro ok H locs ls hP hS hl
  exact lv_iconst ok.1 ok.2.1 hd hv (kk ok H locs ls hP hS hl)
theorem x_bipush {n : Int} {v : Int32} (hd : decode b pc = .ok (.bipush n, 2)) (hv : (Int8.ofInt n).toInt32 = v) (kk : X E d own b nL C (pc + 2) L (.int v :: st) M) : X E d own b nL C pc L (st) M := by
  obtain ⟨p, e, R, s, m, args, below, meth, c, cs, Q⟩ := C
  intro ok H locs ls hP hS hl
  exact lv_bipush ok.1 ok.2.1 hd hv (kk ok H locs ls hP hS hl)
theorem x_sipush {n : Int} {v : Int32} (hd : decode b pc = .ok (.sipush n, 3)) (hv : (Int16.ofInt n).toInt32 = v) (kk : X E d own b nL C (pc + 3) L (.int v :: st) M) : X E d own b nL C pc L (st) M := by
  obtain ⟨p, e, R, s, m, args, below, meth, c, cs, Q⟩ := C
  intro ok H locs ls hP hS hl
  exact lv_sipush ok.1 ok.2.1 hd hv (kk ok H locs ls hP hS hl)
theorem x_lconst {n : Fin 2} {v : Int64} (hd : decode b pc = .ok (.lconst n, 1)) (hv : Int64.ofNat (n : Nat) = v) (kk : X E d own b nL C (pc + 1) L (.long v :: st) M) : X E d own b nL C pc L (st) M := by
  obtain ⟨p, e, R, s, m, args, below, meth, c, cs, Q⟩ := C
  intro ok H locs ls hP hS hl
  exact lv_lconst ok.1 ok.2.1 hd hv (kk ok H locs ls hP hS hl)
theorem x_iload_n {k : Fin 4} {i : Nat} {x : Int32} (hd : decode b pc = .ok (.iload_n k, 1)) (hi : (k : Nat) = i) (hv : L[i]? = some (some (.int x))) (kk : X E d own b nL C (pc + 1) L (.int x :: st) M) : X E d own b nL C pc L (st) M := by
  obtain ⟨p, e, R, s, m, args, below, meth, c, cs, Q⟩ := C
  intro ok H locs ls hP hS hl
  exact lv_iload_n ok.1 ok.2.1 hd hi (hl.2.2 _ _ hv) (kk ok H locs ls hP hS hl)
theorem x_iload {i : Nat} {x : Int32} (hd : decode b pc = .ok (.iload i, 2)) (hv : L[i]? = some (some (.int x))) (kk : X E d own b nL C (pc + 2) L (.int x :: st) M) : X E d own b nL C pc L (st) M := by
  obtain ⟨p, e, R, s, m, args, below, meth, c, cs, Q⟩ := C
  intro ok H locs ls hP hS hl
  exact lv_iload ok.1 ok.2.1 hd (hl.2.2 _ _ hv) (kk ok H locs ls hP hS hl)
theorem x_lload_n {k : Fin 4} {i : Nat} {x : Int64} (hd : decode b pc = .ok (.lload_n k, 1)) (hi : (k : Nat) = i) (hv : L[i]? = some (some (.long x))) (kk : X E d own b nL C (pc + 1) L (.long x :: st) M) : X E d own b nL C pc L (st) M := by
  obtain ⟨p, e, R, s, m, args, below, meth, c, cs, Q⟩ := C
  intro ok H locs ls hP hS hl
  exact lv_lload_n ok.1 ok.2.1 hd hi (hl.2.2 _ _ hv) (kk ok H locs ls hP hS hl)
theorem x_lload {i : Nat} {x : Int64} (hd : decode b pc = .ok (.lload i, 2)) (hv : L[i]? = some (some (.long x))) (kk : X E d own b nL C (pc + 2) L (.long x :: st) M) : X E d own b nL C pc L (st) M := by
  obtain ⟨p, e, R, s, m, args, below, meth, c, cs, Q⟩ := C
  intro ok H locs ls hP hS hl
  exact lv_lload ok.1 ok.2.1 hd (hl.2.2 _ _ hv) (kk ok H locs ls hP hS hl)
theorem x_aload_n {k : Fin 4} {i x : Nat} (hd : decode b pc = .ok (.aload_n k, 1)) (hi : (k : Nat) = i) (hv : L[i]? = some (some (.ref x))) (kk : X E d own b nL C (pc + 1) L (.ref x :: st) M) : X E d own b nL C pc L (st) M := by
  obtain ⟨p, e, R, s, m, args, below, meth, c, cs, Q⟩ := C
  intro ok H locs ls hP hS hl
  exact lv_aload_n ok.1 ok.2.1 hd hi (hl.2.2 _ _ hv) (kk ok H locs ls hP hS hl)
theorem x_aload {i x : Nat} (hd : decode b pc = .ok (.aload i, 2)) (hv : L[i]? = some (some (.ref x))) (kk : X E d own b nL C (pc + 2) L (.ref x :: st) M) : X E d own b nL C pc L (st) M := by
  obtain ⟨p, e, R, s, m, args, below, meth, c, cs, Q⟩ := C
  intro ok H locs ls hP hS hl
  exact lv_aload ok.1 ok.2.1 hd (hl.2.2 _ _ hv) (kk ok H locs ls hP hS hl)
theorem x_iadd {x y : Int32} (hd : decode b pc = .ok (.iadd, 1)) (kk : X E d own b nL C (pc + 1) L (.int (x + y) :: st) M) : X E d own b nL C pc L (.int y :: .int x :: st) M := by
  obtain ⟨p, e, R, s, m, args, below, meth, c, cs, Q⟩ := C
  intro ok H locs ls hP hS hl
  exact lv_iadd ok.1 ok.2.1 hd (kk ok H locs ls hP hS hl)
theorem x_isub {x y : Int32} (hd : decode b pc = .ok (.isub, 1)) (kk : X E d own b nL C (pc + 1) L (.int (x - y) :: st) M) : X E d own b nL C pc L (.int y :: .int x :: st) M := by
  obtain ⟨p, e, R, s, m, args, below, meth, c, cs, Q⟩ := C
  intro ok H locs ls hP hS hl
  exact lv_isub ok.1 ok.2.1 hd (kk ok H locs ls hP hS hl)
theorem x_imul {x y : Int32} (hd : decode b pc = .ok (.imul, 1)) (kk : X E d own b nL C (pc + 1) L (.int (x * y) :: st) M) : X E d own b nL C pc L (.int y :: .int x :: st) M := by
  obtain ⟨p, e, R, s, m, args, below, meth, c, cs, Q⟩ := C
  intro ok H locs ls hP hS hl
  exact lv_imul ok.1 ok.2.1 hd (kk ok H locs ls hP hS hl)
theorem x_iand {x y : Int32} (hd : decode b pc = .ok (.iand, 1)) (kk : X E d own b nL C (pc + 1) L (.int (x &&& y) :: st) M) : X E d own b nL C pc L (.int y :: .int x :: st) M := by
  obtain ⟨p, e, R, s, m, args, below, meth, c, cs, Q⟩ := C
  intro ok H locs ls hP hS hl
  exact lv_iand ok.1 ok.2.1 hd (kk ok H locs ls hP hS hl)
theorem x_ior {x y : Int32} (hd : decode b pc = .ok (.ior, 1)) (kk : X E d own b nL C (pc + 1) L (.int (x ||| y) :: st) M) : X E d own b nL C pc L (.int y :: .int x :: st) M := by
  obtain ⟨p, e, R, s, m, args, below, meth, c, cs, Q⟩ := C
  intro ok H locs ls hP hS hl
  exact lv_ior ok.1 ok.2.1 hd (kk ok H locs ls hP hS hl)
theorem x_ishl {x y : Int32} (hd : decode b pc = .ok (.ishl, 1)) (kk : X E d own b nL C (pc + 1) L (.int (x <<< (y &&& 31)) :: st) M) : X E d own b nL C pc L (.int y :: .int x :: st) M := by
  obtain ⟨p, e, R, s, m, args, below, meth, c, cs, Q⟩ := C
  intro ok H locs ls hP hS hl
  exact lv_ishl ok.1 ok.2.1 hd (kk ok H locs ls hP hS hl)
theorem x_ishr {x y : Int32} (hd : decode b pc = .ok (.ishr, 1)) (kk : X E d own b nL C (pc + 1) L (.int (x >>> (y &&& 31)) :: st) M) : X E d own b nL C pc L (.int y :: .int x :: st) M := by
  obtain ⟨p, e, R, s, m, args, below, meth, c, cs, Q⟩ := C
  intro ok H locs ls hP hS hl
  exact lv_ishr ok.1 ok.2.1 hd (kk ok H locs ls hP hS hl)
theorem x_idiv {x y : Int32} (hd : decode b pc = .ok (.idiv, 1)) (hne : ¬ y = 0) (kk : X E d own b nL C (pc + 1) L (.int (x / y) :: st) M) : X E d own b nL C pc L (.int y :: .int x :: st) M := by
  obtain ⟨p, e, R, s, m, args, below, meth, c, cs, Q⟩ := C
  intro ok H locs ls hP hS hl
  exact lv_idiv ok.1 ok.2.1 hd hne (kk ok H locs ls hP hS hl)
theorem x_irem {x y : Int32} (hd : decode b pc = .ok (.irem, 1)) (hne : ¬ y = 0) (kk : X E d own b nL C (pc + 1) L (.int (x % y) :: st) M) : X E d own b nL C pc L (.int y :: .int x :: st) M := by
  rw [← irem_eq_mod] at kk
  obtain ⟨p, e, R, s, m, args, below, meth, c, cs, Q⟩ := C
  intro ok H locs ls hP hS hl
  exact lv_irem ok.1 ok.2.1 hd hne (kk ok H locs ls hP hS hl)
theorem x_ineg {x : Int32} (hd : decode b pc = .ok (.ineg, 1)) (kk : X E d own b nL C (pc + 1) L (.int (-x) :: st) M) : X E d own b nL C pc L (.int x :: st) M := by
  obtain ⟨p, e, R, s, m, args, below, meth, c, cs, Q⟩ := C
  intro ok H locs ls hP hS hl
  exact lv_ineg ok.1 ok.2.1 hd (kk ok H locs ls hP hS hl)
theorem x_iushr {x y : Int32} (hd : decode b pc = .ok (.iushr, 1)) (kk : X E d own b nL C (pc + 1) L (.int (x.toUInt32 >>> (y.toUInt32 &&& Int32.toUInt32 31)).toInt32 :: st) M) : X E d own b nL C pc L (.int y :: .int x :: st) M := by
  obtain ⟨p, e, R, s, m, args, below, meth, c, cs, Q⟩ := C
  intro ok H locs ls hP hS hl
  exact lv_iushr ok.1 ok.2.1 hd rfl (kk ok H locs ls hP hS hl)
theorem x_i2l {x : Int32} (hd : decode b pc = .ok (.i2l, 1)) (kk : X E d own b nL C (pc + 1) L (.long x.toInt64 :: st) M) : X E d own b nL C pc L (.int x :: st) M := by
  obtain ⟨p, e, R, s, m, args, below, meth, c, cs, Q⟩ := C
  intro ok H locs ls hP hS hl
  exact lv_i2l ok.1 ok.2.1 hd rfl (kk ok H locs ls hP hS hl)
theorem x_l2i {x : Int64} (hd : decode b pc = .ok (.l2i, 1)) (kk : X E d own b nL C (pc + 1) L (.int x.toInt32 :: st) M) : X E d own b nL C pc L (.long x :: st) M := by
  obtain ⟨p, e, R, s, m, args, below, meth, c, cs, Q⟩ := C
  intro ok H locs ls hP hS hl
  exact lv_l2i ok.1 ok.2.1 hd rfl (kk ok H locs ls hP hS hl)
theorem x_ladd {x y : Int64} (hd : decode b pc = .ok (.ladd, 1)) (kk : X E d own b nL C (pc + 1) L (.long (x + y) :: st) M) : X E d own b nL C pc L (.long y :: .long x :: st) M := by
  obtain ⟨p, e, R, s, m, args, below, meth, c, cs, Q⟩ := C
  intro ok H locs ls hP hS hl
  exact lv_ladd ok.1 ok.2.1 hd (kk ok H locs ls hP hS hl)
theorem x_lmul {x y : Int64} (hd : decode b pc = .ok (.lmul, 1)) (kk : X E d own b nL C (pc + 1) L (.long (x * y) :: st) M) : X E d own b nL C pc L (.long y :: .long x :: st) M := by
  obtain ⟨p, e, R, s, m, args, below, meth, c, cs, Q⟩ := C
  intro ok H locs ls hP hS hl
  exact lv_lmul ok.1 ok.2.1 hd (kk ok H locs ls hP hS hl)
theorem x_land {x y : Int64} (hd : decode b pc = .ok (.land, 1)) (kk : X E d own b nL C (pc + 1) L (.long (x &&& y) :: st) M) : X E d own b nL C pc L (.long y :: .long x :: st) M := by
  obtain ⟨p, e, R, s, m, args, below, meth, c, cs, Q⟩ := C
  intro ok H locs ls hP hS hl
  exact lv_land ok.1 ok.2.1 hd (kk ok H locs ls hP hS hl)
theorem x_lor {x y : Int64} (hd : decode b pc = .ok (.lor, 1)) (kk : X E d own b nL C (pc + 1) L (.long (x ||| y) :: st) M) : X E d own b nL C pc L (.long y :: .long x :: st) M := by
  obtain ⟨p, e, R, s, m, args, below, meth, c, cs, Q⟩ := C
  intro ok H locs ls hP hS hl
  exact lv_lor ok.1 ok.2.1 hd (kk ok H locs ls hP hS hl)
theorem x_lrem {x y : Int64} (hd : decode b pc = .ok (.lrem, 1)) (hne : ¬ y = 0) (kk : X E d own b nL C (pc + 1) L (.long (x - x / y * y) :: st) M) : X E d own b nL C pc L (.long y :: .long x :: st) M := by
  obtain ⟨p, e, R, s, m, args, below, meth, c, cs, Q⟩ := C
  intro ok H locs ls hP hS hl
  exact lv_lrem ok.1 ok.2.1 hd hne (kk ok H locs ls hP hS hl)
theorem x_lushr {x : Int64} {y : Int32} (hd : decode b pc = .ok (.lushr, 1)) (kk : X E d own b nL C (pc + 1) L (.long (x.toUInt64 >>> (y.toInt64.toUInt64 &&& Int64.toUInt64 63)).toInt64 :: st) M) : X E d own b nL C pc L (.int y :: .long x :: st) M := by
  obtain ⟨p, e, R, s, m, args, below, meth, c, cs, Q⟩ := C
  intro ok H locs ls hP hS hl
  exact lv_lushr ok.1 ok.2.1 hd rfl (kk ok H locs ls hP hS hl)
theorem x_lshl {x : Int64} {y : Int32} (hd : decode b pc = .ok (.lshl, 1)) (kk : X E d own b nL C (pc + 1) L (.long (x <<< (y.toInt64 &&& 63)) :: st) M) : X E d own b nL C pc L (.int y :: .long x :: st) M := by
  obtain ⟨p, e, R, s, m, args, below, meth, c, cs, Q⟩ := C
  intro ok H locs ls hP hS hl
  exact lv_lshl ok.1 ok.2.1 hd rfl (kk ok H locs ls hP hS hl)
theorem x_lcmp {x y : Int64} (hd : decode b pc = .ok (.lcmp, 1)) (kk : X E d own b nL C (pc + 1) L (.int (lg_cmp x y) :: st) M) : X E d own b nL C pc L (.long y :: .long x :: st) M := by
  obtain ⟨p, e, R, s, m, args, below, meth, c, cs, Q⟩ := C
  intro ok H locs ls hP hS hl
  exact W.lcmp ok.1 ok.2.1 hd (kk ok H locs ls hP hS hl)
theorem x_dup {v : Value} (hd : decode b pc = .ok (.dup, 1)) (hv : v.category = 1) (kk : X E d own b nL C (pc + 1) L (v :: v :: st) M) : X E d own b nL C pc L (v :: st) M := by
  obtain ⟨p, e, R, s, m, args, below, meth, c, cs, Q⟩ := C
  intro ok H locs ls hP hS hl
  exact lv_dup ok.1 ok.2.1 hd hv (kk ok H locs ls hP hS hl)
theorem x_pop {v : Value} (hd : decode b pc = .ok (.pop, 1)) (hv : v.category = 1) (kk : X E d own b nL C (pc + 1) L (st) M) : X E d own b nL C pc L (v :: st) M := by
  obtain ⟨p, e, R, s, m, args, below, meth, c, cs, Q⟩ := C
  intro ok H locs ls hP hS hl
  exact lv_pop ok.1 ok.2.1 hd hv (kk ok H locs ls hP hS hl)
theorem x_dup2 {v w : Value} (hd : decode b pc = .ok (.dup2, 1)) (hv : v.category = 1) (hw : w.category = 1) (kk : X E d own b nL C (pc + 1) L (v :: w :: v :: w :: st) M) : X E d own b nL C pc L (v :: w :: st) M := by
  obtain ⟨p, e, R, s, m, args, below, meth, c, cs, Q⟩ := C
  intro ok H locs ls hP hS hl
  exact lv_dup2_11 ok.1 ok.2.1 hd hv hw (kk ok H locs ls hP hS hl)
theorem x_dup2l {v : Value} (hd : decode b pc = .ok (.dup2, 1)) (hv : v.category = 2) (kk : X E d own b nL C (pc + 1) L (v :: v :: st) M) : X E d own b nL C pc L (v :: st) M := by
  obtain ⟨p, e, R, s, m, args, below, meth, c, cs, Q⟩ := C
  intro ok H locs ls hP hS hl
  exact lv_dup2_2 ok.1 ok.2.1 hd hv (kk ok H locs ls hP hS hl)
theorem x_goto {off : Int} {tgt : Nat} (hd : decode b pc = .ok (.goto off, 3)) (ht : (pc : Int) + off = (tgt : Int)) (kk : X E d own b nL C tgt L st M) : X E d own b nL C pc L st M := by
  obtain ⟨p, e, R, s, m, args, below, meth, c, cs, Q⟩ := C
  intro ok H locs ls hP hS hl
  exact lv_goto ok.1 ok.2.1 hd ht (kk ok H locs ls hP hS hl)
theorem x_if_eq {x : Int32} {off : Int} {tgt : Nat} (hd : decode b pc = .ok (.ifCond .eq off, 3)) (ht : (pc : Int) + off = (tgt : Int)) (kt : x = 0 → X E d own b nL C tgt L st M) (kf : ¬ x = 0 → X E d own b nL C (pc + 3) L st M) : X E d own b nL C pc L (.int x :: st) M := by
  obtain ⟨p, e, R, s, m, args, below, meth, c, cs, Q⟩ := C
  intro ok H locs ls hP hS hl
  exact lv_if_eq ok.1 ok.2.1 hd ht (fun q => kt q ok H locs ls hP hS hl) (fun q => kf q ok H locs ls hP hS hl)
theorem x_icmp_eq {x y : Int32} {off : Int} {tgt : Nat} (hd : decode b pc = .ok (.if_icmp .eq off, 3)) (ht : (pc : Int) + off = (tgt : Int)) (kt : x = y → X E d own b nL C tgt L st M) (kf : ¬ x = y → X E d own b nL C (pc + 3) L st M) : X E d own b nL C pc L (.int y :: .int x :: st) M := by
  obtain ⟨p, e, R, s, m, args, below, meth, c, cs, Q⟩ := C
  intro ok H locs ls hP hS hl
  exact lv_icmp_eq ok.1 ok.2.1 hd ht (fun q => kt q ok H locs ls hP hS hl) (fun q => kf q ok H locs ls hP hS hl)
theorem x_if_ne {x : Int32} {off : Int} {tgt : Nat} (hd : decode b pc = .ok (.ifCond .ne off, 3)) (ht : (pc : Int) + off = (tgt : Int)) (kt : ¬ x = 0 → X E d own b nL C tgt L st M) (kf : x = 0 → X E d own b nL C (pc + 3) L st M) : X E d own b nL C pc L (.int x :: st) M := by
  obtain ⟨p, e, R, s, m, args, below, meth, c, cs, Q⟩ := C
  intro ok H locs ls hP hS hl
  exact lv_if_ne ok.1 ok.2.1 hd ht (fun q => kt q ok H locs ls hP hS hl) (fun q => kf q ok H locs ls hP hS hl)
theorem x_icmp_ne {x y : Int32} {off : Int} {tgt : Nat} (hd : decode b pc = .ok (.if_icmp .ne off, 3)) (ht : (pc : Int) + off = (tgt : Int)) (kt : ¬ x = y → X E d own b nL C tgt L st M) (kf : x = y → X E d own b nL C (pc + 3) L st M) : X E d own b nL C pc L (.int y :: .int x :: st) M := by
  obtain ⟨p, e, R, s, m, args, below, meth, c, cs, Q⟩ := C
  intro ok H locs ls hP hS hl
  exact lv_icmp_ne ok.1 ok.2.1 hd ht (fun q => kt q ok H locs ls hP hS hl) (fun q => kf q ok H locs ls hP hS hl)
theorem x_if_lt {x : Int32} {off : Int} {tgt : Nat} (hd : decode b pc = .ok (.ifCond .lt off, 3)) (ht : (pc : Int) + off = (tgt : Int)) (kt : x < 0 → X E d own b nL C tgt L st M) (kf : ¬ x < 0 → X E d own b nL C (pc + 3) L st M) : X E d own b nL C pc L (.int x :: st) M := by
  obtain ⟨p, e, R, s, m, args, below, meth, c, cs, Q⟩ := C
  intro ok H locs ls hP hS hl
  exact lv_if_lt ok.1 ok.2.1 hd ht (fun q => kt q ok H locs ls hP hS hl) (fun q => kf q ok H locs ls hP hS hl)
theorem x_icmp_lt {x y : Int32} {off : Int} {tgt : Nat} (hd : decode b pc = .ok (.if_icmp .lt off, 3)) (ht : (pc : Int) + off = (tgt : Int)) (kt : x < y → X E d own b nL C tgt L st M) (kf : ¬ x < y → X E d own b nL C (pc + 3) L st M) : X E d own b nL C pc L (.int y :: .int x :: st) M := by
  obtain ⟨p, e, R, s, m, args, below, meth, c, cs, Q⟩ := C
  intro ok H locs ls hP hS hl
  exact lv_icmp_lt ok.1 ok.2.1 hd ht (fun q => kt q ok H locs ls hP hS hl) (fun q => kf q ok H locs ls hP hS hl)
theorem x_if_ge {x : Int32} {off : Int} {tgt : Nat} (hd : decode b pc = .ok (.ifCond .ge off, 3)) (ht : (pc : Int) + off = (tgt : Int)) (kt : 0 ≤ x → X E d own b nL C tgt L st M) (kf : ¬ 0 ≤ x → X E d own b nL C (pc + 3) L st M) : X E d own b nL C pc L (.int x :: st) M := by
  obtain ⟨p, e, R, s, m, args, below, meth, c, cs, Q⟩ := C
  intro ok H locs ls hP hS hl
  exact lv_if_ge ok.1 ok.2.1 hd ht (fun q => kt q ok H locs ls hP hS hl) (fun q => kf q ok H locs ls hP hS hl)
theorem x_icmp_ge {x y : Int32} {off : Int} {tgt : Nat} (hd : decode b pc = .ok (.if_icmp .ge off, 3)) (ht : (pc : Int) + off = (tgt : Int)) (kt : y ≤ x → X E d own b nL C tgt L st M) (kf : ¬ y ≤ x → X E d own b nL C (pc + 3) L st M) : X E d own b nL C pc L (.int y :: .int x :: st) M := by
  obtain ⟨p, e, R, s, m, args, below, meth, c, cs, Q⟩ := C
  intro ok H locs ls hP hS hl
  exact lv_icmp_ge ok.1 ok.2.1 hd ht (fun q => kt q ok H locs ls hP hS hl) (fun q => kf q ok H locs ls hP hS hl)
theorem x_if_gt {x : Int32} {off : Int} {tgt : Nat} (hd : decode b pc = .ok (.ifCond .gt off, 3)) (ht : (pc : Int) + off = (tgt : Int)) (kt : 0 < x → X E d own b nL C tgt L st M) (kf : ¬ 0 < x → X E d own b nL C (pc + 3) L st M) : X E d own b nL C pc L (.int x :: st) M := by
  obtain ⟨p, e, R, s, m, args, below, meth, c, cs, Q⟩ := C
  intro ok H locs ls hP hS hl
  exact lv_if_gt ok.1 ok.2.1 hd ht (fun q => kt q ok H locs ls hP hS hl) (fun q => kf q ok H locs ls hP hS hl)
theorem x_icmp_gt {x y : Int32} {off : Int} {tgt : Nat} (hd : decode b pc = .ok (.if_icmp .gt off, 3)) (ht : (pc : Int) + off = (tgt : Int)) (kt : y < x → X E d own b nL C tgt L st M) (kf : ¬ y < x → X E d own b nL C (pc + 3) L st M) : X E d own b nL C pc L (.int y :: .int x :: st) M := by
  obtain ⟨p, e, R, s, m, args, below, meth, c, cs, Q⟩ := C
  intro ok H locs ls hP hS hl
  exact lv_icmp_gt ok.1 ok.2.1 hd ht (fun q => kt q ok H locs ls hP hS hl) (fun q => kf q ok H locs ls hP hS hl)
theorem x_if_le {x : Int32} {off : Int} {tgt : Nat} (hd : decode b pc = .ok (.ifCond .le off, 3)) (ht : (pc : Int) + off = (tgt : Int)) (kt : x ≤ 0 → X E d own b nL C tgt L st M) (kf : ¬ x ≤ 0 → X E d own b nL C (pc + 3) L st M) : X E d own b nL C pc L (.int x :: st) M := by
  obtain ⟨p, e, R, s, m, args, below, meth, c, cs, Q⟩ := C
  intro ok H locs ls hP hS hl
  exact lv_if_le ok.1 ok.2.1 hd ht (fun q => kt q ok H locs ls hP hS hl) (fun q => kf q ok H locs ls hP hS hl)
theorem x_icmp_le {x y : Int32} {off : Int} {tgt : Nat} (hd : decode b pc = .ok (.if_icmp .le off, 3)) (ht : (pc : Int) + off = (tgt : Int)) (kt : x ≤ y → X E d own b nL C tgt L st M) (kf : ¬ x ≤ y → X E d own b nL C (pc + 3) L st M) : X E d own b nL C pc L (.int y :: .int x :: st) M := by
  obtain ⟨p, e, R, s, m, args, below, meth, c, cs, Q⟩ := C
  intro ok H locs ls hP hS hl
  exact lv_icmp_le ok.1 ok.2.1 hd ht (fun q => kt q ok H locs ls hP hS hl) (fun q => kf q ok H locs ls hP hS hl)
theorem x_tableOut {dflt lo hi : Int} {offs : Array Int} {len : Nat} {x : Int32} {tgt : Nat} (hd : decode b pc = .ok (.tableswitch dflt lo hi offs, len)) (h : x.toInt < lo ∨ hi < x.toInt) (ht : (pc : Int) + dflt = (tgt : Int)) (kk : X E d own b nL C tgt L st M) : X E d own b nL C pc L (.int x :: st) M := by
  obtain ⟨p, e, R, s, m, args, below, meth, c, cs, Q⟩ := C
  intro ok H locs ls hP hS hl
  exact lv_tableOut ok.1 ok.2.1 hd h ht (kk ok H locs ls hP hS hl)
theorem x_tableIn {dflt lo hi : Int} {offs : Array Int} {len : Nat} {x : Int32} {off : Int} {tgt : Nat} (hd : decode b pc = .ok (.tableswitch dflt lo hi offs, len)) (h1 : ¬ x.toInt < lo) (h2 : ¬ hi < x.toInt) (ho : offs[(x.toInt - lo).toNat]? = some off) (ht : (pc : Int) + off = (tgt : Int)) (kk : X E d own b nL C tgt L st M) : X E d own b nL C pc L (.int x :: st) M := by
  obtain ⟨p, e, R, s, m, args, below, meth, c, cs, Q⟩ := C
  intro ok H locs ls hP hS hl
  exact lv_tableIn ok.1 ok.2.1 hd h1 h2 ho ht (kk ok H locs ls hP hS hl)
theorem x_lookup {dflt : Int} {ps : Array (Int × Int)} {len : Nat} {x : Int32} {off : Int} {tgt : Nat} (hd : decode b pc = .ok (.lookupswitch dflt ps, len)) (hp : (ps.toList.zip (ps.toList.drop 1)).all (fun (a, next) => a.1 < next.1) = true) (ho : Op.lookupswitch.offset ps.toList dflt x.toInt = off) (ht : (pc : Int) + off = (tgt : Int)) (kk : X E d own b nL C tgt L st M) : X E d own b nL C pc L (.int x :: st) M := by
  obtain ⟨p, e, R, s, m, args, below, meth, c, cs, Q⟩ := C
  intro ok H locs ls hP hS hl
  exact lv_lookup ok.1 ok.2.1 hd hp ho ht (kk ok H locs ls hP hS hl)
theorem x_ldc2 {index : Nat} {v : Int64} (hd : decode b pc = .ok (.ldc2_w index, 3)) (hc : Cond.constantLong own index v ∈ tblG) (kk : X E d own b nL C (pc + 3) L (.long v :: st) M) : X E d own b nL C pc L st M := by
  obtain ⟨p, e, R, s, m, args, below, meth, c, cs, Q⟩ := C
  intro ok H locs ls hP hS hl
  exact lv_ldc2 ok.1 ok.2.1 ok.2.2.2.1 (ok.2.2.2.2.1 _ hc) hd (kk ok H locs ls hP hS hl)
theorem x_ldcw {index : Nat} {v : Int32} (hd : decode b pc = .ok (.ldc_w index, 3)) (hc : Cond.constant own index v ∈ tblG) (kk : X E d own b nL C (pc + 3) L (.int v :: st) M) : X E d own b nL C pc L st M := by
  obtain ⟨p, e, R, s, m, args, below, meth, c, cs, Q⟩ := C
  intro ok H locs ls hP hS hl
  exact lv_ldcw ok.1 ok.2.1 ok.2.2.2.1 (ok.2.2.2.2.1 _ hc) hd (kk ok H locs ls hP hS hl)
theorem x_istore {i : Nat} {v : Int32} (hd : decode b pc = .ok (.istore i, 2)) (hn : nlAt L i = true) (hb : i < nL) (kk : X E d own b nL C (pc + 2) (L.set i (some (.int v))) st M) : X E d own b nL C pc L (.int v :: st) M := by
  obtain ⟨p, e, R, s, m, args, below, meth, c, cs, Q⟩ := C
  intro ok H locs ls hP hS hl
  exact lv_istore ok.1 ok.2.1 hd hl.has hb rfl (fun ls' hl' => kk ok H locs ls' hP hS (lvH.of hl' (st_mem hn)))
theorem x_istore_n {k : Fin 4} {i : Nat} {v : Int32} (hd : decode b pc = .ok (.istore_n k, 1)) (hi : (k : Nat) = i) (hn : nlAt L i = true) (hb : i < nL) (kk : X E d own b nL C (pc + 1) (L.set i (some (.int v))) st M) : X E d own b nL C pc L (.int v :: st) M := by
  obtain ⟨p, e, R, s, m, args, below, meth, c, cs, Q⟩ := C
  intro ok H locs ls hP hS hl
  exact lv_istore_n ok.1 ok.2.1 hd hi hl.has hb rfl (fun ls' hl' => kk ok H locs ls' hP hS (lvH.of hl' (st_mem hn)))
theorem x_astore {i : Nat} {v : Nat} (hd : decode b pc = .ok (.astore i, 2)) (hn : nlAt L i = true) (hb : i < nL) (kk : X E d own b nL C (pc + 2) (L.set i (some (.ref v))) st M) : X E d own b nL C pc L (.ref v :: st) M := by
  obtain ⟨p, e, R, s, m, args, below, meth, c, cs, Q⟩ := C
  intro ok H locs ls hP hS hl
  exact lv_astore ok.1 ok.2.1 hd hl.has hb rfl (fun ls' hl' => kk ok H locs ls' hP hS (lvH.of hl' (st_mem hn)))
theorem x_astore_n {k : Fin 4} {i : Nat} {v : Nat} (hd : decode b pc = .ok (.astore_n k, 1)) (hi : (k : Nat) = i) (hn : nlAt L i = true) (hb : i < nL) (kk : X E d own b nL C (pc + 1) (L.set i (some (.ref v))) st M) : X E d own b nL C pc L (.ref v :: st) M := by
  obtain ⟨p, e, R, s, m, args, below, meth, c, cs, Q⟩ := C
  intro ok H locs ls hP hS hl
  exact lv_astore_n ok.1 ok.2.1 hd hi hl.has hb rfl (fun ls' hl' => kk ok H locs ls' hP hS (lvH.of hl' (st_mem hn)))
theorem x_lstore {i : Nat} {v : Int64} (hd : decode b pc = .ok (.lstore i, 2)) (hn : nlAt L i = true) (hb : i + 1 < nL) (kk : X E d own b nL C (pc + 2) ((L.set i (some (.long v))).set (i + 1) none) st M) : X E d own b nL C pc L (.long v :: st) M := by
  obtain ⟨p, e, R, s, m, args, below, meth, c, cs, Q⟩ := C
  intro ok H locs ls hP hS hl
  exact lv_lstore ok.1 ok.2.1 hd hl.has hb rfl (fun ls' hl' => kk ok H locs ls' hP hS (lvH.of hl' (st_mem2 hn)))
theorem x_lstore_n {k : Fin 4} {i : Nat} {v : Int64} (hd : decode b pc = .ok (.lstore_n k, 1)) (hi : (k : Nat) = i) (hn : nlAt L i = true) (hb : i + 1 < nL) (kk : X E d own b nL C (pc + 1) ((L.set i (some (.long v))).set (i + 1) none) st M) : X E d own b nL C pc L (.long v :: st) M := by
  obtain ⟨p, e, R, s, m, args, below, meth, c, cs, Q⟩ := C
  intro ok H locs ls hP hS hl
  exact lv_lstore_n ok.1 ok.2.1 hd hi hl.has hb rfl (fun ls' hl' => kk ok H locs ls' hP hS (lvH.of hl' (st_mem2 hn)))
theorem x_iinc {i : Nat} {n : Int} {x w : Int32} (hd : decode b pc = .ok (.iinc i n, 3)) (hv : L[i]? = some (some (.int x))) (hw : Int32.ofInt n = w) (hn : nlAt L i = true) (hb : i < nL) (kk : X E d own b nL C (pc + 3) (L.set i (some (.int (x + w)))) st M) : X E d own b nL C pc L st M := by
  obtain ⟨p, e, R, s, m, args, below, meth, c, cs, Q⟩ := C
  intro ok H locs ls hP hS hl
  subst hw
  obtain ⟨k, hk⟩ := List.getElem?_of_mem (mem_al.mpr ⟨Nat.zero_le i, by simpa using hv⟩ : (i, Value.int x) ∈ al 0 L)
  exact lv_iinc ok.1 ok.2.1 hd hl.has hk rfl hb rfl (fun ls' hl' => kk ok H locs ls' hP hS (lvH.of hl' (st_mem hn)))
/-- a field of an object of ours, by the pool of the class that names it -/
def FL (own : String) (idx ci k : Nat) : Prop := ∃ (Cn : String) (T : u_T) (N : Nat), vwCl[ci]? = some (Cn, T, N) ∧ k < N ∧ (∀ w ∈ u_ws Cn T N, w ∈ tblG) ∧ (Cond.fieldLink own idx (T k).1 (T k).2.1 (T k).2.2.1 ∈ tblG ∨ ∃ host, Cond.fieldLinkNest own idx (T k).1 (T k).2.1 (T k).2.2.1 host ∈ nestW)
/-- .. that isn't final, of a type -/
def FP (own : String) (idx ci k : Nat) (ty : FieldType) : Prop := ∃ (Cn : String) (T : u_T) (N : Nat), vwCl[ci]? = some (Cn, T, N) ∧ k < N ∧ (∀ w ∈ u_ws Cn T N, w ∈ tblG) ∧ (Cond.fieldLink own idx (T k).1 (T k).2.1 (T k).2.2.1 ∈ tblG ∨ ∃ host, Cond.fieldLinkNest own idx (T k).1 (T k).2.1 (T k).2.2.1 host ∈ nestW) ∧ (∃ ty0 : Nat → FieldType, ∀ j, j < N → parseFieldDescriptor (T j).2.2.1 = some (ty0 j)) ∧ (∀ a, a < N → ∀ b, b < N → a ≠ b → (T a).2.1 ≠ (T b).2.1) ∧ (T k).2.2.2 = false ∧ parseFieldDescriptor (T k).2.2.1 = some ty
theorem x_get {idx ci k c : Nat} {fl : List (Nat ⊕ Bool)} {q : Nat ⊕ Bool} (hd : decode b pc = .ok (.getfield idx, 3)) (hf : FL own idx ci k) (hl0 : lay c = .inr (ci, fl)) (hk : fl[k]? = some q) (hc : c < cK) (kk : X E d own b nL C (pc + 3) L (fv E M c k q :: st) M) : X E d own b nL C pc L (.ref (ad E c) :: st) M := by
  obtain ⟨p, e, R, s, m, args, below, meth, cc, cs, Q⟩ := C
  intro ok H locs ls hP hS hl
  obtain ⟨Cn, T, N, h1, h2, h3, h4⟩ := hf
  have he : (ws E M)[c]? = some (ad E c, .inr (ci, fvs E M c 0 fl)) := by rw [ws_at hc, ce_o hl0]
  have hv := fvs_at (E := E) (M := M) (c := c) fl 0 k hk
  rw [Nat.zero_add] at hv
  obtain ⟨o1, o2, o3, o4, o5, o6, o7, o8⟩ := id ok
  rcases h4 with h4 | ⟨host, h4⟩
  · exact va_get o1 o2 o5 h3 o4 o7.1 hP c he h1 k h2 (o5 _ h4) (fun _ h9 => h9) hv hd (kk ok H locs ls hP hS hl)
  · exact va_getN o1 o2 o5 h3 o4 o7.1 hP c he h1 k h2 (va_Nw.use rfl (o7.2.1 _ h4)) (fun _ h9 => h9) hv hd (kk ok H locs ls hP hS hl)
theorem x_put {idx ci k c : Nat} {fl : List (Nat ⊕ Bool)} {ty : FieldType} {v : Int32} (hd : decode b pc = .ok (.putfield idx, 3)) (hf : FP own idx ci k ty) (hl0 : lay c = .inr (ci, fl)) (hk : fl[k]? = some (.inr false)) (hc : c < cK) (hn : narrow ty (.int v) = .int v) (hfit : fits ty (.int v) = true) (kk : X E d own b nL C (pc + 3) L st (sa M c (upd (M.1 c) k v))) : X E d own b nL C pc L (.int v :: .ref (ad E c) :: st) M := by
  obtain ⟨p, e, R, s, m, args, below, meth, cc, cs, Q⟩ := C
  intro ok H locs ls hP hS hl
  obtain ⟨Cn, T, N, h1, h2, h3, h4, ⟨ty0, h5⟩, h6, h7, h8⟩ := hf
  have he : (ws E M)[c]? = some (ad E c, .inr (ci, fvs E M c 0 fl)) := by rw [ws_at hc, ce_o hl0]
  have hlen : k < (fvs E M c 0 fl).length := by rw [fvs_len]; exact (List.getElem?_eq_some_iff.mp hk).1
  have hset : (ws E M).set c (ad E c, .inr (ci, (fvs E M c 0 fl).set k (.int v))) = ws E (sa M c (upd (M.1 c) k v)) := by
    rw [fvs_put fl 0 k hk, Nat.zero_add, ← ws_sa, ce_o hl0]
  obtain ⟨o1, o2, o3, o4, o5, o6, o7, o8⟩ := id ok
  rcases h4 with h4 | ⟨host, h4⟩
  · exact va_put o1 o2 o5 h3 ty0 h5 h6 o4 o7.1 hP (o6.D M) hS c he h1 k h2 (o5 _ h4) (fun _ h9 => h9) h7 h8 hn hfit hlen hd (fun H1 locs1 hP1 hD1 hS1 => kk ok H1 locs1 ls (by rw [← hset]; exact hP1) hS1 hl)
  · exact va_putN o1 o2 o5 h3 ty0 h5 h6 o4 o7.1 hP (o6.D M) hS c he h1 k h2 (va_Nw.use rfl (o7.2.1 _ h4)) (fun _ h9 => h9) h7 h8 hn hfit hlen hd (fun H1 locs1 hP1 hD1 hS1 => kk ok H1 locs1 ls (by rw [← hset]; exact hP1) hS1 hl)
theorem x_putl {idx ci k c : Nat} {fl : List (Nat ⊕ Bool)} {v : Int64} (hd : decode b pc = .ok (.putfield idx, 3)) (hf : FP own idx ci k .long) (hl0 : lay c = .inr (ci, fl)) (hk : fl[k]? = some (Sum.inr true)) (h1k : ∀ j : Nat, fl[j]? = some (Sum.inr true) → j = k) (hc : c < cK) (kk : X E d own b nL C (pc + 3) L st (sl M c v)) : X E d own b nL C pc L (.long v :: .ref (ad E c) :: st) M := by
  obtain ⟨p, e, R, s, m, args, below, meth, cc, cs, Q⟩ := C
  intro ok H locs ls hP hS hl
  obtain ⟨Cn, T, N, h1, h2, h3, h4, ⟨ty0, h5⟩, h6, h7, h8⟩ := hf
  have he : (ws E M)[c]? = some (ad E c, .inr (ci, fvs E M c 0 fl)) := by rw [ws_at hc, ce_o hl0]
  have hlen : k < (fvs E M c 0 fl).length := by rw [fvs_len]; exact (List.getElem?_eq_some_iff.mp hk).1
  have hset : (ws E M).set c (ad E c, .inr (ci, (fvs E M c 0 fl).set k (.long v))) = ws E (sl M c v) := by
    rw [fvs_putl fl 0 k hk h1k, ← ws_sl, ce_o hl0]
  obtain ⟨o1, o2, o3, o4, o5, o6, o7, o8⟩ := id ok
  rcases h4 with h4 | ⟨host, h4⟩
  · exact va_put o1 o2 o5 h3 ty0 h5 h6 o4 o7.1 hP (o6.D M) hS c he h1 k h2 (o5 _ h4) (fun _ h9 => h9) h7 h8 rfl rfl hlen hd (fun H1 locs1 hP1 hD1 hS1 => kk ok H1 locs1 ls (by rw [← hset]; exact hP1) hS1 hl)
  · exact va_putN o1 o2 o5 h3 ty0 h5 h6 o4 o7.1 hP (o6.D M) hS c he h1 k h2 (va_Nw.use rfl (o7.2.1 _ h4)) (fun _ h9 => h9) h7 h8 rfl rfl hlen hd (fun H1 locs1 hP1 hD1 hS1 => kk ok H1 locs1 ls (by rw [← hset]; exact hP1) hS1 hl)
-- arrays
theorem x_iald {c n : Nat} {i : Int32} (hd : decode b pc = .ok (.iaload, 1)) (hl0 : lay c = .inl (0, n)) (hc : c < cK) (hin : vp_in i n) (kk : X E d own b nL C (pc + 1) L (.int (M.1 c i.toNatClampNeg) :: st) M) : X E d own b nL C pc L (.int i :: .ref (ad E c) :: st) M := by
  obtain ⟨p, e, R, s, m, args, below, meth, cc, cs, Q⟩ := C
  intro ok H locs ls hP hS hl
  have he : (ws E M)[c]? = some (ad E c, .inl (cI E, n, .inl (M.1 c))) := by rw [ws_at hc, ce_i hl0]
  obtain ⟨o1, o2, o3, o4, o5, o6, o7, o8⟩ := id ok
  exact va_iald o1 o2 o7.1 hP c 0 he rfl hin hd (kk ok H locs ls hP hS hl)
theorem x_iast {c n : Nat} {i x : Int32} (hd : decode b pc = .ok (.iastore, 1)) (hl0 : lay c = .inl (0, n)) (hc : c < cK) (hin : vp_in i n) (kk : X E d own b nL C (pc + 1) L st (sa M c (upd (M.1 c) i.toNatClampNeg x))) : X E d own b nL C pc L (.int x :: .int i :: .ref (ad E c) :: st) M := by
  obtain ⟨p, e, R, s, m, args, below, meth, cc, cs, Q⟩ := C
  intro ok H locs ls hP hS hl
  have he : (ws E M)[c]? = some (ad E c, .inl (cI E, n, .inl (M.1 c))) := by rw [ws_at hc, ce_i hl0]
  have hset : (ws E M).set c (ad E c, .inl (cI E, n, .inl (upd (M.1 c) i.toNatClampNeg x))) = ws E (sa M c (upd (M.1 c) i.toNatClampNeg x)) := by
    rw [← ws_sa, ce_i hl0, sa_1]
  obtain ⟨o1, o2, o3, o4, o5, o6, o7, o8⟩ := id ok
  exact va_iast o1 o2 o7.1 hP (o6.D M) hS c 0 he rfl hin hd (fun H1 locs1 hP1 hD1 hS1 => kk ok H1 locs1 ls (by rw [← hset]; exact hP1) hS1 hl)
theorem x_zald {c n : Nat} {i : Int32} (hd : decode b pc = .ok (.baload, 1)) (hl0 : lay c = .inl (1, n)) (hc : c < cK) (hin : vp_in i n) (kk : X E d own b nL C (pc + 1) L (.int (M.1 c i.toNatClampNeg) :: st) M) : X E d own b nL C pc L (.int i :: .ref (ad E c) :: st) M := by
  obtain ⟨p, e, R, s, m, args, below, meth, cc, cs, Q⟩ := C
  intro ok H locs ls hP hS hl
  have he : (ws E M)[c]? = some (ad E c, .inl (cZ E, n, .inl (M.1 c))) := by rw [ws_at hc, ce_z hl0]
  obtain ⟨o1, o2, o3, o4, o5, o6, o7, o8⟩ := id ok
  exact va_zald o1 o2 o7.1 hP c 1 he rfl hin hd (kk ok H locs ls hP hS hl)
theorem x_zast {c n : Nat} {i x : Int32} (hd : decode b pc = .ok (.bastore, 1)) (hl0 : lay c = .inl (1, n)) (hc : c < cK) (hin : vp_in i n) (hx : vp_nar .boolean x = x) (kk : X E d own b nL C (pc + 1) L st (sa M c (upd (M.1 c) i.toNatClampNeg x))) : X E d own b nL C pc L (.int x :: .int i :: .ref (ad E c) :: st) M := by
  obtain ⟨p, e, R, s, m, args, below, meth, cc, cs, Q⟩ := C
  intro ok H locs ls hP hS hl
  have he : (ws E M)[c]? = some (ad E c, .inl (cZ E, n, .inl (M.1 c))) := by rw [ws_at hc, ce_z hl0]
  have hset : (ws E M).set c (ad E c, .inl (cZ E, n, .inl (upd (M.1 c) i.toNatClampNeg (vp_nar .boolean x)))) = ws E (sa M c (upd (M.1 c) i.toNatClampNeg x)) := by
    rw [hx, ← ws_sa, ce_z hl0, sa_1]
  obtain ⟨o1, o2, o3, o4, o5, o6, o7, o8⟩ := id ok
  exact va_zast o1 o2 o7.1 hP (o6.D M) hS c 1 he rfl hin hd (fun H1 locs1 hP1 hD1 hS1 => kk ok H1 locs1 ls (by rw [← hset]; exact hP1) hS1 hl)
theorem x_aald {i : Int32} (hd : decode b pc = .ok (.aaload, 1)) (hin : vp_in i 2) (kk : X E d own b nL C (pc + 1) L (.ref (ad E (20 + 3 * i.toNatClampNeg)) :: st) M) : X E d own b nL C pc L (.int i :: .ref (ad E 19) :: st) M := by
  obtain ⟨p, e, R, s, m, args, below, meth, cc, cs, Q⟩ := C
  intro ok H locs ls hP hS hl
  have he : (ws E M)[19]? = some (ad E 19, .inl (cT E, 2, .inr (.inr (.inr (.inr (fun i => some (ad E (20 + 3 * i)))))))) := by rw [ws_at (by decide)]; rfl
  obtain ⟨o1, o2, o3, o4, o5, o6, o7, o8⟩ := id ok
  exact va_aldq o1 o2 o7.1 hP 19 2 he rfl hin hd (kk ok H locs ls hP hS hl)
theorem x_alen {c n : Nat} {v : Int32} (hd : decode b pc = .ok (.arraylength, 1)) (hl0 : lay c = .inl (0, n)) (hc : c < cK) (hv : Int32.ofNat n = v) (kk : X E d own b nL C (pc + 1) L (.int v :: st) M) : X E d own b nL C pc L (.ref (ad E c) :: st) M := by
  obtain ⟨p, e, R, s, m, args, below, meth, cc, cs, Q⟩ := C
  intro ok H locs ls hP hS hl
  have he : (ws E M)[c]? = some (ad E c, .inl (cI E, n, .inl (M.1 c))) := by rw [ws_at hc, ce_i hl0]
  obtain ⟨o1, o2, o3, o4, o5, o6, o7, o8⟩ := id ok
  exact va_alen o1 o2 o7.1 hP c 0 he rfl hv hd (kk ok H locs ls hP hS hl)
theorem x_fac {index : Nat} (hd : decode b pc = .ok (.getstatic index, 3)) (hlk : Cond.fieldLink own index "WireFamily" "FACTORIAL" "[I" ∈ tblG) (kk : X E d own b nL C (pc + 3) L (.ref (fa E) :: st) M) : X E d own b nL C pc L st M := by
  obtain ⟨p, e, R, s, m, args, below, meth, cc, cs, Q⟩ := C
  intro ok H locs ls hP hS hl
  obtain ⟨o1, o2, o3, o4, o5, o6, o7, o8⟩ := id ok
  exact va_gets o1 o2 o7.2.2.1 hS o4 (o5 _ hlk) (fun _ h => h) hd (kk ok H locs ls hP hS hl)
theorem x_facld {i v : Int32} (hd : decode b pc = .ok (.iaload, 1)) (hin : vp_in i 6) (hv : facF i.toNatClampNeg = .int v) (kk : X E d own b nL C (pc + 1) L (.int v :: st) M) : X E d own b nL C pc L (.int i :: .ref (fa E) :: st) M := by
  obtain ⟨p, e, R, s, m, args, below, meth, cc, cs, Q⟩ := C
  intro ok H locs ls hP hS hl
  obtain ⟨o1, o2, o3, o4, o5, o6, o7, o8⟩ := id ok
  exact va_ti o1 o2 o7.2.2.2 hS hin hv hd (kk ok H locs ls hP hS hl)
theorem x_copy {index c0 c1 n0 n1 : Nat} {sp dp n : Int32} (hd : decode b pc = .ok (.invokestatic index, 3)) (hlk : Cond.methodLink own index arraycopyName ∈ tblG) (hd1 : 1 ≤ d) (hnL : nL = L.length) (h0 : lay c0 = .inl (0, n0)) (h1 : lay c1 = .inl (0, n1)) (hc0 : c0 < cK) (hc1 : c1 < cK)
    (g1 : ¬ sp < 0) (g2 : ¬ dp < 0) (g3 : ¬ n < 0) (g4 : sp.toNatClampNeg + n.toNatClampNeg ≤ n0) (g5 : dp.toNatClampNeg + n.toNatClampNeg ≤ n1) (hw : (st.map fun v => v.category).sum ≤ 8)
    (kk : X E d own b nL C (pc + 3) L st (sa M c1 (va_cpy (M.1 c0) (M.1 c1) sp.toNatClampNeg dp.toNatClampNeg n.toNatClampNeg))) : X E d own b nL C pc L (.int n :: .int dp :: .ref (ad E c1) :: .int sp :: .ref (ad E c0) :: st) M := by
  obtain ⟨p, e, R, s, m, args, below, meth, cc, cs, Q⟩ := C
  intro ok H locs ls hP hS hl
  have he0 : (ws E M)[c0]? = some (ad E c0, .inl (cI E, n0, .inl (M.1 c0))) := by rw [ws_at hc0, ce_i h0]
  have he1 : (ws E M)[c1]? = some (ad E c1, .inl (cI E, n1, .inl (M.1 c1))) := by rw [ws_at hc1, ce_i h1]
  obtain ⟨o1, o2, o3, o4, o5, o6, o7, o8, o9, o10⟩ := id ok
  have hset : (ws E M).set c1 (ad E c1, .inl (cI E, n1, .inl (va_cpy (M.1 c0) (M.1 c1) sp.toNatClampNeg dp.toNatClampNeg n.toNatClampNeg))) = ws E (sa M c1 (va_cpy (M.1 c0) (M.1 c1) sp.toNatClampNeg dp.toNatClampNeg n.toNatClampNeg)) := by
    rw [← ws_sa, ce_i h1, sa_1]
  refine va_copyi o1 o2 (o3.trans hl.1.symm) o4 (o5 _ hlk) (o5 _ (by decide +kernel)) (o5 _ (by decide +kernel)) (o5 _ (by decide +kernel)) o7.1 hP (o6.D M) hS c0 c1 0 0 he0 he1 rfl rfl rfl g1 g2 g3 g4 g5 (fun _ _ => rfl) (by omega) ?_ hd (fun H1 locs1 hP1 hD1 hS1 => kk ok H1 locs1 ls (by rw [← hset]; exact hP1) hS1 hl)
  have hz : nativeFrameWords "java/lang/System" "arraycopy" 5 ≤ 16 := by decide +kernel
  omega
-- calls
/-- a callee: its words are in the tables -/
def MOk (m : MI) (n : Nat) : Prop := Cond.code m.1 m.2.1 m.2.2.1 m.2.2.2 ∈ tblG ∧ Cond.initialized m.1.cls ∈ tblG ∧ (m.1.cls ≠ "java/lang/invoke/MethodHandle" ∧ m.1.cls ≠ "java/lang/invoke/VarHandle") ∧ (parseMethodDescriptor m.1.desc).map (fun d => d.parameters.length) = some n ∧ m.2.2.1 ≤ 16
def MV (m : MI) (n ci : Nat) : Prop := MOk m n ∧ Cond.instanceMethod m.1 ∈ tblG ∧ Cond.selects m.1.cls m.1 m.1 ∈ tblG ∧ ∃ (T : u_T) (N : Nat), vwCl[ci]? = some (m.1.cls, T, N)
def MS (m : MI) (n : Nat) : Prop := MOk m n ∧ Cond.static m.1 ∈ tblG
theorem goodIn_M {m : MI} (h : Cond.code m.1 m.2.1 m.2.2.1 m.2.2.2 ∈ tblG) : GoodIn tblG (wsM m) := by
  intro w hw
  rcases List.mem_cons.mp hw with rfl | hw
  · exact ⟨h, tblG_good _ h⟩
  · exact ⟨hw, tblG_good _ hw⟩
theorem Wd.blind {E : Ev} {M : PM} {al : List Value} : FrameBlind (va_Pc al (fun U => Wd E M U)) := by
  rintro a U g mk ⟨h1, h2, h3, h4⟩
  exact ⟨h1, h2, h3.blind rfl rfl, h4⟩
theorem x_run {p : Program} {e : Env} {R : Room} {s : State} {m : MethodId} {args : Array Value} {below : List Frame} {meth : Method} {c : Code} {cs : Nat × Nat} {Q : State → Prop} {H : Heap} {locs : List Loc} {ls : Array Slot} {st0 rest : List Value} {P : Option Value → PM → Prop} (ok : Ok E d own b nL (p, e, R, s, m, args, below, meth, c, cs, Q)) (hS : va_S (wA E) s.heap H locs) (hl : lvH ls nL L)
    (hr : va_Run p E.1 e R s m args below meth c H locs cs.1 cs.2 0 0 (F0 m pc ls st0) rest (fun (st : State) (o : Outcome) (t : State) => (∃ (r : Option Value) (N : PM), o = .returned r ∧ P r N ∧ va_P (eD E) vwCl (ws E N) t.heap) ∧ va_F (wA E) st t) (wA E))
    (kk : ∀ r N, P r N → X E d own b nL (p, e, R, s, m, args, below, meth, c, cs, Q) (pc + 3) L (r.toList ++ rest) N) : W p E.1 e R s m args below meth c H locs cs.1 cs.2 Q (F0 m pc ls st0) := by
  intro T hT Xs
  obtain ⟨v, st₀, t, T', Lc, h0, X', hL, e1, e2, ⟨⟨r, N, hv, hp, hPn⟩, hz, hk⟩, stp⟩ := hr T hT Xs
  cases hv
  rw [h0] at hz hk
  have hS' : va_S (wA E) s.heap T'.heap (locs ++ Lc) := by
    refine ⟨Nat.le_trans hS.1 (by rw [e1]; exact hz), fun q h1 h2 => ?_, fun q hq => ?_⟩
    · rw [e1, hk q (Nat.lt_of_lt_of_le h1 hS.1) h2]; exact hS.2.1 q h1 h2
    · rcases List.mem_append.mp hq with h | h
      · exact hS.2.2 q h
      · exact hL q h
  obtain ⟨t2, a1, b1⟩ := kk v N hp ok T'.heap (locs ++ Lc) ls (by rw [e1]; exact hPn) hS' hl T' rfl X'
  exact ⟨t2, stp t2 a1, b1⟩
theorem x_callV {d' idx ci n c : Nat} {mi : MI} {fl : List (Nat ⊕ Bool)} {As rest st0 : List Value} {P : Option Value → PM → Prop} (hd : decode b pc = .ok (.invokevirtual idx, 3)) (hm : MV mi n ci) (hlk : Cond.methodLink own idx mi.1 ∈ tblG) (hl0 : lay c = .inr (ci, fl)) (hc : c < cK) (hct : Ct E d' mi (.ref (ad E c) :: As) M P) (hdd : d' + 1 ≤ d) (hn : As.length = n) (hst : st0 = As.reverse ++ .ref (ad E c) :: rest) (hw : (rest.map fun v => v.category).sum ≤ 8)
    (kk : ∀ r N, P r N → X E d own b nL C (pc + 3) L (r.toList ++ rest) N) : X E d own b nL C pc L st0 M := by
  obtain ⟨p, e, R, s, m, args, below, meth, cc, cs, Q⟩ := C
  intro ok H locs ls hP hS hl
  obtain ⟨⟨h1, h2, h3, h4, h5⟩, h6, h7, T, N, h8⟩ := hm
  obtain ⟨o1, o2, o3, o4, o5, o6, o7, o8, o9, o10, o11⟩ := id ok
  have he : (ws E M)[c]? = some (ad E c, .inr (ci, fvs E M c 0 fl)) := by rw [ws_at hc, ce_o hl0]
  have hgood : GoodIn tblG (wsV own idx mi.1.cls mi.1 (wsM mi)) := by
    intro w hw
    rcases List.mem_append.mp hw with hw | hw
    · have hw' : w ∈ tblG := by
        simp at hw
        rcases hw with rfl | rfl | rfl | rfl <;> assumption
      exact ⟨hw', tblG_good _ hw'⟩
    · exact goodIn_M h1 w hw
  have cw : CallW R s args own mi.1.cls idx mi.1 mi.2.1 mi.2.2.1 mi.2.2.2 (wsM mi) (rmD d') 0 0 n := cwV n o5 hgood rfl rfl rfl ⟨rfl, h3.1, h3.2, h4⟩ ⟨by show d' + 1 ≤ _; omega, by show 8 + (_ + 11) + 35 * d' ≤ _; omega⟩
  refine x_run ok hS hl (va_runV (As := As) (rest := rest) ⟨o1, o2, o3, o4, o5⟩ hct cw ⟨Wd.blind, va_recv o7.1 hP h8 he, fun U hU hW => ⟨rfl, o6, o7.to hW (fun a h1 h2 => by rw [hU]; exact hS.2.1 a h1 h2), by rw [hU]; exact hP⟩⟩ rfl hn hl.1 hst (lv_room hw) hd ⟨by omega, by omega⟩) kk
theorem x_callS {d' idx n : Nat} {mi : MI} {As rest st0 : List Value} {P : Option Value → PM → Prop} (hd : decode b pc = .ok (.invokestatic idx, 3)) (hm : MS mi n) (hlk : Cond.methodLink own idx mi.1 ∈ tblG ∨ ∃ host, Cond.methodLinkNest own idx mi.1 host ∈ nestW) (hct : Ct E d' mi As M P) (hdd : d' + 1 ≤ d) (hn : As.length = n) (hst : st0 = As.reverse ++ rest) (hw : (rest.map fun v => v.category).sum ≤ 8)
    (kk : ∀ r N, P r N → X E d own b nL C (pc + 3) L (r.toList ++ rest) N) : X E d own b nL C pc L st0 M := by
  obtain ⟨p, e, R, s, m, args, below, meth, cc, cs, Q⟩ := C
  intro ok H locs ls hP hS hl
  obtain ⟨⟨h1, h2, h3, h4, h5⟩, h6⟩ := hm
  obtain ⟨o1, o2, o3, o4, o5, o6, o7, o8, o9, o10, o11⟩ := id ok
  have hR : (rmD d').frames + 1 ≤ R.frames ∧ 8 + (mi.2.2.1 + 11) + (rmD d').locals ≤ R.locals := ⟨by show d' + 1 ≤ _; omega, by show 8 + (_ + 11) + 35 * d' ≤ _; omega⟩
  have hpre : PreS s H (va_Pc As (fun U => Wd E M U)) As := ⟨Wd.blind, fun U hU hW => ⟨rfl, o6, o7.to hW (fun a h1 h2 => by rw [hU]; exact hS.2.1 a h1 h2), by rw [hU]; exact hP⟩⟩
  rcases hlk with hlk | ⟨host, hlk⟩
  · have cb : CallB R s args own idx mi.1 mi.2.1 mi.2.2.1 mi.2.2.2 (wsM mi) (rmD d') 0 0 n := callB_of n o5 (goodIn_M h1) rfl rfl rfl (o5 _ h2) (o5 _ hlk) ⟨h3.1, h3.2, h4⟩ hR
    exact x_run ok hS hl (va_runS (As := As) (rest := rest) ⟨o1, o2, o3, o4, o5⟩ hct ⟨cb, o5 _ h6⟩ hpre rfl hn hl.1 hst (lv_room hw) hd ⟨by omega, by omega⟩) kk
  · have cb : va_CN R s args own idx mi.1 host mi.2.1 mi.2.2.1 mi.2.2.2 (wsM mi) (rmD d') 0 0 n := va_cnB n o5 (goodIn_M h1) rfl rfl rfl (o7.2.1 _ hlk) (o5 _ h2) ⟨h3.1, h3.2, h4⟩ hR
    exact x_run ok hS hl (va_runSN (As := As) (rest := rest) ⟨o1, o2, o3, o4, o5⟩ hct ⟨cb, o5 _ h6, trivial⟩ hpre rfl hn hl.1 hst (lv_room hw) hd ⟨by omega, by omega⟩) kk
end XR
theorem x_callVi {E : Ev} {d : Nat} {own : String} {b : ByteArray} {nL : Nat} {C : Cx} {pc : Nat} {L : List (Option Value)} {M : PM} {d' idx ci n c : Nat} {mi : MI} {fl : List (Nat ⊕ Bool)} {As rest st0 : List Value} {P : Int32 → PM → Prop} (hd : decode b pc = .ok (.invokevirtual idx, 3)) (hm : MV mi n ci) (hlk : Cond.methodLink own idx mi.1 ∈ tblG) (hct : Ci E d' mi (.ref (ad E c) :: As) M P) (hl0 : lay c = .inr (ci, fl)) (hc : c < cK) (hdd : d' + 1 ≤ d) (hn : As.length = n) (hst : st0 = As.reverse ++ .ref (ad E c) :: rest) (hw : (rest.map fun v => v.category).sum ≤ 8)
    (kk : ∀ v N, P v N → X E d own b nL C (pc + 3) L (.int v :: rest) N) : X E d own b nL C pc L st0 M := x_callV hd hm hlk hl0 hc hct hdd hn hst hw (fun r N h => by obtain ⟨v, rfl, h⟩ := h; exact kk v N h)
theorem x_callVv {E : Ev} {d : Nat} {own : String} {b : ByteArray} {nL : Nat} {C : Cx} {pc : Nat} {L : List (Option Value)} {M : PM} {d' idx ci n c : Nat} {mi : MI} {fl : List (Nat ⊕ Bool)} {As rest st0 : List Value} {P : PM → Prop} (hd : decode b pc = .ok (.invokevirtual idx, 3)) (hm : MV mi n ci) (hlk : Cond.methodLink own idx mi.1 ∈ tblG) (hct : Cv E d' mi (.ref (ad E c) :: As) M P) (hl0 : lay c = .inr (ci, fl)) (hc : c < cK) (hdd : d' + 1 ≤ d) (hn : As.length = n) (hst : st0 = As.reverse ++ .ref (ad E c) :: rest) (hw : (rest.map fun v => v.category).sum ≤ 8)
    (kk : ∀ N, P N → X E d own b nL C (pc + 3) L rest N) : X E d own b nL C pc L st0 M := x_callV hd hm hlk hl0 hc hct hdd hn hst hw (fun r N h => by obtain ⟨rfl, h⟩ := h; exact kk N h)
theorem x_callVl {E : Ev} {d : Nat} {own : String} {b : ByteArray} {nL : Nat} {C : Cx} {pc : Nat} {L : List (Option Value)} {M : PM} {d' idx ci n c : Nat} {mi : MI} {fl : List (Nat ⊕ Bool)} {As rest st0 : List Value} {P : Int64 → PM → Prop} (hd : decode b pc = .ok (.invokevirtual idx, 3)) (hm : MV mi n ci) (hlk : Cond.methodLink own idx mi.1 ∈ tblG) (hct : Cl E d' mi (.ref (ad E c) :: As) M P) (hl0 : lay c = .inr (ci, fl)) (hc : c < cK) (hdd : d' + 1 ≤ d) (hn : As.length = n) (hst : st0 = As.reverse ++ .ref (ad E c) :: rest) (hw : (rest.map fun v => v.category).sum ≤ 8)
    (kk : ∀ v N, P v N → X E d own b nL C (pc + 3) L (.long v :: rest) N) : X E d own b nL C pc L st0 M := x_callV hd hm hlk hl0 hc hct hdd hn hst hw (fun r N h => by obtain ⟨v, rfl, h⟩ := h; exact kk v N h)
theorem x_callVr {E : Ev} {d : Nat} {own : String} {b : ByteArray} {nL : Nat} {C : Cx} {pc : Nat} {L : List (Option Value)} {M : PM} {d' idx ci n c : Nat} {mi : MI} {fl : List (Nat ⊕ Bool)} {As rest st0 : List Value} {P : Nat → PM → Prop} (hd : decode b pc = .ok (.invokevirtual idx, 3)) (hm : MV mi n ci) (hlk : Cond.methodLink own idx mi.1 ∈ tblG) (hct : Cr E d' mi (.ref (ad E c) :: As) M P) (hl0 : lay c = .inr (ci, fl)) (hc : c < cK) (hdd : d' + 1 ≤ d) (hn : As.length = n) (hst : st0 = As.reverse ++ .ref (ad E c) :: rest) (hw : (rest.map fun v => v.category).sum ≤ 8)
    (kk : ∀ v N, P v N → X E d own b nL C (pc + 3) L (.ref (ad E v) :: rest) N) : X E d own b nL C pc L st0 M := x_callV hd hm hlk hl0 hc hct hdd hn hst hw (fun r N h => by obtain ⟨v, rfl, h⟩ := h; exact kk v N h)
theorem x_callSi {E : Ev} {d : Nat} {own : String} {b : ByteArray} {nL : Nat} {C : Cx} {pc : Nat} {L : List (Option Value)} {M : PM} {d' idx n : Nat} {mi : MI} {As rest st0 : List Value} {P : Int32 → PM → Prop} (hd : decode b pc = .ok (.invokestatic idx, 3)) (hm : MS mi n) (hlk : Cond.methodLink own idx mi.1 ∈ tblG ∨ ∃ host, Cond.methodLinkNest own idx mi.1 host ∈ nestW) (hct : Ci E d' mi As M P) (hdd : d' + 1 ≤ d) (hn : As.length = n) (hst : st0 = As.reverse ++ rest) (hw : (rest.map fun v => v.category).sum ≤ 8)
    (kk : ∀ v N, P v N → X E d own b nL C (pc + 3) L (.int v :: rest) N) : X E d own b nL C pc L st0 M := x_callS hd hm hlk hct hdd hn hst hw (fun r N h => by obtain ⟨v, rfl, h⟩ := h; exact kk v N h)
theorem x_callSv {E : Ev} {d : Nat} {own : String} {b : ByteArray} {nL : Nat} {C : Cx} {pc : Nat} {L : List (Option Value)} {M : PM} {d' idx n : Nat} {mi : MI} {As rest st0 : List Value} {P : PM → Prop} (hd : decode b pc = .ok (.invokestatic idx, 3)) (hm : MS mi n) (hlk : Cond.methodLink own idx mi.1 ∈ tblG ∨ ∃ host, Cond.methodLinkNest own idx mi.1 host ∈ nestW) (hct : Cv E d' mi As M P) (hdd : d' + 1 ≤ d) (hn : As.length = n) (hst : st0 = As.reverse ++ rest) (hw : (rest.map fun v => v.category).sum ≤ 8)
    (kk : ∀ N, P N → X E d own b nL C (pc + 3) L rest N) : X E d own b nL C pc L st0 M := x_callS hd hm hlk hct hdd hn hst hw (fun r N h => by obtain ⟨rfl, h⟩ := h; exact kk N h)
theorem x_callSl {E : Ev} {d : Nat} {own : String} {b : ByteArray} {nL : Nat} {C : Cx} {pc : Nat} {L : List (Option Value)} {M : PM} {d' idx n : Nat} {mi : MI} {As rest st0 : List Value} {P : Int64 → PM → Prop} (hd : decode b pc = .ok (.invokestatic idx, 3)) (hm : MS mi n) (hlk : Cond.methodLink own idx mi.1 ∈ tblG ∨ ∃ host, Cond.methodLinkNest own idx mi.1 host ∈ nestW) (hct : Cl E d' mi As M P) (hdd : d' + 1 ≤ d) (hn : As.length = n) (hst : st0 = As.reverse ++ rest) (hw : (rest.map fun v => v.category).sum ≤ 8)
    (kk : ∀ v N, P v N → X E d own b nL C (pc + 3) L (.long v :: rest) N) : X E d own b nL C pc L st0 M := x_callS hd hm hlk hct hdd hn hst hw (fun r N h => by obtain ⟨v, rfl, h⟩ := h; exact kk v N h)
theorem x_callSr {E : Ev} {d : Nat} {own : String} {b : ByteArray} {nL : Nat} {C : Cx} {pc : Nat} {L : List (Option Value)} {M : PM} {d' idx n : Nat} {mi : MI} {As rest st0 : List Value} {P : Nat → PM → Prop} (hd : decode b pc = .ok (.invokestatic idx, 3)) (hm : MS mi n) (hlk : Cond.methodLink own idx mi.1 ∈ tblG ∨ ∃ host, Cond.methodLinkNest own idx mi.1 host ∈ nestW) (hct : Cr E d' mi As M P) (hdd : d' + 1 ≤ d) (hn : As.length = n) (hst : st0 = As.reverse ++ rest) (hw : (rest.map fun v => v.category).sum ≤ 8)
    (kk : ∀ v N, P v N → X E d own b nL C (pc + 3) L (.ref (ad E v) :: rest) N) : X E d own b nL C pc L st0 M := x_callS hd hm hlk hct hdd hn hst hw (fun r N h => by obtain ⟨v, rfl, h⟩ := h; exact kk v N h)
theorem Ct.ofi {E : Ev} {d : Nat} {y : MethodName} {b : ByteArray} {nL : Nat} {args : List Value} {M : PM} {P : Int32 → PM → Prop} {own : String} (L0 : List (Option Value)) (ho : y.cls = own) (hy : plainName own = true) (hL : (lg_sl args).length ≤ nL) (hL0 : al 0 L0 = lv_args 0 args)
    (body : ∀ C : Cx, (∀ (pc : Nat) (L : List (Option Value)) (v : Int32) (N : PM), decode b pc = .ok (.ireturn, 1) → P v N → X E d own b nL C pc L [.int v] N) → X E d own b nL C 0 L0 [] M) : Ci E d (y, b, nL, some .int) args M P := by
  subst ho
  unfold Ci Ct
  refine Met.ofW (cc := b) (maxL := nL) (ret := some .int) hy rfl ?_
  intro p e s m args' below meth c s₁ B hml hv
  obtain ⟨rfl, hAp, hG, hP0⟩ := hv
  have hts := atoms_spec (ws := wsM (y, b, nL, some .int)) B.pre
  have hr := B.returns
  have hlocks := B.notSynchronized
  rw [lg_entry_eq]
  refine body (p, e, rmD d, s, m, args.toArray, below, meth, c, (0, 0), _) ?_ ⟨B.exec, B.bytes, hml, findClass_of_methodNamed B.named, fun w hw => hts w (List.mem_cons_of_mem _ hw), hAp, hG, Nat.le_refl _, Nat.le_refl _, Nat.le_refl _, Nat.le_refl _⟩ s.heap [] _ hP0 va_S.rf (lvH.of (lv_entry args hL) (fun i v hi => hL0 ▸ mem_al.mpr ⟨Nat.zero_le _, by simpa using hi⟩))
  intro pc L v N hd hp ok2 H locs ls hP hS hl
  exact W.iret ok2.1 ok2.2.1 hr (fun t ht hW => ⟨⟨_, N, rfl, ⟨v, rfl, hp⟩, by rw [ht]; exact hP⟩, hS.F ht⟩) hS.2.2 hd
theorem Ct.ofz {E : Ev} {d : Nat} {y : MethodName} {b : ByteArray} {nL : Nat} {args : List Value} {M : PM} {P : Int32 → PM → Prop} {own : String} (L0 : List (Option Value)) (ho : y.cls = own) (hy : plainName own = true) (hL : (lg_sl args).length ≤ nL) (hL0 : al 0 L0 = lv_args 0 args)
    (body : ∀ C : Cx, (∀ (pc : Nat) (L : List (Option Value)) (v : Int32) (N : PM), decode b pc = .ok (.ireturn, 1) → narrow .boolean (.int v) = .int v → P v N → X E d own b nL C pc L [.int v] N) → X E d own b nL C 0 L0 [] M) : Ci E d (y, b, nL, some .boolean) args M P := by
  subst ho
  unfold Ci Ct
  refine Met.ofW (cc := b) (maxL := nL) (ret := some .boolean) hy rfl ?_
  intro p e s m args' below meth c s₁ B hml hv
  obtain ⟨rfl, hAp, hG, hP0⟩ := hv
  have hts := atoms_spec (ws := wsM (y, b, nL, some .boolean)) B.pre
  have hr := B.returns
  have hlocks := B.notSynchronized
  rw [lg_entry_eq]
  refine body (p, e, rmD d, s, m, args.toArray, below, meth, c, (0, 0), _) ?_ ⟨B.exec, B.bytes, hml, findClass_of_methodNamed B.named, fun w hw => hts w (List.mem_cons_of_mem _ hw), hAp, hG, Nat.le_refl _, Nat.le_refl _, Nat.le_refl _, Nat.le_refl _⟩ s.heap [] _ hP0 va_S.rf (lvH.of (lv_entry args hL) (fun i v hi => hL0 ▸ mem_al.mpr ⟨Nat.zero_le _, by simpa using hi⟩))
  intro pc L v N hd hnar hp ok2 H locs ls hP hS hl
  exact W.zret ok2.1 ok2.2.1 hr hnar (fun t ht hW => ⟨⟨_, N, rfl, ⟨v, rfl, hp⟩, by rw [ht]; exact hP⟩, hS.F ht⟩) hS.2.2 hd
theorem Ct.ofv {E : Ev} {d : Nat} {y : MethodName} {b : ByteArray} {nL : Nat} {args : List Value} {M : PM} {P : PM → Prop} {own : String} (L0 : List (Option Value)) (ho : y.cls = own) (hy : plainName own = true) (hL : (lg_sl args).length ≤ nL) (hL0 : al 0 L0 = lv_args 0 args)
    (body : ∀ C : Cx, (∀ (pc : Nat) (L : List (Option Value)) (N : PM), decode b pc = .ok (.return_, 1) → P N → X E d own b nL C pc L [] N) → X E d own b nL C 0 L0 [] M) : Cv E d (y, b, nL, none) args M P := by
  subst ho
  unfold Cv Ct
  refine Met.ofW (cc := b) (maxL := nL) (ret := none) hy rfl ?_
  intro p e s m args' below meth c s₁ B hml hv
  obtain ⟨rfl, hAp, hG, hP0⟩ := hv
  have hts := atoms_spec (ws := wsM (y, b, nL, none)) B.pre
  have hr := B.returns
  have hlocks := B.notSynchronized
  rw [lg_entry_eq]
  refine body (p, e, rmD d, s, m, args.toArray, below, meth, c, (0, 0), _) ?_ ⟨B.exec, B.bytes, hml, findClass_of_methodNamed B.named, fun w hw => hts w (List.mem_cons_of_mem _ hw), hAp, hG, Nat.le_refl _, Nat.le_refl _, Nat.le_refl _, Nat.le_refl _⟩ s.heap [] _ hP0 va_S.rf (lvH.of (lv_entry args hL) (fun i v hi => hL0 ▸ mem_al.mpr ⟨Nat.zero_le _, by simpa using hi⟩))
  intro pc L N hd hp ok2 H locs ls hP hS hl
  exact W.vret ok2.1 ok2.2.1 hr (fun t ht hW => ⟨⟨_, N, rfl, ⟨rfl, hp⟩, by rw [ht]; exact hP⟩, hS.F ht⟩) hS.2.2 hd
theorem Ct.ofl {E : Ev} {d : Nat} {y : MethodName} {b : ByteArray} {nL : Nat} {args : List Value} {M : PM} {P : Int64 → PM → Prop} {own : String} (L0 : List (Option Value)) (ho : y.cls = own) (hy : plainName own = true) (hL : (lg_sl args).length ≤ nL) (hL0 : al 0 L0 = lv_args 0 args)
    (body : ∀ C : Cx, (∀ (pc : Nat) (L : List (Option Value)) (v : Int64) (N : PM), decode b pc = .ok (.lreturn, 1) → P v N → X E d own b nL C pc L [.long v] N) → X E d own b nL C 0 L0 [] M) : Cl E d (y, b, nL, some .long) args M P := by
  subst ho
  unfold Cl Ct
  refine Met.ofW (cc := b) (maxL := nL) (ret := some .long) hy rfl ?_
  intro p e s m args' below meth c s₁ B hml hv
  obtain ⟨rfl, hAp, hG, hP0⟩ := hv
  have hts := atoms_spec (ws := wsM (y, b, nL, some .long)) B.pre
  have hr := B.returns
  have hlocks := B.notSynchronized
  rw [lg_entry_eq]
  refine body (p, e, rmD d, s, m, args.toArray, below, meth, c, (0, 0), _) ?_ ⟨B.exec, B.bytes, hml, findClass_of_methodNamed B.named, fun w hw => hts w (List.mem_cons_of_mem _ hw), hAp, hG, Nat.le_refl _, Nat.le_refl _, Nat.le_refl _, Nat.le_refl _⟩ s.heap [] _ hP0 va_S.rf (lvH.of (lv_entry args hL) (fun i v hi => hL0 ▸ mem_al.mpr ⟨Nat.zero_le _, by simpa using hi⟩))
  intro pc L v N hd hp ok2 H locs ls hP hS hl
  exact W.lret ok2.1 ok2.2.1 hr (fun t ht hW => ⟨⟨_, N, rfl, ⟨v, rfl, hp⟩, by rw [ht]; exact hP⟩, hS.F ht⟩) hS.2.2 hd
theorem Ct.ofr {E : Ev} {d : Nat} {y : MethodName} {b : ByteArray} {nL : Nat} {rn : String} {args : List Value} {M : PM} {P : Nat → PM → Prop} {own : String} (L0 : List (Option Value)) (ho : y.cls = own) (hy : plainName own = true) (hL : (lg_sl args).length ≤ nL) (hL0 : al 0 L0 = lv_args 0 args)
    (body : ∀ C : Cx, (∀ (pc : Nat) (L : List (Option Value)) (v : Nat) (N : PM), decode b pc = .ok (.areturn, 1) → P v N → X E d own b nL C pc L [.ref (ad E v)] N) → X E d own b nL C 0 L0 [] M) : Cr E d (y, b, nL, some (.object rn)) args M P := by
  subst ho
  unfold Cr Ct
  refine Met.ofW (cc := b) (maxL := nL) (ret := some (.object rn)) hy rfl ?_
  intro p e s m args' below meth c s₁ B hml hv
  obtain ⟨rfl, hAp, hG, hP0⟩ := hv
  have hts := atoms_spec (ws := wsM (y, b, nL, some (.object rn))) B.pre
  have hr := B.returns
  have hlocks := B.notSynchronized
  rw [lg_entry_eq]
  refine body (p, e, rmD d, s, m, args.toArray, below, meth, c, (0, 0), _) ?_ ⟨B.exec, B.bytes, hml, findClass_of_methodNamed B.named, fun w hw => hts w (List.mem_cons_of_mem _ hw), hAp, hG, Nat.le_refl _, Nat.le_refl _, Nat.le_refl _, Nat.le_refl _⟩ s.heap [] _ hP0 va_S.rf (lvH.of (lv_entry args hL) (fun i v hi => hL0 ▸ mem_al.mpr ⟨Nat.zero_le _, by simpa using hi⟩))
  intro pc L v N hd hp ok2 H locs ls hP hS hl
  exact W.aret ok2.1 ok2.2.1 hr (Or.inl ⟨_, rfl⟩) (Or.inr ⟨_, rfl⟩) (fun t ht hW => ⟨⟨_, N, rfl, ⟨v, rfl, hp⟩, by rw [ht]; exact hP⟩, hS.F ht⟩) hS.2.2 hd
