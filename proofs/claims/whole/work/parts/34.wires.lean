-- ===== the level wires, one after the other =====
def noLv (n a : Nat) : Nat → Bool
  | 0 => true
  | m + 1 => !(lvk n (a + m)) && noLv n a m
def numW (w : Nat → Nat) : Nat → Nat
  | 0 => 0
  | r + 1 => 6 * numW w r + w r
def sameW (u v : Nat → Nat) : Nat → Bool
  | 0 => true
  | r + 1 => Nat.beq (u r) (v r) && sameW u v r
def okS (n e e' r : Nat) : Bool := Nat.blt e e' && (Nat.blt e' (6 ^ n) && (lvk n e' && (noLv n (e + 1) (e' - (e + 1)) && sameW (advW (wn n e) r) (wn n e') n)))
def okN (n e : Nat) : Bool := !(lvk n e) || match advR (wn n e) n with
  | none => noLv n (e + 1) (6 ^ n - (e + 1))
  | some r => okS n e (numW (advW (wn n e) r) n) r
def okAll (n : Nat) : Nat → Bool
  | 0 => true
  | k + 1 => okN n k && okAll n k
theorem ok0 : okAll 0 (6 ^ 0) = true := by decide +kernel
theorem ok1 : okAll 1 (6 ^ 1) = true := by decide +kernel
theorem ok2 : okAll 2 (6 ^ 2) = true := by decide +kernel
theorem ok3 : okAll 3 (6 ^ 3) = true := by decide +kernel
theorem ok4 : okAll 4 (6 ^ 4) = true := by decide +kernel
theorem ok5 : okAll 5 (6 ^ 5) = true := by decide +kernel
theorem okAll_at {n : Nat} : ∀ {m : Nat}, okAll n m = true → ∀ k, k < m → okN n k = true
  | 0, _, _, h => absurd h (Nat.not_lt_zero _)
  | m + 1, h, k, hk => by
    unfold okAll at h
    rw [Bool.and_eq_true] at h
    by_cases e : k = m
    · subst e; exact h.1
    · exact okAll_at h.2 k (by omega)
theorem noLv_at {n a : Nat} : ∀ {m : Nat}, noLv n a m = true → ∀ j, a ≤ j → j < a + m → lvk n j = false
  | 0, _, _, h1, h2 => absurd h2 (by omega)
  | m + 1, h, j, h1, h2 => by
    unfold noLv at h
    rw [Bool.and_eq_true] at h
    by_cases e : j = a + m
    · subst e
      have := h.1
      cases z : lvk n (a + m)
      · rfl
      · rw [z] at this; cases this
    · exact noLv_at h.2 j h1 (by omega)
theorem sameW_at {u v : Nat → Nat} : ∀ {n : Nat}, sameW u v n = true → ∀ i, i < n → u i = v i
  | 0, _, _, h => absurd h (Nat.not_lt_zero _)
  | n + 1, h, i, hi => by
    unfold sameW at h
    rw [Bool.and_eq_true] at h
    by_cases e : i = n
    · subst e; exact Nat.eq_of_beq_eq_true h.1
    · exact sameW_at h.2 i (by omega)
theorem adv_next {n e : Nat} (hn : n ≤ 5) (he : e < 6 ^ n) (hl : lvk n e = true) : (advR (wn n e) n = none ∧ ∀ j, e < j → j < 6 ^ n → lvk n j = false) ∨ ∃ r e', advR (wn n e) n = some r ∧ e < e' ∧ e' < 6 ^ n ∧ lvk n e' = true ∧ (∀ j, e < j → j < e' → lvk n j = false) ∧ ∀ i, i < n → advW (wn n e) r i = wn n e' i := by
  have hok : okN n e = true := by
    rcases (show n = 0 ∨ n = 1 ∨ n = 2 ∨ n = 3 ∨ n = 4 ∨ n = 5 by omega) with rfl | rfl | rfl | rfl | rfl | rfl
    · exact okAll_at ok0 e he
    · exact okAll_at ok1 e he
    · exact okAll_at ok2 e he
    · exact okAll_at ok3 e he
    · exact okAll_at ok4 e he
    · exact okAll_at ok5 e he
  unfold okN at hok
  rw [hl, Bool.not_true, Bool.false_or] at hok
  cases ha : advR (wn n e) n with
  | none =>
    rw [ha] at hok
    exact Or.inl ⟨rfl, fun j h1 h2 => noLv_at hok j h1 (by omega)⟩
  | some r =>
    rw [ha] at hok
    have hs : okS n e (numW (advW (wn n e) r) n) r = true := hok
    generalize numW (advW (wn n e) r) n = e' at hs
    unfold okS at hs
    rw [Bool.and_eq_true, Bool.and_eq_true, Bool.and_eq_true, Bool.and_eq_true] at hs
    obtain ⟨g1, g2, g3, g4, g5⟩ := hs
    have g1' : e < e' := Nat.le_of_ble_eq_true g1
    have g2' : e' < 6 ^ n := Nat.le_of_ble_eq_true g2
    exact Or.inr ⟨r, e', rfl, g1', g2', g3, fun j h1 h2 => noLv_at g4 j h1 (by omega), sameW_at g5⟩
theorem wn_0 (n r : Nat) : wn n 0 r = 0 := by unfold wn; rw [Nat.zero_div]
theorem lev_0 : ∀ m n, lev (wn n 0) m = true
  | 0, _ => rfl
  | m + 1, n => by
    show (lev (wn n 0) m && _) = true
    rw [lev_0 m n, wn_0, wn_0, Bool.true_and, decide_eq_true (show 0 ≤ 0 + 1 ∧ 0 ≤ 0 + 1 from ⟨by omega, by omega⟩), Bool.or_true]
theorem lvk_0 (n : Nat) : lvk n 0 = true := lev_0 n n
theorem WrC.cg {M : PM} {n : Nat} {u v : Nat → Nat} (h : WrC M n u) (e : ∀ i, i < n → u i = v i) : WrC M n v :=
  ⟨h.1, h.2.1, fun r hr => by rw [← e r hr]; exact h.2.2 r hr⟩
/-- one turn of the wires: on to the next level number, or none is left -/
theorem adv_use {M N : PM} {n e : Nat} (he : e < 6 ^ n) (hl : lvk n e = true) (h : WrC M n (wn n e)) (hs : M.1 37 2 = nI 1) (hN : (advR (wn n e) n = none → N.1 37 2 = nI 0) ∧ ∀ r, advR (wn n e) n = some r → N.1 37 2 = M.1 37 2 ∧ WrC N n (advW (wn n e) r)) : (N.1 37 2 = nI 0 ∧ ∃ m, e + 1 + m = 6 ^ n ∧ ∀ j, e + 1 ≤ j → j < e + 1 + m → lvk n j = false) ∨ ∃ m, e + 1 + m < 6 ^ n ∧ lvk n (e + 1 + m) = true ∧ (∀ j, e + 1 ≤ j → j < e + 1 + m → lvk n j = false) ∧ N.1 37 2 = nI 1 ∧ WrC N n (wn n (e + 1 + m)) := by
  rcases adv_next h.2.1 he hl with ⟨a1, a2⟩ | ⟨r, e', a1, a2, a3, a4, a5, a6⟩
  · exact Or.inl ⟨hN.1 a1, 6 ^ n - (e + 1), by omega, fun j h1 h2 => a2 j h1 (by omega)⟩
  · have := hN.2 r a1
    obtain ⟨m, rfl⟩ : ∃ m, e' = e + 1 + m := ⟨e' - (e + 1), by omega⟩
    exact Or.inr ⟨m, a3, a4, fun j h1 h2 => a5 j h1 h2, this.1.trans hs, this.2.cg a6⟩
-- what is folded over the numbers stands still where none is level
theorem bestS_gap {kd q : Nat → Nat} {n K D : Nat} {pt nd : Nat → Nat} {a : Nat} : ∀ {m : Nat}, (∀ j, a ≤ j → j < a + m → lvk n j = false) → bestS kd q n K D pt nd (a + m) = bestS kd q n K D pt nd a
  | 0, _ => rfl
  | m + 1, h => by
    show (if lvk n (a + m) = true then _ else bestS kd q n K D pt nd (a + m)) = _
    rw [h (a + m) (by omega) (by omega), if_neg (by decide)]
    exact bestS_gap (fun j h1 h2 => h j h1 (by omega))
theorem fewS_gap {kd q : Nat → Nat} {n K x : Nat} {pt nd : Nat → Nat} {a : Nat} : ∀ {m : Nat}, (∀ j, a ≤ j → j < a + m → lvk n j = false) → fewS kd q n K x pt nd (a + m) = fewS kd q n K x pt nd a
  | 0, _ => rfl
  | m + 1, h => by
    show (if lvk n (a + m) = true then _ else fewS kd q n K x pt nd (a + m)) = _
    rw [h (a + m) (by omega) (by omega), if_neg (by decide)]
    exact fewS_gap (fun j h1 h2 => h j h1 (by omega))
theorem hitC_gap {n : Nat} {s : Nat → Bool} {a : Nat} : ∀ {m : Nat}, (∀ j, a ≤ j → j < a + m → lvk n j = false) → hitC n s (a + m) = hitC n s a
  | 0, _ => rfl
  | m + 1, h => by
    rw [← Nat.add_assoc, hitC_s, h (a + m) (by omega) (by omega), Bool.false_and, if_neg (by decide), Nat.add_zero]
    exact hitC_gap (fun j h1 h2 => h j h1 (by omega))
theorem hitF_gap {n : Nat} {s : Nat → Bool} {a : Nat} : ∀ {m : Nat}, (∀ j, a ≤ j → j < a + m → lvk n j = false) → hitF n s (a + m) = hitF n s a
  | 0, _ => rfl
  | m + 1, h => by
    rw [← Nat.add_assoc, hitF_s, h (a + m) (by omega) (by omega), Bool.false_and, if_neg (fun z => by cases z.1)]
    exact hitF_gap (fun j h1 h2 => h j h1 (by omega))
