-- ===== what both sides speak of: numbers of a family =====
/-- nothing but the cells of cs has changed -/
def Fr (M N : PM) (cs : List Nat) : Prop := N.2 = M.2 ∧ ∀ c, c ∉ cs → N.1 c = M.1 c
theorem Fr.rf {M : PM} {cs : List Nat} : Fr M M cs := ⟨rfl, fun _ _ => rfl⟩
theorem Fr.sa {M N : PM} {cs : List Nat} {c : Nat} {f : Nat → Int32} (h : Fr M N cs) (hc : c ∈ cs) : Fr M (sa N c f) cs :=
  ⟨h.1, fun c' h' => by rw [sa_ne (fun e => h' (by rw [e]; exact hc))]; exact h.2 c' h'⟩
theorem Fr.tr {M N K : PM} {cs ds : List Nat} (h : Fr M N cs) (h2 : Fr N K ds) (hs : ∀ c ∈ ds, c ∈ cs) : Fr M K cs :=
  ⟨h2.1.trans h.1, fun c hc => (h2.2 c (fun e => hc (hs c e))).trans (h.2 c hc)⟩
theorem Fr.wd {M N : PM} {cs ds : List Nat} (h : Fr M N cs) (hs : ∀ c ∈ cs, c ∈ ds) : Fr M N ds := ⟨h.1, fun c hc => h.2 c (fun e => hc (hs c e))⟩
theorem Fr.v {M N : PM} {cs : List Nat} {c k : Nat} {v : Int32} (h : Fr M N cs) (hc : c ∉ cs) (hv : M.1 c k = v) : N.1 c k = v := by rw [h.2 c hc]; exact hv
theorem sa_v {M : PM} {c c' k : Nat} {f : Nat → Int32} {v : Int32} (h : c' ≠ c) (hv : M.1 c' k = v) : (sa M c f).1 c' k = v := by rw [sa_ne h]; exact hv
/-- a page of the reference: rows, cells, the wire -/
def Pg (M : PM) (p n : Nat) (q w : Nat → Nat) : Prop := lay p = .inl (0, 31) ∧ p < cK ∧ n ≤ 5 ∧ (∀ r c, r < n → c < 5 → M.1 p (5 + 5 * r + c) = nI (q (5 * r + c)) ∧ q (5 * r + c) < 20) ∧ ∀ r, r < n → M.1 p r = nI (w r) ∧ w r ≤ 5
theorem Pg.to {M N : PM} {p n : Nat} {q w : Nat → Nat} (h : Pg M p n q w) (e : N.1 p = M.1 p) : Pg N p n q w := by
  unfold Pg at *
  rw [e]
  exact h
theorem Pg.ne {M : PM} {p n : Nat} {q w : Nat → Nat} (h : Pg M p n q w) {c : Nat} (hc : lay c ≠ .inl (0, 31)) : p ≠ c := fun e => hc (e ▸ h.1)
theorem Pg.fr {M N : PM} {p n : Nat} {q w : Nat → Nat} {cs : List Nat} (h : Pg M p n q w) (hf : Fr M N cs) (hc : ∀ c ∈ cs, lay c ≠ .inl (0, 31)) : Pg N p n q w :=
  h.to (hf.2 p (fun e => hc p e h.1))
/-- cells of kin k in the left half, in the right one -/
def lfg (q w : Nat → Nat) (k r c : Nat) : Nat := if q (5 * r + c) / 4 = k ∧ c < w r then 1 else 0
def rgg (q w : Nat → Nat) (k r c : Nat) : Nat := if q (5 * r + c) / 4 = k ∧ w r ≤ c then 1 else 0
def lf (q w : Nat → Nat) (n k : Nat) : Nat := fb_sm (fun r => fb_sm (lfg q w k r) 5) n
def rg (q w : Nat → Nat) (n k : Nat) : Nat := fb_sm (fun r => fb_sm (rgg q w k r) 5) n
theorem sm2_le {g : Nat → Nat → Nat} {n : Nat} (h : ∀ r c, g r c ≤ 1) (hn : n ≤ 5) : fb_sm (fun r => fb_sm (g r) 5) n ≤ 25 := by
  have h1 : fb_sm (fun r => fb_sm (g r) 5) n ≤ n * 5 := fb_sm_bound (fun k _ => by
    have h2 : fb_sm (g k) 5 ≤ 5 * 1 := fb_sm_bound (fun j _ => h k j)
    omega)
  omega
theorem lfg_le (q w : Nat → Nat) (k r c : Nat) : lfg q w k r c ≤ 1 := by unfold lfg; split <;> omega
theorem rgg_le (q w : Nat → Nat) (k r c : Nat) : rgg q w k r c ≤ 1 := by unfold rgg; split <;> omega
theorem lf_le {q w : Nat → Nat} {n k : Nat} (hn : n ≤ 5) : lf q w n k ≤ 25 := sm2_le (lfg_le q w k) hn
theorem rg_le {q w : Nat → Nat} {n k : Nat} (hn : n ≤ 5) : rg q w n k ≤ 25 := sm2_le (rgg_le q w k) hn
/-- who is parted -/
def par (q w : Nat → Nat) (n k : Nat) : Bool := decide (0 < lf q w n k ∧ 0 < rg q w n k)
def parB (q w : Nat → Nat) (n K : Nat) : Nat := fb_sm (fun k => if par q w n k = true then 2 ^ k else 0) K
/-- the halves for which a cell counts, as bits -/
def cf (kd : Nat → Nat) (pr : Nat → Bool) (v h : Nat) : Nat := if kd (v / 4) = 1 ∨ (kd (v / 4) = 2 ∧ v % 4 = 0) then 3 else if kd (v / 4) = 3 ∧ pr (v / 4) = true then 0 else h + 1
def hf (w : Nat → Nat) (r c : Nat) : Nat := if c < w r then 0 else 1
def cfc (kd : Nat → Nat) (q w : Nat → Nat) (n r c : Nat) : Nat := cf kd (par q w n) (q (5 * r + c)) (hf w r c)
theorem hf_le (w : Nat → Nat) (r c : Nat) : hf w r c ≤ 1 := by unfold hf; split <;> omega
theorem cf_le (kd : Nat → Nat) (pr : Nat → Bool) (v : Nat) {h : Nat} (hh : h ≤ 1) : cf kd pr v h ≤ 3 := by
  unfold cf; split
  · omega
  · split <;> omega
/-- how many cells of a part count for a half, of the kin in S -/
def cng (kd q w : Nat → Nat) (n h p S r c : Nat) : Nat := if q (5 * r + c) % 4 = p ∧ S / 2 ^ (q (5 * r + c) / 4) % 2 = 1 ∧ cfc kd q w n r c / 2 ^ h % 2 = 1 then 1 else 0
def cnt (kd q w : Nat → Nat) (n h p S : Nat) : Nat := fb_sm (fun r => fb_sm (cng kd q w n h p S r) 5) n
theorem cng_le (kd q w : Nat → Nat) (n h p S r c : Nat) : cng kd q w n h p S r c ≤ 1 := by unfold cng; split <;> omega
theorem cnt_le {kd q w : Nat → Nat} {n h p S : Nat} (hn : n ≤ 5) : cnt kd q w n h p S ≤ 25 := sm2_le (cng_le kd q w n h p S) hn
/-- deeds that a half can do, as bits -/
def canB (kd q w : Nat → Nat) (n D : Nat) (pt nd : Nat → Nat) (h S : Nat) : Nat := fb_sm (fun d => if nd d ≤ cnt kd q w n h (pt d) S then 2 ^ d else 0) D
theorem bits_lt (f : Nat → Bool) : ∀ n, fb_sm (fun k => if f k = true then 2 ^ k else 0) n < 2 ^ n
  | 0 => Nat.zero_lt_one
  | n + 1 => by
    have h := bits_lt f n
    rw [fb_sm_succ, Nat.pow_succ]
    split <;> omega
theorem bits_or {a k : Nat} (h : a < 2 ^ k) : a ||| 2 ^ k = a + 2 ^ k := by
  have e := Nat.two_pow_add_eq_or_of_lt h 1
  rw [Nat.mul_one] at e
  rw [Nat.or_comm, ← e, Nat.add_comm]
theorem parB_lt (q w : Nat → Nat) (n K : Nat) : parB q w n K < 2 ^ K := bits_lt (par q w n) K
theorem canB_eq (kd q w : Nat → Nat) (n D : Nat) (pt nd : Nat → Nat) (h S : Nat) : canB kd q w n D pt nd h S = fb_sm (fun d => if decide (nd d ≤ cnt kd q w n h (pt d) S) = true then 2 ^ d else 0) D := by
  unfold canB
  exact fb_sm_cong (fun k _ => by simp)
theorem canB_lt (kd q w : Nat → Nat) (n D : Nat) (pt nd : Nat → Nat) (h S : Nat) : canB kd q w n D pt nd h S < 2 ^ D := by
  rw [canB_eq]
  exact bits_lt _ D
theorem bit_sum (f : Nat → Bool) : ∀ n k, k < n → fb_sm (fun k => if f k = true then 2 ^ k else 0) n / 2 ^ k % 2 = if f k = true then 1 else 0
  | 0, k, h => absurd h (Nat.not_lt_zero k)
  | n + 1, k, h => by
    rw [fb_sm_succ]
    have hb := bits_lt f n
    by_cases e : k = n
    · subst e
      split
      · rw [Nat.add_div_right _ (Nat.two_pow_pos k), Nat.div_eq_of_lt hb]
      · rw [Nat.add_zero, Nat.div_eq_of_lt hb]
    · have hk : k < n := by omega
      have ih := bit_sum f n k hk
      rw [← ih]
      split
      · obtain ⟨j, rfl⟩ : ∃ j, n = k + 1 + j := ⟨n - (k + 1), by omega⟩
        rw [show (2 : Nat) ^ (k + 1 + j) = 2 ^ k * (2 * 2 ^ j) by rw [Nat.pow_add, Nat.pow_succ, Nat.mul_assoc], Nat.add_mul_div_left _ _ (Nat.two_pow_pos k)]
        omega
      · rw [Nat.add_zero]
/-- slips, figures -/
def slp (w : Nat → Nat) (n : Nat) : Nat := fb_sm (fun r => if w (r + 1) ≠ w r then 1 else 0) (n - 1)
def fig (w : Nat → Nat) : Nat → Nat
  | 0 => 1
  | n + 1 => 10 * fig w n + w n
theorem fig_lt {w : Nat → Nat} : ∀ {n : Nat}, (∀ r, r < n → w r ≤ 5) → fig w n < 2 * 10 ^ n
  | 0, _ => by show 1 < 2 * 1; decide
  | n + 1, h => by
    have ih := fig_lt (w := w) (n := n) (fun r hr => h r (by omega))
    have := h n (by omega)
    rw [fig, Nat.pow_succ]
    omega
theorem p10 {n : Nat} (h : n ≤ 5) : 10 ^ n ≤ 100000 := Nat.pow_le_pow_right (by decide) h
theorem p6 {n : Nat} (h : n ≤ 5) : 6 ^ n ≤ 7776 := Nat.pow_le_pow_right (by decide) h
theorem p2 {n : Nat} (h : n ≤ 5) : 2 ^ n ≤ 32 := Nat.pow_le_pow_right (by decide) h
theorem p2' {n : Nat} (h : n ≤ 4) : 2 ^ n ≤ 16 := Nat.pow_le_pow_right (by decide) h
