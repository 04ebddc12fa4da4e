-- ===== the joint invariant of the component and the reference =====
-- acts: what the component keeps of them, against the reference's pages
def ActL (n K : Nat) (r : Int32) (f : Nat) (Qj Wj nq : Nat → Nat) : Prop := f = fig Wj n ∧ (¬ (inR r n ∧ 1 ≤ Wj (tn r) ∧ Wj (tn r) ≤ 4) → Qj = nq) ∧ (inR r n ∧ 1 ≤ Wj (tn r) ∧ Wj (tn r) ≤ 4 → Qj = swq nq (5 * tn r + Wj (tn r))) ∧ ∀ r c, r < n → c < 5 → Qj (5 * r + c) < 4 * K
def AL (n K an : Nat) (R : Nat → Int32) (F : Nat → Nat) (Q W : Nat → Nat → Nat) (q : Nat → Nat) : Prop := ∀ j, j < an → ActL n K (R j) (F j) (Q j) (W j) (if j + 1 < an then Q (j + 1) else q)
theorem psh_a {α : Type} {an j : Nat} {F : Nat → α} {x : α} (e : an = 14) (h : j < 13) : psh an F x j = F (j + 1) := by unfold psh; rw [if_pos e, if_pos h]
theorem psh_b {α : Type} {an j : Nat} {F : Nat → α} {x : α} (e : an = 14) (h : ¬ j < 13) : psh an F x j = x := by unfold psh; rw [if_pos e, if_neg h]
theorem psh_c {α : Type} {an j : Nat} {F : Nat → α} {x : α} (e : ¬ an = 14) (h : j < an) : psh an F x j = F j := by unfold psh; rw [if_neg e, if_pos h]
theorem psh_d {α : Type} {an j : Nat} {F : Nat → α} {x : α} (e : ¬ an = 14) (h : ¬ j < an) : psh an F x j = x := by unfold psh; rw [if_neg e, if_neg h]
theorem AL.push {n K an f : Nat} {R : Nat → Int32} {F : Nat → Nat} {Q W : Nat → Nat → Nat} {q w q' : Nat → Nat} {r : Int32} (h : AL n K an R F Q W q) (ha : ActL n K r f q w q') : AL n K (pan an) (psh an R r) (psh an F f) (psh an Q q) (psh an W w) q' := by
  intro j hj
  by_cases e : an = 14
  · have ep : pan an = 14 := by unfold pan; rw [if_pos e]
    rw [ep] at hj ⊢
    by_cases h13 : j < 13
    · have hh := h (j + 1) (by omega)
      rw [psh_a e h13, psh_a e h13, psh_a e h13, psh_a e h13, if_pos (show j + 1 < 14 by omega)]
      have a5 : psh an Q q (j + 1) = if j + 1 + 1 < an then Q (j + 1 + 1) else q := by
        by_cases z : j + 1 < 13
        · rw [psh_a e z, if_pos (by omega)]
        · rw [psh_b e z, if_neg (by omega)]
      rw [a5]
      exact hh
    · rw [psh_b e h13, psh_b e h13, psh_b e h13, psh_b e h13, if_neg (show ¬ j + 1 < 14 by omega)]
      exact ha
  · have ep : pan an = an + 1 := by unfold pan; rw [if_neg e]
    rw [ep] at hj ⊢
    by_cases hja : j < an
    · have hh := h j hja
      rw [psh_c e hja, psh_c e hja, psh_c e hja, psh_c e hja, if_pos (show j + 1 < an + 1 by omega)]
      have a5 : psh an Q q (j + 1) = if j + 1 < an then Q (j + 1) else q := by
        by_cases z : j + 1 < an
        · rw [psh_c e z, if_pos z]
        · rw [psh_d e z, if_neg z]
      rw [a5]
      exact hh
    · rw [psh_d e hja, psh_d e hja, psh_d e hja, psh_d e hja, if_neg (show ¬ j + 1 < an + 1 by omega)]
      exact ha
theorem AL.pop {n K an : Nat} {R : Nat → Int32} {F : Nat → Nat} {Q W : Nat → Nat → Nat} {q : Nat → Nat} (h : AL n K (an + 1) R F Q W q) : AL n K an R F Q W (Q an) := by
  intro j hj
  have hh := h j (by omega)
  rw [if_pos (show j + 1 < an + 1 by omega)] at hh
  by_cases z : j + 1 < an
  · rw [if_pos z]; exact hh
  · rw [if_neg z, show an = j + 1 by omega]; exact hh
theorem AL.last {n K an : Nat} {R : Nat → Int32} {F : Nat → Nat} {Q W : Nat → Nat → Nat} {q : Nat → Nat} (h : AL n K (an + 1) R F Q W q) : ActL n K (R an) (F an) (Q an) (W an) q := by
  have hh := h an (by omega)
  rw [if_neg (show ¬ an + 1 < an + 1 by omega)] at hh
  exact hh
theorem swq_swq {q : Nat → Nat} {i : Nat} (h : 1 ≤ i) : swq (swq q i) i = q := by
  funext k
  unfold swq
  by_cases e : k = i
  · rw [if_pos e, if_neg (show ¬ i - 1 = i by omega), if_pos rfl, e]
  · rw [if_neg e]
    by_cases e2 : k = i - 1
    · rw [if_pos e2, if_pos rfl, e2]
    · rw [if_neg e2, if_neg e, if_neg e2]
theorem ActL.no {n K : Nat} {q w : Nat → Nat} (pq : ∀ r c, r < n → c < 5 → q (5 * r + c) < 4 * K) : ActL n K (-9) (fig w n) q w q :=
  ⟨rfl, fun _ => rfl, fun z => absurd z.1.1 (by decide), pq⟩
theorem ActL.ch {n K r : Nat} {q w : Nat → Nat} (pq : ∀ r c, r < n → c < 5 → q (5 * r + c) < 4 * K) (hn5 : n ≤ 5) (hr : r < n) (h1 : 1 ≤ w r) (h4 : w r ≤ 4) : ActL n K (nI r) (fig w n) q w (swq q (5 * r + w r)) := by
  have et : tn (nI r) = r := tn_nI (by omega)
  refine ⟨rfl, fun z => absurd ⟨inR_nI hr (by omega), by rw [et]; exact h1, by rw [et]; exact h4⟩ z, fun _ => ?_, pq⟩
  rw [et, swq_swq (by omega)]
-- frames
def keyC : List Nat := [1, 2, 3, 4, 6, 7, 13, 14, 15, 20, 21, 22, 23, 24, 25, 26, 27, 28, 29, 30, 34, 35, 36]
def keyR : List Nat := [41, 42, 43, 44, 49, 51, 52, 53, 54, 55]
def keyF : List Nat := [0, 2, 4, 5, 7, 20, 23]
def SmC (M N : PM) : Prop := ∀ c, c ∈ keyC → N.1 c = M.1 c
def SmR (M N : PM) : Prop := (∀ c, c ∈ keyR → N.1 c = M.1 c) ∧ ∀ k, k ∈ keyF → N.1 40 k = M.1 40 k
theorem keyC_scr : ∀ c ∈ keyC, c ∉ scr := by decide
theorem keyR_scr : ∀ c ∈ keyR, c ∉ scr := by decide
theorem keyF_scf : ∀ k ∈ keyF, k ∉ scf := by decide
theorem keyC_40 : ∀ c ∈ keyC, c < 40 := by decide
theorem keyR_40 : ∀ c ∈ keyR, 40 < c := by decide
theorem Sc.smC {M N : PM} (h : Sc M N) : SmC M N := fun c hc => h.2.1 c (keyC_scr c hc)
theorem Sc.smR {M N : PM} (h : Sc M N) : SmR M N := ⟨fun c hc => h.2.1 c (keyR_scr c hc), fun k hk => h.2.2 k (keyF_scf k hk)⟩
theorem Fr.smR {M N : PM} {cs : List Nat} (h : Fr M N cs) (hc : ∀ c ∈ cs, c < 40) : SmR M N :=
  ⟨fun c hk => h.2 c (fun e => by have := hc c e; have := keyR_40 c hk; omega), fun k _ => by rw [h.2 40 (fun e => by have := hc 40 e; omega)]⟩
theorem Fa.smC {M N : PM} {cs ks : List Nat} (h : Fa M N cs ks) (hc : ∀ c ∈ cs, 40 < c) : SmC M N :=
  fun c hk => h.2.1 c (fun e => by have := hc c e; have := keyC_40 c hk; omega) (by have := keyC_40 c hk; omega)
theorem AcC.eq {M N : PM} {an : Nat} {R : Nat → Int32} {F : Nat → Nat} {G : Nat → Int32} (h : AcC M an R F G) (e : SmC M N) : AcC N an R F G := by
  unfold AcC at *
  rw [e 27 (by decide), e 28 (by decide), e 29 (by decide), e 30 (by decide)]
  exact h
theorem SnC.eq {M N : PM} {sn : Nat} {sk ss : Nat → Nat} (h : SnC M sn sk ss) (e34 : N.1 34 = M.1 34) (e35 : N.1 35 = M.1 35) (e36 : N.1 36 = M.1 36) : SnC N sn sk ss := by
  unfold SnC at *
  rw [e34, e35, e36]
  exact h
theorem SnC.fr {M N : PM} {sn : Nat} {sk ss : Nat → Nat} {cs : List Nat} (h : SnC M sn sk ss) (hf : Fr M N cs) (h1 : 34 ∉ cs) (h2 : 35 ∉ cs) (h3 : 36 ∉ cs) : SnC N sn sk ss := h.eq (hf.2 _ h1) (hf.2 _ h2) (hf.2 _ h3)
theorem TxC.eq {M N : PM} {t : Nat} {tx : Nat → Nat} (h : TxC M t tx) (e : SmC M N) : TxC N t tx := by
  unfold TxC at *
  rw [e 1 (by decide), e 2 (by decide)]
  exact h
theorem KpC.eq {M N : PM} {n : Nat} {kp : Nat → Nat} {Q W : Nat → Nat → Nat} {G : Nat → Int32} (h : KpC M n kp Q W G) (e : ∀ c, 20 ≤ c → c ≤ 26 → N.1 c = M.1 c) : KpC N n kp Q W G := by
  intro s hs
  obtain ⟨a1, a2, a3⟩ := h s hs
  refine ⟨by rw [e 26 (by omega) (by omega)]; exact a1, a2, fun hk => ⟨(a3 hk).1.of (fun i _ => by rw [e (20 + 3 * s + 1) (by omega) (by omega)]) (fun i _ => by rw [e (20 + 3 * s + 2) (by omega) (by omega)]), ?_⟩⟩
  rw [e (20 + 3 * s) (by omega) (by omega)]
  exact (a3 hk).2
theorem KpC.fr {M N : PM} {n : Nat} {kp : Nat → Nat} {Q W : Nat → Nat → Nat} {G : Nat → Int32} {cs : List Nat} (h : KpC M n kp Q W G) (hf : Fr M N cs) (hc : ∀ c ∈ cs, c < 20 ∨ 26 < c) : KpC N n kp Q W G :=
  h.eq (fun c h1 h2 => hf.2 c (fun e => by have := hc c e; omega))
theorem key26 : ∀ c, c < 27 → 20 ≤ c → c ∈ keyC := by decide
theorem Bk.eq {M N : PM} {an n : Nat} {Q W : Nat → Nat → Nat} {G : Nat → Int32} (h : Bk M an n Q W G) (e : N.1 51 = M.1 51) : Bk N an n Q W G := by
  unfold Bk BkP at *
  rw [e]
  exact h
theorem MP.eq {M N : PM} {n an : Nat} {q w : Nat → Nat} {g : Int32} {Q W : Nat → Nat → Nat} {G : Nat → Int32} (h : MP M n an q w g Q W G) (e49 : N.1 49 = M.1 49) (e51 : N.1 51 = M.1 51) (e20 : N.1 40 20 = M.1 40 20) : MP N n an q w g Q W G :=
  ⟨h.1.to e49, by rw [e49]; exact h.2.1, by rw [e20]; exact h.2.2.1, h.2.2.2.1, h.2.2.2.2.eq e51⟩
theorem KpM.eq {M N : PM} {n : Nat} {kp : Nat → Nat} {Q W : Nat → Nat → Nat} {G : Nat → Int32} (h : KpM M n kp Q W G) (e52 : N.1 52 = M.1 52) (e53 : N.1 53 = M.1 53) : KpM N n kp Q W G := by
  unfold KpM BkP at *
  rw [e52, e53]
  exact h
theorem KpM.fa {M N : PM} {n : Nat} {kp : Nat → Nat} {Q W : Nat → Nat → Nat} {G : Nat → Int32} {cs ks : List Nat} (h : KpM M n kp Q W G) (hf : Fa M N cs ks) (h1 : 52 ∉ cs) (h2 : 53 ∉ cs) : KpM N n kp Q W G := h.eq (hf.2.1 52 h1 (by decide)) (hf.2.1 53 h2 (by decide))
theorem MP.fa {M N : PM} {n an : Nat} {q w : Nat → Nat} {g : Int32} {Q W : Nat → Nat → Nat} {G : Nat → Int32} {cs ks : List Nat} (h : MP M n an q w g Q W G) (hf : Fa M N cs ks) (h1 : 49 ∉ cs) (h2 : 51 ∉ cs) (h3 : 20 ∉ ks) : MP N n an q w g Q W G := h.eq (hf.2.1 49 h1 (by decide)) (hf.2.1 51 h2 (by decide)) (hf.2.2 20 h3)
theorem Fm.eq {M N : PM} {n K D : Nat} {kd pt nd : Nat → Nat} (h : Fm M n K D kd pt nd) (e : SmR M N) : Fm N n K D kd pt nd := by
  unfold Fm at *
  rw [e.2 4 (by decide), e.2 5 (by decide), e.2 7 (by decide), e.1 42 (by decide), e.1 43 (by decide), e.1 44 (by decide)]
  exact h
theorem SnM.eq {M N : PM} {sn : Nat} {sk ss : Nat → Nat} (h : SnM M sn sk ss) (e : SmR M N) : SnM N sn sk ss := by
  unfold SnM at *
  rw [e.2 23 (by decide), e.1 54 (by decide), e.1 55 (by decide)]
  exact h
theorem TxM.eq {M N : PM} {t : Nat} {tx : Nat → Nat} (h : TxM M t tx) (e : SmR M N) : TxM N t tx := by
  unfold TxM at *
  rw [e.2 2 (by decide), e.1 41 (by decide)]
  exact h
-- the invariant
def JC (M : PM) (n K D : Nat) (kd pt nd q w : Nat → Nat) (g : Int32) (an : Nat) (R : Nat → Int32) (F : Nat → Nat) (G : Nat → Int32) (sn : Nat) (sk ss : Nat → Nat) (t : Nat) (tx : Nat → Nat) (kp : Nat → Nat) (KQ KW : Nat → Nat → Nat) (KG : Nat → Int32) (s0 : Int64) : Prop :=
  Hc M n K D kd pt nd ∧ Tb M 13 n q w ∧ M.1 13 3 = g ∧ AcC M an R F G ∧ SnC M sn sk ss ∧ TxC M t tx ∧ KpC M n kp KQ KW KG ∧ M.2 0 = s0
def JR (M : PM) (n K D : Nat) (kd pt nd q w : Nat → Nat) (g : Int32) (an : Nat) (Q W : Nat → Nat → Nat) (G : Nat → Int32) (sn : Nat) (sk ss : Nat → Nat) (t : Nat) (tx : Nat → Nat) (kp : Nat → Nat) (KQ KW : Nat → Nat → Nat) (KG : Nat → Int32) (s0 : Int64) : Prop :=
  M.1 40 0 = nI 0 ∧ Fm M n K D kd pt nd ∧ MP M n an q w g Q W G ∧ SnM M sn sk ss ∧ TxM M t tx ∧ KpM M n kp KQ KW KG ∧ M.2 40 = s0
theorem JC.sm {M N : PM} {n K D : Nat} {kd pt nd q w : Nat → Nat} {g : Int32} {an : Nat} {R : Nat → Int32} {F : Nat → Nat} {G : Nat → Int32} {sn : Nat} {sk ss : Nat → Nat} {t : Nat} {tx : Nat → Nat} {kp : Nat → Nat} {KQ KW : Nat → Nat → Nat} {KG : Nat → Int32} {s0 s1 : Int64} (h : JC M n K D kd pt nd q w g an R F G sn sk ss t tx kp KQ KW KG s0) (e : SmC M N) (e2 : N.2 0 = s1) : JC N n K D kd pt nd q w g an R F G sn sk ss t tx kp KQ KW KG s1 := by
  obtain ⟨cH, cT, cg, cA, cS, cX, ck, cs⟩ := h
  refine ⟨cH.eq (e 3 (by decide)) (e 4 (by decide)) (e 6 (by decide)) (e 7 (by decide)), cT.of (fun i _ => ?_) (fun i _ => ?_), by rw [e 13 (by decide)]; exact cg, cA.eq e, cS.eq (e 34 (by decide)) (e 35 (by decide)) (e 36 (by decide)), cX.eq e, ck.eq (fun c h1 h2 => e c (key26 c (by omega) h1)), e2⟩
  · rw [show 13 + 1 = 14 from rfl, e 14 (by decide)]
  · rw [show 13 + 2 = 15 from rfl, e 15 (by decide)]
theorem JR.sm {M N : PM} {n K D : Nat} {kd pt nd q w : Nat → Nat} {g : Int32} {an : Nat} {Q W : Nat → Nat → Nat} {G : Nat → Int32} {sn : Nat} {sk ss : Nat → Nat} {t : Nat} {tx : Nat → Nat} {kp : Nat → Nat} {KQ KW : Nat → Nat → Nat} {KG : Nat → Int32} {s0 s1 : Int64} (h : JR M n K D kd pt nd q w g an Q W G sn sk ss t tx kp KQ KW KG s0) (e : SmR M N) (e2 : N.2 40 = s1) : JR N n K D kd pt nd q w g an Q W G sn sk ss t tx kp KQ KW KG s1 := by
  obtain ⟨rT, rF, rM, rS, rX, rK, rs⟩ := h
  exact ⟨by rw [e.2 0 (by decide)]; exact rT, rF.eq e, rM.eq (e.1 49 (by decide)) (e.1 51 (by decide)) (e.2 20 (by decide)), rS.eq e, rX.eq e, rK.eq (e.1 52 (by decide)) (e.1 53 (by decide)), e2⟩
def J (M : PM) : Prop := ∃ (n K D : Nat) (kd pt nd q w : Nat → Nat) (g : Int32) (an : Nat) (R : Nat → Int32) (F : Nat → Nat) (G : Nat → Int32) (Q W : Nat → Nat → Nat) (sn : Nat) (sk ss : Nat → Nat) (t : Nat) (tx : Nat → Nat) (kp : Nat → Nat) (KQ KW : Nat → Nat → Nat) (KG : Nat → Int32) (s0 : Int64), JC M n K D kd pt nd q w g an R F G sn sk ss t tx kp KQ KW KG s0 ∧ JR M n K D kd pt nd q w g an Q W G sn sk ss t tx kp KQ KW KG s0 ∧ (∀ r c, r < n → c < 5 → q (5 * r + c) < 4 * K) ∧ AL n K an R F Q W q ∧ ∀ s, s < 2 → kp s ≠ 0 → ∀ r c, r < n → c < 5 → KQ s (5 * r + c) < 4 * K
theorem J.sc {M N : PM} (h : J M) (hs : Sc M N) : J N := by
  obtain ⟨n, K, D, kd, pt, nd, q, w, g, an, R, F, G, Q, W, sn, sk, ss, t, tx, kp, KQ, KW, KG, s0, hC, hR, pq, pA, pK⟩ := h
  obtain ⟨cH, cT, cg, cA, cS, cX, ck, cs⟩ := id hC
  obtain ⟨rT, rF, rM, rS, rX, rK, rs⟩ := id hR
  exact ⟨n, K, D, kd, pt, nd, q, w, g, an, R, F, G, Q, W, sn, sk, ss, t, tx, kp, KQ, KW, KG, s0, hC.sm hs.smC (by rw [hs.1]; exact cs), hR.sm hs.smR (by rw [hs.1]; exact rs), pq, pA, pK⟩
/-- the two answer alike, and the invariant holds behind them -/
def Two (E : Ev) (m8 m9 : MI) (a8 a9 : List Value) (M : PM) : Prop := ∃ P, Ci E 7 m8 a8 M P ∧ ∀ v N, P v N → ∃ P', Ci E 7 m9 a9 N P' ∧ ∀ v' N', P' v' N' → v' = v ∧ J N'
def TwoL (E : Ev) (m8 m9 : MI) (a8 a9 : List Value) (M : PM) : Prop := ∃ P, Cl E 7 m8 a8 M P ∧ ∀ v N, P v N → ∃ P', Cl E 7 m9 a9 N P' ∧ ∀ v' N', P' v' N' → v' = v ∧ J N'
