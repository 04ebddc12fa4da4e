-- ===== the two answer alike: what changes them =====
theorem t_write {E : Ev} {M : PM} (x : Int32) (hJ : J M) : Two E mX8_write mX9_write [.ref (ad E 0), .int x] [.ref (ad E 40), .int x] M := by
  have h0 := hJ
  obtain ⟨n, K, D, kd, pt, nd, q, w, g, an, R, F, G, Q, W, sn, sk, ss, t, tx, kp, KQ, KW, KG, s0, hC, hR, pq, pA, pK⟩ := hJ
  obtain ⟨cH, cT, cg, cA, cS, cX, ck, cs⟩ := id hC
  obtain ⟨rT, rF, rM, rS, rX, rK, rs⟩ := id hR
  refine ⟨_, k_write E 6 M t tx x cX, ?_⟩
  rintro v N ⟨rfl, hno, hyes⟩
  by_cases hb : inR x 256 ∧ t ≠ 56
  · obtain ⟨hN, cX2⟩ := hyes hb
    obtain ⟨rT, rF, rM, rS, rX, rK, rs⟩ := hR.sm (s1 := s0) (hN.smR (by decide)) (by rw [hN.1]; exact rs)
    refine ⟨_, cM_write E 6 N t tx x rT rX, ?_⟩
    rintro v' N' ⟨rfl, -, hyes'⟩
    obtain ⟨hN', rX2⟩ := hyes' hb
    have hC2 : JC N n K D kd pt nd q w g an R F G sn sk ss (t + 1) (uf tx t (tn x)) kp KQ KW KG s0 := ⟨cH.fr hN (by decide) (by decide) (by decide) (by decide), cT.fr hN (by decide) (by decide), hN.v (by decide) cg, cA.fr hN (by decide) (by decide) (by decide) (by decide), cS.fr hN (by decide) (by decide) (by decide), cX2, ck.fr hN (by decide), by rw [hN.1]; exact cs⟩
    exact ⟨rfl, ⟨n, K, D, kd, pt, nd, q, w, g, an, R, F, G, Q, W, sn, sk, ss, t + 1, uf tx t (tn x), kp, KQ, KW, KG, s0, hC2.sm (hN'.smC (by decide)) (by rw [hN'.1]; exact hC2.2.2.2.2.2.2.2), ⟨hN'.f (by decide) rT, rF.fa hN' (by decide) (by decide) (by decide) (by decide) (by decide) (by decide), rM.fa hN' (by decide) (by decide) (by decide), rS.fa hN' (by decide) (by decide) (by decide), rX2, rK.fa hN' (by decide) (by decide), by rw [hN'.1]; exact rs⟩, pq, pA, pK⟩⟩
  · have e := hno hb
    subst e
    refine ⟨_, cM_write E 6 M t tx x rT rX, ?_⟩
    rintro v' N' ⟨rfl, hno', -⟩
    have e := hno' hb
    subst e
    exact ⟨rfl, h0⟩
theorem t_wipe {E : Ev} {M : PM} (hJ : J M) : Two E mX8_wipe mX9_wipe [.ref (ad E 0)] [.ref (ad E 40)] M := by
  obtain ⟨n, K, D, kd, pt, nd, q, w, g, an, R, F, G, Q, W, sn, sk, ss, t, tx, kp, KQ, KW, KG, s0, hC, hR, pq, pA, pK⟩ := hJ
  obtain ⟨cH, cT, cg, cA, cS, cX, ck, cs⟩ := id hC
  obtain ⟨rT, rF, rM, rS, rX, rK, rs⟩ := id hR
  refine ⟨_, k_wipe E 7 M t tx cX, ?_⟩
  rintro v N ⟨rfl, hN, cX2⟩
  obtain ⟨rT, rF, rM, rS, rX, rK, rs⟩ := hR.sm (s1 := s0) (hN.smR (by decide)) (by rw [hN.1]; exact rs)
  refine ⟨_, cM_wipe E 7 N t tx rT rX, ?_⟩
  rintro v' N' ⟨rfl, hN', rX2⟩
  have hC2 : JC N n K D kd pt nd q w g an R F G sn sk ss 0 tx kp KQ KW KG s0 := ⟨cH.fr hN (by decide) (by decide) (by decide) (by decide), cT.fr hN (by decide) (by decide), hN.v (by decide) cg, cA.fr hN (by decide) (by decide) (by decide) (by decide), cS.fr hN (by decide) (by decide) (by decide), cX2, ck.fr hN (by decide), by rw [hN.1]; exact cs⟩
  exact ⟨rfl, ⟨n, K, D, kd, pt, nd, q, w, g, an, R, F, G, Q, W, sn, sk, ss, 0, tx, kp, KQ, KW, KG, s0, hC2.sm (hN'.smC (by decide)) (by rw [hN'.1]; exact hC2.2.2.2.2.2.2.2), ⟨hN'.f (by decide) rT, rF.fa hN' (by decide) (by decide) (by decide) (by decide) (by decide) (by decide), rM.fa hN' (by decide) (by decide) (by decide), rS.fa hN' (by decide) (by decide) (by decide), rX2, rK.fa hN' (by decide) (by decide), by rw [hN'.1]; exact rs⟩, pq, pA, pK⟩⟩
theorem flt_one {tx : Nat → Nat} : ∀ (k i : Nat) (s : PS), i + k < 1000 → flt tx k i s = -9 → (fnS tx k i s).1 = 1
  | 0, i, s, hi, h => by
    unfold flt at h
    by_cases e : s.1 = 1
    · exact e
    · rw [if_neg e] at h; exact absurd h (nI_n9 (by omega))
  | k + 1, i, s, hi, h => by
    unfold flt at h
    unfold fnS
    cases e : pstep (tx i) s with
    | none => simp only [e] at h; exact absurd h (nI_n9 (by omega))
    | some s' => simp only [e] at h ⊢; exact flt_one k (i + 1) s' (by omega) h
theorem fn_one {t : Nat} {tx : Nat → Nat} (ht : t ≤ 56) (h : fltA t tx = -9) : ∃ (col K n D : Nat) (kd cl pt nd : Nat → Nat), fnA t tx = (1, col, K, n, D, kd, cl, pt, nd) := by
  have h1 : (fnA t tx).1 = 1 := flt_one (t - 0) 0 ps0 (by omega) h
  generalize fnA t tx = z at h1 ⊢
  obtain ⟨aw, col, K, n, D, kd, cl, pt, nd⟩ := z
  have h2 : aw = 1 := h1
  subst h2
  exact ⟨col, K, n, D, kd, cl, pt, nd, rfl⟩
theorem t_family {E : Ev} {M : PM} (hJ : J M) : Two E mX8_family mX9_family [.ref (ad E 0)] [.ref (ad E 40)] M := by
  have h0 := hJ
  obtain ⟨n, K, D, kd, pt, nd, q, w, g, an, R, F, G, Q, W, sn, sk, ss, t, tx, kp, KQ, KW, KG, s0, hC, hR, pq, pA, pK⟩ := hJ
  obtain ⟨cH, cT, cg, cA, cS, cX, ck, cs⟩ := id hC
  obtain ⟨rT, rF, rM, rS, rX, rK, rs⟩ := id hR
  by_cases hf : fltA t tx = -9
  rotate_left
  · refine ⟨_, k_family_no E 4 M t tx cX hf, ?_⟩
    rintro v N ⟨rfl, hN⟩
    have hs : Sc M N := hN.Sc (by decide) (by decide)
    obtain ⟨rT, rF, rM, rS, rX, rK, rs⟩ := hR.sm (s1 := s0) hs.smR (by rw [hs.1]; exact rs)
    refine ⟨_, cM_family_no E 2 N t tx rT rX hf, ?_⟩
    rintro v' N' ⟨rfl, hN'⟩
    exact ⟨rfl, (h0.sc hs).sc (hN'.Sc (by decide) (by decide))⟩
  obtain ⟨col, K', n', D', kd', cl, pt', nd', hs⟩ := fn_one cX.2.1 hf
  have hV := Vb.fnA t tx
  rw [hs] at hV
  have pq' : ∀ r c, r < n' → c < 5 → cl (5 * r + c) < 4 * K' := fun r c hr hc => hV.2.1 (5 * r + c) (by omega)
  refine ⟨_, k_family E 4 M t col K' n' D' tx kd' cl pt' nd' cX hf hs, ?_⟩
  rintro v N ⟨rfl, hN, cH2, cT2, cg2, cA2, ck2⟩
  obtain ⟨rT, rF, rM, rS, rX, rK, rs⟩ := hR.sm (s1 := s0) (hN.smR (by decide)) (by rw [hN.1]; exact rs)
  refine ⟨_, cM_family E 2 N t col K' n' D' tx kd' cl pt' nd' rT rX hf hs, ?_⟩
  rintro v' N' ⟨rfl, hN', rF2, rP2, rg2, ra2, rk2⟩
  have hC2 : JC N n' K' D' kd' pt' nd' cl (fun _ => 2) (nI 0) 0 R F G sn sk ss t tx (fun _ => 0) KQ KW KG s0 := ⟨cH2, cT2, cg2, ⟨cA2, by omega, fun j hj => absurd hj (by omega)⟩, cS.fr hN (by decide) (by decide) (by decide), cX.fr hN (by decide) (by decide), fun s hs => ⟨ck2 s hs, Nat.zero_lt_succ _, fun z => absurd rfl z⟩, by rw [hN.1]; exact cs⟩
  exact ⟨rfl, ⟨n', K', D', kd', pt', nd', cl, (fun _ => 2), nI 0, 0, R, F, G, Q, W, sn, sk, ss, t, tx, (fun _ => 0), KQ, KW, KG, s0, hC2.sm (hN'.smC (by decide)) (by rw [hN'.1]; exact hC2.2.2.2.2.2.2.2), ⟨hN'.f (by decide) rT, rF2, ⟨rP2, rg2, ra2, by omega, fun j hj => absurd hj (by omega)⟩, rS.fa hN' (by decide) (by decide) (by decide), rX.fa hN' (by decide) (by decide), fun s hs => ⟨rk2 s hs, Nat.zero_lt_succ _, fun z => absurd rfl z⟩, by rw [hN'.1]; exact rs⟩, pq', fun j hj => absurd hj (by omega), fun s hs z => absurd rfl z⟩⟩
theorem t_draw {E : Ev} {M : PM} (r a : Int32) (hJ : J M) : Two E mX8_draw mX9_draw [.ref (ad E 0), .int r, .int a] [.ref (ad E 40), .int r, .int a] M := by
  have h0 := hJ
  obtain ⟨n, K, D, kd, pt, nd, q, w, g, an, R, F, G, Q, W, sn, sk, ss, t, tx, kp, KQ, KW, KG, s0, hC, hR, pq, pA, pK⟩ := hJ
  obtain ⟨cH, cT, cg, cA, cS, cX, ck, cs⟩ := id hC
  obtain ⟨rT, rF, rM, rS, rX, rK, rs⟩ := id hR
  have hn5 : n ≤ 5 := cH.2.2.2.1
  rcases ixc r n (by omega) with ⟨rj, hr, rfl, -⟩ | hr
  rotate_left
  · refine ⟨_, k_draw_row E 6 M n r a cH.1 hn5 hr, ?_⟩
    rintro v N ⟨rfl, rfl⟩
    refine ⟨_, cM_draw_row E 6 M n r a rT rF.1 hn5 hr, ?_⟩
    rintro v' N' ⟨rfl, rfl⟩
    exact ⟨rfl, h0⟩
  rcases ixc a 2 (by omega) with ⟨aj, ha, rfl, -⟩ | ha
  rotate_left
  · refine ⟨_, k_draw_way E 6 M n rj a cH.1 hn5 hr ha, ?_⟩
    rintro v N ⟨rfl, rfl⟩
    refine ⟨_, cM_draw_way E 6 M n rj a rT rF.1 hn5 hr ha, ?_⟩
    rintro v' N' ⟨rfl, rfl⟩
    exact ⟨rfl, h0⟩
  refine ⟨_, k_draw E 4 M n an rj aj q w g R F G cH.1 cT cA cg hr ha, ?_⟩
  rintro v N ⟨hno, hyes⟩
  cases hb : cdw w n rj (dt w rj aj) with
  | false =>
    obtain ⟨rfl, rfl⟩ := hno hb
    refine ⟨_, cM_draw E 5 M n an rj aj q w g Q W G rT rF.1 rM hr ha, ?_⟩
    rintro v' N' ⟨hno', -⟩
    obtain ⟨rfl, rfl⟩ := hno' hb
    exact ⟨rfl, h0⟩
  | true =>
    obtain ⟨rfl, hN, cT2, cA2⟩ := hyes hb
    obtain ⟨rT, rF, rM, rS, rX, rK, rs⟩ := hR.sm (s1 := s0) (hN.smR (by decide)) (by rw [hN.1]; exact rs)
    refine ⟨_, cM_draw E 5 N n an rj aj q w g Q W G rT rF.1 rM hr ha, ?_⟩
    rintro v' N' ⟨-, hyes'⟩
    obtain ⟨rfl, hN', rM2⟩ := hyes' hb
    have hC2 : JC N n K D kd pt nd q (nw w rj aj) g (pan an) (psh an R (-9)) (psh an F (fig w n)) (psh an G g) sn sk ss t tx kp KQ KW KG s0 := ⟨cH.fr hN (by decide) (by decide) (by decide) (by decide), cT2, hN.v (by decide) cg, cA2, cS.fr hN (by decide) (by decide) (by decide), cX.fr hN (by decide) (by decide), ck.fr hN (by decide), by rw [hN.1]; exact cs⟩
    exact ⟨rfl, ⟨n, K, D, kd, pt, nd, q, nw w rj aj, g, pan an, psh an R (-9), psh an F (fig w n), psh an G g, psh an Q q, psh an W w, sn, sk, ss, t, tx, kp, KQ, KW, KG, s0, hC2.sm (hN'.smC (by decide)) (by rw [hN'.1]; exact hC2.2.2.2.2.2.2.2), ⟨hN'.f (by decide) rT, rF.fa hN' (by decide) (by decide) (by decide) (by decide) (by decide) (by decide), rM2, rS.fa hN' (by decide) (by decide) (by decide), rX.fa hN' (by decide) (by decide), rK.fa hN' (by decide) (by decide), by rw [hN'.1]; exact rs⟩, pq, pA.push (ActL.no pq), pK⟩⟩
theorem t_change {E : Ev} {M : PM} (r : Int32) (hJ : J M) : Two E mX8_change mX9_change [.ref (ad E 0), .int r] [.ref (ad E 40), .int r] M := by
  have h0 := hJ
  obtain ⟨n, K, D, kd, pt, nd, q, w, g, an, R, F, G, Q, W, sn, sk, ss, t, tx, kp, KQ, KW, KG, s0, hC, hR, pq, pA, pK⟩ := hJ
  obtain ⟨cH, cT, cg, cA, cS, cX, ck, cs⟩ := id hC
  obtain ⟨rT, rF, rM, rS, rX, rK, rs⟩ := id hR
  have hn5 : n ≤ 5 := cH.2.2.2.1
  rcases ixc r n (by omega) with ⟨rj, hr, rfl, -⟩ | hr
  rotate_left
  · refine ⟨_, k_change_row E 6 M n r cH.1 hn5 hr, ?_⟩
    rintro v N ⟨rfl, rfl⟩
    refine ⟨_, cM_change_row E 6 M n r rT rF.1 hn5 hr, ?_⟩
    rintro v' N' ⟨rfl, rfl⟩
    exact ⟨rfl, h0⟩
  refine ⟨_, k_change E 4 M n an rj q w g R F G cH.1 cT cA cg hr, ?_⟩
  rintro v N ⟨hno, hyes⟩
  by_cases hb : 1 ≤ w rj ∧ w rj ≤ 4
  rotate_left
  · obtain ⟨rfl, rfl⟩ := hno hb
    refine ⟨_, cM_change E 6 M n an rj q w g Q W G rT rF.1 rM hr, ?_⟩
    rintro v' N' ⟨hno', -⟩
    obtain ⟨rfl, rfl⟩ := hno' hb
    exact ⟨rfl, h0⟩
  · obtain ⟨rfl, hN, cT2, cA2⟩ := hyes hb
    obtain ⟨rT, rF, rM, rS, rX, rK, rs⟩ := hR.sm (s1 := s0) (hN.smR (by decide)) (by rw [hN.1]; exact rs)
    refine ⟨_, cM_change E 6 N n an rj q w g Q W G rT rF.1 rM hr, ?_⟩
    rintro v' N' ⟨-, hyes'⟩
    obtain ⟨rfl, hN', rM2⟩ := hyes' hb
    have hC2 : JC N n K D kd pt nd (swq q (5 * rj + w rj)) w g (pan an) (psh an R (nI rj)) (psh an F (fig w n)) (psh an G g) sn sk ss t tx kp KQ KW KG s0 := ⟨cH.fr hN (by decide) (by decide) (by decide) (by decide), cT2, hN.v (by decide) cg, cA2, cS.fr hN (by decide) (by decide) (by decide), cX.fr hN (by decide) (by decide), ck.fr hN (by decide), by rw [hN.1]; exact cs⟩
    exact ⟨rfl, ⟨n, K, D, kd, pt, nd, swq q (5 * rj + w rj), w, g, pan an, psh an R (nI rj), psh an F (fig w n), psh an G g, psh an Q q, psh an W w, sn, sk, ss, t, tx, kp, KQ, KW, KG, s0, hC2.sm (hN'.smC (by decide)) (by rw [hN'.1]; exact hC2.2.2.2.2.2.2.2), ⟨hN'.f (by decide) rT, rF.fa hN' (by decide) (by decide) (by decide) (by decide) (by decide) (by decide), rM2, rS.fa hN' (by decide) (by decide) (by decide), rX.fa hN' (by decide) (by decide), rK.fa hN' (by decide) (by decide), by rw [hN'.1]; exact rs⟩, swq_lt pq hr hb.1 hb.2, pA.push (ActL.ch pq hn5 hr hb.1 hb.2), pK⟩⟩
theorem t_join {E : Ev} {M : PM} (hJ : J M) : Two E mX8_join mX9_join [.ref (ad E 0)] [.ref (ad E 40)] M := by
  obtain ⟨n, K, D, kd, pt, nd, q, w, g, an, R, F, G, Q, W, sn, sk, ss, t, tx, kp, KQ, KW, KG, s0, hC, hR, pq, pA, pK⟩ := hJ
  obtain ⟨cH, cT, cg, cA, cS, cX, ck, cs⟩ := id hC
  obtain ⟨rT, rF, rM, rS, rX, rK, rs⟩ := id hR
  refine ⟨_, k_join E 4 M n an q w g R F G cH.1 cT cA cg, ?_⟩
  rintro v N ⟨rfl, hN, cT2, cg2, cA2⟩
  obtain ⟨rT, rF, rM, rS, rX, rK, rs⟩ := hR.sm (s1 := s0) (hN.smR (by decide)) (by rw [hN.1]; exact rs)
  refine ⟨_, cM_join E 5 N n an q w g Q W G rT rF.1 rM, ?_⟩
  rintro v' N' ⟨rfl, hN', rM2⟩
  have hC2 : JC N n K D kd pt nd q (fun _ => 2) (g + nI (slp w n)) (pan an) (psh an R (-9)) (psh an F (fig w n)) (psh an G g) sn sk ss t tx kp KQ KW KG s0 := ⟨cH.fr hN (by decide) (by decide) (by decide) (by decide), cT2, cg2, cA2, cS.fr hN (by decide) (by decide) (by decide), cX.fr hN (by decide) (by decide), ck.fr hN (by decide), by rw [hN.1]; exact cs⟩
  exact ⟨rfl, ⟨n, K, D, kd, pt, nd, q, (fun _ => 2), g + nI (slp w n), pan an, psh an R (-9), psh an F (fig w n), psh an G g, psh an Q q, psh an W w, sn, sk, ss, t, tx, kp, KQ, KW, KG, s0, hC2.sm (hN'.smC (by decide)) (by rw [hN'.1]; exact hC2.2.2.2.2.2.2.2), ⟨hN'.f (by decide) rT, rF.fa hN' (by decide) (by decide) (by decide) (by decide) (by decide) (by decide), rM2, rS.fa hN' (by decide) (by decide) (by decide), rX.fa hN' (by decide) (by decide), rK.fa hN' (by decide) (by decide), by rw [hN'.1]; exact rs⟩, pq, pA.push (ActL.no pq), pK⟩⟩
theorem t_undo {E : Ev} {M : PM} (hJ : J M) : Two E mX8_undo mX9_undo [.ref (ad E 0)] [.ref (ad E 40)] M := by
  have h0 := hJ
  obtain ⟨n, K, D, kd, pt, nd, q, w, g, an, R, F, G, Q, W, sn, sk, ss, t, tx, kp, KQ, KW, KG, s0, hC, hR, pq, pA, pK⟩ := hJ
  obtain ⟨cH, cT, cg, cA, cS, cX, ck, cs⟩ := id hC
  obtain ⟨rT, rF, rM, rS, rX, rK, rs⟩ := id hR
  rcases Nat.eq_zero_or_pos an with rfl | ha
  · refine ⟨_, k_undo0 E 7 M cA.1, ?_⟩
    rintro v N ⟨rfl, rfl⟩
    refine ⟨_, cM_undo0 E 7 M rT rM.2.2.1, ?_⟩
    rintro v' N' ⟨rfl, rfl⟩
    exact ⟨rfl, h0⟩
  obtain ⟨an, rfl⟩ : ∃ b, an = b + 1 := ⟨an - 1, by omega⟩
  have hL := pA.last
  refine ⟨_, k_undo E 5 M n an q (W an) w R F G cH.1 cA cT (fun r hr => ((rM.2.2.2.2 an (by omega)).2.1 r hr).2) hL.1, ?_⟩
  rintro v N ⟨rfl, hN, cA2, cg2, cTn, cTy⟩
  obtain ⟨rT, rF, rM, rS, rX, rK, rs⟩ := hR.sm (s1 := s0) (hN.smR (by decide)) (by rw [hN.1]; exact rs)
  refine ⟨_, cM_undo E 7 N n an q w g Q W G rT rM, ?_⟩
  rintro v' N' ⟨rfl, hN', rM2⟩
  have cT2 : Tb N 13 n (Q an) (W an) := by
    by_cases hb : inR (R an) n ∧ 1 ≤ W an (tn (R an)) ∧ W an (tn (R an)) ≤ 4
    · rw [hL.2.2.1 hb]; exact cTy hb
    · rw [hL.2.1 hb]; exact cTn hb
  have hC2 : JC N n K D kd pt nd (Q an) (W an) (G an) an R F G sn sk ss t tx kp KQ KW KG s0 := ⟨cH.fr hN (by decide) (by decide) (by decide) (by decide), cT2, cg2, cA2, cS.fr hN (by decide) (by decide) (by decide), cX.fr hN (by decide) (by decide), ck.fr hN (by decide), by rw [hN.1]; exact cs⟩
  exact ⟨rfl, ⟨n, K, D, kd, pt, nd, Q an, W an, G an, an, R, F, G, Q, W, sn, sk, ss, t, tx, kp, KQ, KW, KG, s0, hC2.sm (hN'.smC (by decide)) (by rw [hN'.1]; exact hC2.2.2.2.2.2.2.2), ⟨hN'.f (by decide) rT, rF.fa hN' (by decide) (by decide) (by decide) (by decide) (by decide) (by decide), rM2, rS.fa hN' (by decide) (by decide) (by decide), rX.fa hN' (by decide) (by decide), rK.fa hN' (by decide) (by decide), by rw [hN'.1]; exact rs⟩, hL.2.2.2, pA.pop, pK⟩⟩
theorem t_see {E : Ev} {M : PM} (k s : Int32) (hJ : J M) : Two E mX8_see mX9_see [.ref (ad E 0), .int k, .int s] [.ref (ad E 40), .int k, .int s] M := by
  have h0 := hJ
  obtain ⟨n, K, D, kd, pt, nd, q, w, g, an, R, F, G, Q, W, sn, sk, ss, t, tx, kp, KQ, KW, KG, s0, hC, hR, pq, pA, pK⟩ := hJ
  obtain ⟨cH, cT, cg, cA, cS, cX, ck, cs⟩ := id hC
  obtain ⟨rT, rF, rM, rS, rX, rK, rs⟩ := id hR
  have hK5 : K ≤ 5 := cH.2.2.2.2.1
  refine ⟨_, k_see E 6 M K sn sk ss k s cH.2.1 hK5 cS, ?_⟩
  rintro v N ⟨rfl, hno, hyes⟩
  by_cases hb : seeOk K sn k s
  · obtain ⟨hN, cS2⟩ := hyes hb
    obtain ⟨rT, rF, rM, rS, rX, rK, rs⟩ := hR.sm (s1 := s0) (hN.smR (by decide)) (by rw [hN.1]; exact rs)
    refine ⟨_, cM_see E 6 N K sn sk ss k s rT rF.2.1 hK5 rS, ?_⟩
    rintro v' N' ⟨rfl, -, hyes'⟩
    obtain ⟨hN', rS2⟩ := hyes' hb
    have hC2 : JC N n K D kd pt nd q w g an R F G (sn + 1) (uf sk sn (tn k)) (uf ss sn (tn s)) t tx kp KQ KW KG s0 := ⟨cH.fr hN (by decide) (by decide) (by decide) (by decide), cT.fr hN (by decide) (by decide), hN.v (by decide) cg, cA.fr hN (by decide) (by decide) (by decide) (by decide), cS2, cX.fr hN (by decide) (by decide), ck.fr hN (by decide), by rw [hN.1]; exact cs⟩
    exact ⟨rfl, ⟨n, K, D, kd, pt, nd, q, w, g, an, R, F, G, Q, W, sn + 1, uf sk sn (tn k), uf ss sn (tn s), t, tx, kp, KQ, KW, KG, s0, hC2.sm (hN'.smC (by decide)) (by rw [hN'.1]; exact hC2.2.2.2.2.2.2.2), ⟨hN'.f (by decide) rT, rF.fa hN' (by decide) (by decide) (by decide) (by decide) (by decide) (by decide), rM.fa hN' (by decide) (by decide) (by decide), rS2, rX.fa hN' (by decide) (by decide), rK.fa hN' (by decide) (by decide), by rw [hN'.1]; exact rs⟩, pq, pA, pK⟩⟩
  · have e := hno hb
    subst e
    refine ⟨_, cM_see E 6 M K sn sk ss k s rT rF.2.1 hK5 rS, ?_⟩
    rintro v' N' ⟨rfl, hno', -⟩
    have e := hno' hb
    subst e
    exact ⟨rfl, h0⟩
theorem t_unsee {E : Ev} {M : PM} (hJ : J M) : Two E mX8_unsee mX9_unsee [.ref (ad E 0)] [.ref (ad E 40)] M := by
  obtain ⟨n, K, D, kd, pt, nd, q, w, g, an, R, F, G, Q, W, sn, sk, ss, t, tx, kp, KQ, KW, KG, s0, hC, hR, pq, pA, pK⟩ := hJ
  obtain ⟨cH, cT, cg, cA, cS, cX, ck, cs⟩ := id hC
  obtain ⟨rT, rF, rM, rS, rX, rK, rs⟩ := id hR
  refine ⟨_, k_unsee E 7 M sn sk ss cS, ?_⟩
  rintro v N ⟨rfl, hN, cS2⟩
  obtain ⟨rT, rF, rM, rS, rX, rK, rs⟩ := hR.sm (s1 := s0) (hN.smR (by decide)) (by rw [hN.1]; exact rs)
  refine ⟨_, cM_unsee E 7 N sn sk ss rT rS, ?_⟩
  rintro v' N' ⟨rfl, hN', rS2⟩
  have hC2 : JC N n K D kd pt nd q w g an R F G 0 sk ss t tx kp KQ KW KG s0 := ⟨cH.fr hN (by decide) (by decide) (by decide) (by decide), cT.fr hN (by decide) (by decide), hN.v (by decide) cg, cA.fr hN (by decide) (by decide) (by decide) (by decide), cS2, cX.fr hN (by decide) (by decide), ck.fr hN (by decide), by rw [hN.1]; exact cs⟩
  exact ⟨rfl, ⟨n, K, D, kd, pt, nd, q, w, g, an, R, F, G, Q, W, 0, sk, ss, t, tx, kp, KQ, KW, KG, s0, hC2.sm (hN'.smC (by decide)) (by rw [hN'.1]; exact hC2.2.2.2.2.2.2.2), ⟨hN'.f (by decide) rT, rF.fa hN' (by decide) (by decide) (by decide) (by decide) (by decide) (by decide), rM.fa hN' (by decide) (by decide) (by decide), rS2, rX.fa hN' (by decide) (by decide), rK.fa hN' (by decide) (by decide), by rw [hN'.1]; exact rs⟩, pq, pA, pK⟩⟩
theorem t_seed {E : Ev} {M : PM} (x : Int64) (hJ : J M) : TwoL E mX8_seed mX9_seed [.ref (ad E 0), .long x] [.ref (ad E 40), .long x] M := by
  obtain ⟨n, K, D, kd, pt, nd, q, w, g, an, R, F, G, Q, W, sn, sk, ss, t, tx, kp, KQ, KW, KG, s0, hC, hR, pq, pA, pK⟩ := hJ
  obtain ⟨cH, cT, cg, cA, cS, cX, ck, cs⟩ := id hC
  obtain ⟨rT, rF, rM, rS, rX, rK, rs⟩ := id hR
  refine ⟨_, k_seed E 7 M x, ?_⟩
  rintro v N ⟨rfl, rfl⟩
  have e40 : (sl M 0 x).2 40 = s0 := by show (if (40 : Nat) = 0 then x else M.2 40) = s0; rw [if_neg (by decide)]; exact rs
  obtain ⟨rT, rF, rM, rS, rX, rK, rs'⟩ := hR.sm (N := sl M 0 x) (s1 := s0) ⟨fun c _ => rfl, fun k _ => rfl⟩ e40
  refine ⟨_, cM_seed E 7 (sl M 0 x) x rT, ?_⟩
  rintro v' N' ⟨rfl, rfl⟩
  refine ⟨by rw [e40, cs], ⟨n, K, D, kd, pt, nd, q, w, g, an, R, F, G, Q, W, sn, sk, ss, t, tx, kp, KQ, KW, KG, x, hC.sm (fun c _ => rfl) ?_, hR.sm ⟨fun c _ => rfl, fun k _ => rfl⟩ sl_2, pq, pA, pK⟩⟩
  show (if (0 : Nat) = 40 then x else (sl M 0 x).2 0) = x
  rw [if_neg (by decide)]
  exact sl_2
theorem t_years {E : Ev} {M : PM} (m : Int32) (hJ : J M) : Two E mX8_years mX9_years [.ref (ad E 0), .int m] [.ref (ad E 40), .int m] M := by
  have h0 := hJ
  obtain ⟨n, K, D, kd, pt, nd, q, w, g, an, R, F, G, Q, W, sn, sk, ss, t, tx, kp, KQ, KW, KG, s0, hC, hR, pq, pA, pK⟩ := hJ
  obtain ⟨cH, cT, cg, cA, cS, cX, ck, cs⟩ := id hC
  obtain ⟨rT, rF, rM, rS, rX, rK, rs⟩ := id hR
  by_cases hm : 1 ≤ m.toInt ∧ m.toInt ≤ 30
  rotate_left
  · refine ⟨_, k_years_no E 7 M m hm, ?_⟩
    rintro v N ⟨rfl, rfl⟩
    refine ⟨_, cM_years_no E 6 M m rT hm, ?_⟩
    rintro v' N' ⟨rfl, rfl⟩
    exact ⟨rfl, h0⟩
  rcases ixc m 31 (by decide) with ⟨j, hj, rfl, hjt⟩ | hj
  rotate_left
  · exact absurd ⟨by omega, by omega⟩ hj
  refine ⟨_, k_years E 3 M n K D j q w kd pt nd s0 cH cT (by omega) (by omega) cs pq, ?_⟩
  rintro v N ⟨rfl, hN2, hN1⟩
  have e40 : N.2 40 = s0 := by rw [hN2]; show (if (40 : Nat) = 0 then yrS j s0 else M.2 40) = s0; rw [if_neg (by decide)]; exact rs
  have e0 : N.2 0 = yrS j s0 := by rw [hN2]; exact sl_2
  have hC2 : JC N n K D kd pt nd q w g an R F G sn sk ss t tx kp KQ KW KG (yrS j s0) := hC.sm (fun c hc => hN1 c (by revert c; decide)) e0
  have hR2 : JR N n K D kd pt nd q w g an Q W G sn sk ss t tx kp KQ KW KG s0 := hR.sm ⟨fun c hc => hN1 c (by revert c; decide), fun k _ => by rw [hN1 40 (by decide)]⟩ e40
  obtain ⟨rT, rF, rM, rS, rX, rK, rs⟩ := id hR2
  refine ⟨_, cM_years E 4 N n K D j q w kd pt nd s0 rT rF rM.1 (by omega) (by omega) e40, ?_⟩
  rintro v' N' ⟨rfl, hM2, hM1⟩
  refine ⟨rfl, ⟨n, K, D, kd, pt, nd, q, w, g, an, R, F, G, Q, W, sn, sk, ss, t, tx, kp, KQ, KW, KG, yrS j s0, hC2.sm (fun c hc => hM1 c (by revert c; decide)) ?_, hR2.sm ⟨fun c hc => hM1 c (by revert c; decide), fun k _ => by rw [hM1 40 (by decide)]⟩ ?_, pq, pA, pK⟩⟩
  · rw [hM2]; show (if (0 : Nat) = 40 then yrS j s0 else N.2 0) = yrS j s0; rw [if_neg (by decide)]; exact e0
  · rw [hM2]; exact sl_2
theorem pK_keep {n K s : Nat} {q kp : Nat → Nat} {KQ : Nat → Nat → Nat} (pq : ∀ r c, r < n → c < 5 → q (5 * r + c) < 4 * K) (pK : ∀ s, s < 2 → kp s ≠ 0 → ∀ r c, r < n → c < 5 → KQ s (5 * r + c) < 4 * K) : ∀ s', s' < 2 → uf kp s 1 s' ≠ 0 → ∀ r c, r < n → c < 5 → uf KQ s q s' (5 * r + c) < 4 * K := by
  intro s' hs' hk
  by_cases e : s' = s
  · subst e; rw [uf_s]; exact pq
  · rw [uf_n e] at hk ⊢; exact pK s' hs' hk
theorem t_keep {E : Ev} {M : PM} (s : Int32) (hJ : J M) : Two E mX8_keep mX9_keep [.ref (ad E 0), .int s] [.ref (ad E 40), .int s] M := by
  have h0 := hJ
  obtain ⟨n, K, D, kd, pt, nd, q, w, g, an, R, F, G, Q, W, sn, sk, ss, t, tx, kp, KQ, KW, KG, s0, hC, hR, pq, pA, pK⟩ := hJ
  obtain ⟨cH, cT, cg, cA, cS, cX, ck, cs⟩ := id hC
  obtain ⟨rT, rF, rM, rS, rX, rK, rs⟩ := id hR
  rcases ixc s 2 (by decide) with ⟨j, hj, rfl, -⟩ | hj
  rotate_left
  · refine ⟨_, k_keep_no E 7 M s hj, ?_⟩
    rintro v N ⟨rfl, rfl⟩
    refine ⟨_, cM_keep_no E 6 M s rT hj, ?_⟩
    rintro v' N' ⟨rfl, rfl⟩
    exact ⟨rfl, h0⟩
  rcases (show j = 0 ∨ j = 1 by omega) with rfl | rfl
  · refine ⟨_, k_keep_0 E 5 M n q w g kp KQ KW KG cT cg ck, ?_⟩
    rintro v N ⟨rfl, hN, ck2⟩
    obtain ⟨rT, rF, rM, rS, rX, rK, rs⟩ := hR.sm (s1 := s0) (hN.smR (by decide)) (by rw [hN.1]; exact rs)
    refine ⟨_, cM_keep E 6 N n 0 q w _ kp KQ KW KG rT hj rM.1 rM.2.1 rK, ?_⟩
    rintro v' N' ⟨rfl, hN', rK2⟩
    have hC2 : JC N n K D kd pt nd q w v' an R F G sn sk ss t tx (uf kp 0 1) (uf KQ 0 q) (uf KW 0 w) (uf KG 0 v') s0 := ⟨cH.fr hN (by decide) (by decide) (by decide) (by decide), cT.fr hN (by decide) (by decide), hN.v (by decide) cg, cA.fr hN (by decide) (by decide) (by decide) (by decide), cS.fr hN (by decide) (by decide) (by decide), cX.fr hN (by decide) (by decide), ck2, by rw [hN.1]; exact cs⟩
    exact ⟨rfl, ⟨n, K, D, kd, pt, nd, q, w, v', an, R, F, G, Q, W, sn, sk, ss, t, tx, uf kp 0 1, uf KQ 0 q, uf KW 0 w, uf KG 0 v', s0, hC2.sm (hN'.smC (by decide)) (by rw [hN'.1]; exact hC2.2.2.2.2.2.2.2), ⟨hN'.f (by decide) rT, rF.fa hN' (by decide) (by decide) (by decide) (by decide) (by decide) (by decide), rM.fa hN' (by decide) (by decide) (by decide), rS.fa hN' (by decide) (by decide) (by decide), rX.fa hN' (by decide) (by decide), rK2, by rw [hN'.1]; exact rs⟩, pq, pA, pK_keep pq pK⟩⟩
  · refine ⟨_, k_keep_1 E 5 M n q w g kp KQ KW KG cT cg ck, ?_⟩
    rintro v N ⟨rfl, hN, ck2⟩
    obtain ⟨rT, rF, rM, rS, rX, rK, rs⟩ := hR.sm (s1 := s0) (hN.smR (by decide)) (by rw [hN.1]; exact rs)
    refine ⟨_, cM_keep E 6 N n 1 q w _ kp KQ KW KG rT hj rM.1 rM.2.1 rK, ?_⟩
    rintro v' N' ⟨rfl, hN', rK2⟩
    have hC2 : JC N n K D kd pt nd q w v' an R F G sn sk ss t tx (uf kp 1 1) (uf KQ 1 q) (uf KW 1 w) (uf KG 1 v') s0 := ⟨cH.fr hN (by decide) (by decide) (by decide) (by decide), cT.fr hN (by decide) (by decide), hN.v (by decide) cg, cA.fr hN (by decide) (by decide) (by decide) (by decide), cS.fr hN (by decide) (by decide) (by decide), cX.fr hN (by decide) (by decide), ck2, by rw [hN.1]; exact cs⟩
    exact ⟨rfl, ⟨n, K, D, kd, pt, nd, q, w, v', an, R, F, G, Q, W, sn, sk, ss, t, tx, uf kp 1 1, uf KQ 1 q, uf KW 1 w, uf KG 1 v', s0, hC2.sm (hN'.smC (by decide)) (by rw [hN'.1]; exact hC2.2.2.2.2.2.2.2), ⟨hN'.f (by decide) rT, rF.fa hN' (by decide) (by decide) (by decide) (by decide) (by decide) (by decide), rM.fa hN' (by decide) (by decide) (by decide), rS.fa hN' (by decide) (by decide) (by decide), rX.fa hN' (by decide) (by decide), rK2, by rw [hN'.1]; exact rs⟩, pq, pA, pK_keep pq pK⟩⟩
theorem t_again {E : Ev} {M : PM} (s : Int32) (hJ : J M) : Two E mX8_again mX9_again [.ref (ad E 0), .int s] [.ref (ad E 40), .int s] M := by
  have h0 := hJ
  obtain ⟨n, K, D, kd, pt, nd, q, w, g, an, R, F, G, Q, W, sn, sk, ss, t, tx, kp, KQ, KW, KG, s0, hC, hR, pq, pA, pK⟩ := hJ
  obtain ⟨cH, cT, cg, cA, cS, cX, ck, cs⟩ := id hC
  obtain ⟨rT, rF, rM, rS, rX, rK, rs⟩ := id hR
  have hn5 : n ≤ 5 := cH.2.2.2.1
  rcases ixc s 2 (by decide) with ⟨j, hj, rfl, -⟩ | hj
  rotate_left
  · refine ⟨_, k_again_no E 7 M s hj, ?_⟩
    rintro v N ⟨rfl, rfl⟩
    refine ⟨_, cM_again_no E 6 M s rT hj, ?_⟩
    rintro v' N' ⟨rfl, rfl⟩
    exact ⟨rfl, h0⟩
  rcases (show j = 0 ∨ j = 1 by omega) with rfl | rfl
  · refine ⟨_, k_again_0 E 5 M n kp KQ KW KG ck, ?_⟩
    rintro v N ⟨hno, hyes⟩
    by_cases hb : kp 0 = 0
    · obtain ⟨rfl, rfl⟩ := hno hb
      refine ⟨_, cM_again E 6 M n 0 kp KQ KW KG rT hn5 hj rK, ?_⟩
      rintro v' N' ⟨hno', -⟩
      obtain ⟨rfl, rfl⟩ := hno' hb
      exact ⟨rfl, h0⟩
    · obtain ⟨rfl, hN, cT2, cg2, ca2⟩ := hyes hb
      obtain ⟨rT, rF, rM, rS, rX, rK, rs⟩ := hR.sm (s1 := s0) (hN.smR (by decide)) (by rw [hN.1]; exact rs)
      refine ⟨_, cM_again E 6 N n 0 kp KQ KW KG rT hn5 hj rK, ?_⟩
      rintro v' N' ⟨-, hyes'⟩
      obtain ⟨rfl, hN', rP2, rg2, ra2⟩ := hyes' hb
      have hC2 : JC N n K D kd pt nd (KQ 0) (KW 0) (KG 0) 0 R F G sn sk ss t tx kp KQ KW KG s0 := ⟨cH.fr hN (by decide) (by decide) (by decide) (by decide), cT2, cg2, ⟨ca2, by omega, fun j hj => absurd hj (by omega)⟩, cS.fr hN (by decide) (by decide) (by decide), cX.fr hN (by decide) (by decide), ck.fr hN (by decide), by rw [hN.1]; exact cs⟩
      exact ⟨rfl, ⟨n, K, D, kd, pt, nd, KQ 0, KW 0, KG 0, 0, R, F, G, Q, W, sn, sk, ss, t, tx, kp, KQ, KW, KG, s0, hC2.sm (hN'.smC (by decide)) (by rw [hN'.1]; exact hC2.2.2.2.2.2.2.2), ⟨hN'.f (by decide) rT, rF.fa hN' (by decide) (by decide) (by decide) (by decide) (by decide) (by decide), ⟨rP2, rg2, ra2, by omega, fun j hj => absurd hj (by omega)⟩, rS.fa hN' (by decide) (by decide) (by decide), rX.fa hN' (by decide) (by decide), rK.fa hN' (by decide) (by decide), by rw [hN'.1]; exact rs⟩, pK 0 (by omega) hb, fun j hj => absurd hj (by omega), pK⟩⟩
  · refine ⟨_, k_again_1 E 5 M n kp KQ KW KG ck, ?_⟩
    rintro v N ⟨hno, hyes⟩
    by_cases hb : kp 1 = 0
    · obtain ⟨rfl, rfl⟩ := hno hb
      refine ⟨_, cM_again E 6 M n 1 kp KQ KW KG rT hn5 hj rK, ?_⟩
      rintro v' N' ⟨hno', -⟩
      obtain ⟨rfl, rfl⟩ := hno' hb
      exact ⟨rfl, h0⟩
    · obtain ⟨rfl, hN, cT2, cg2, ca2⟩ := hyes hb
      obtain ⟨rT, rF, rM, rS, rX, rK, rs⟩ := hR.sm (s1 := s0) (hN.smR (by decide)) (by rw [hN.1]; exact rs)
      refine ⟨_, cM_again E 6 N n 1 kp KQ KW KG rT hn5 hj rK, ?_⟩
      rintro v' N' ⟨-, hyes'⟩
      obtain ⟨rfl, hN', rP2, rg2, ra2⟩ := hyes' hb
      have hC2 : JC N n K D kd pt nd (KQ 1) (KW 1) (KG 1) 0 R F G sn sk ss t tx kp KQ KW KG s0 := ⟨cH.fr hN (by decide) (by decide) (by decide) (by decide), cT2, cg2, ⟨ca2, by omega, fun j hj => absurd hj (by omega)⟩, cS.fr hN (by decide) (by decide) (by decide), cX.fr hN (by decide) (by decide), ck.fr hN (by decide), by rw [hN.1]; exact cs⟩
      exact ⟨rfl, ⟨n, K, D, kd, pt, nd, KQ 1, KW 1, KG 1, 0, R, F, G, Q, W, sn, sk, ss, t, tx, kp, KQ, KW, KG, s0, hC2.sm (hN'.smC (by decide)) (by rw [hN'.1]; exact hC2.2.2.2.2.2.2.2), ⟨hN'.f (by decide) rT, rF.fa hN' (by decide) (by decide) (by decide) (by decide) (by decide) (by decide), ⟨rP2, rg2, ra2, by omega, fun j hj => absurd hj (by omega)⟩, rS.fa hN' (by decide) (by decide) (by decide), rX.fa hN' (by decide) (by decide), rK.fa hN' (by decide) (by decide), by rw [hN'.1]; exact rs⟩, pK 1 (by omega) hb, fun j hj => absurd hj (by omega), pK⟩⟩
