-- ===== the two answer alike: what is only asked =====
theorem t_about {E : Ev} {M : PM} (x : Int32) (hJ : J M) : Two E mX8_about mX9_about [.ref (ad E 0), .int x] [.ref (ad E 40), .int x] M := by
  have h0 := hJ
  obtain ⟨n, K, D, kd, pt, nd, q, w, g, an, R, F, G, Q, W, sn, sk, ss, t, tx, kp, KQ, KW, KG, s0, hC, hR, pq, pA, pK⟩ := hJ
  obtain ⟨cH, cT, cg, cA, cS, cX, ck, cs⟩ := id hC
  obtain ⟨rT, rF, rM, rS, rX, rK, rs⟩ := id hR
  refine ⟨_, k_about E 2 M n K D an sn t g q w kd pt nd x cH cT pq cg cA.1 cS.1 cX.1, ?_⟩
  rintro v N ⟨rfl, hN⟩
  have hs : Sc M N := hN.Sc (by decide) (by decide)
  obtain ⟨rT, rF, rM, rS, rX, rK, rs⟩ := hR.sm (s1 := s0) hs.smR (by rw [hs.1]; exact rs)
  refine ⟨_, cM_about E 4 N n K D an sn t g q w kd pt nd x rT rF rM.1 rM.2.1 rM.2.2.1 rS.1 rX.1, ?_⟩
  rintro v' N' ⟨rfl, hN'⟩
  exact ⟨rfl, (h0.sc hs).sc hN'⟩
theorem t_cell {E : Ev} {M : PM} (r c x : Int32) (hJ : J M) : Two E mX8_cell mX9_cell [.ref (ad E 0), .int r, .int c, .int x] [.ref (ad E 40), .int r, .int c, .int x] M := by
  have h0 := hJ
  obtain ⟨n, K, D, kd, pt, nd, q, w, g, an, R, F, G, Q, W, sn, sk, ss, t, tx, kp, KQ, KW, KG, s0, hC, hR, pq, pA, pK⟩ := hJ
  obtain ⟨cH, cT, cg, cA, cS, cX, ck, cs⟩ := id hC
  obtain ⟨rT, rF, rM, rS, rX, rK, rs⟩ := id hR
  refine ⟨_, k_cell E 2 M n K D q w kd pt nd r c x cH cT pq, ?_⟩
  rintro v N ⟨rfl, hN⟩
  have hs : Sc M N := hN.Sc (by decide) (by decide)
  obtain ⟨rT, rF, rM, rS, rX, rK, rs⟩ := hR.sm (s1 := s0) hs.smR (by rw [hs.1]; exact rs)
  refine ⟨_, cM_cell E 6 N n K D q w kd pt nd r c x rT rF rM.1 pq, ?_⟩
  rintro v' N' ⟨rfl, hN'⟩
  exact ⟨rfl, (h0.sc hs).sc hN'⟩
theorem t_kin {E : Ev} {M : PM} (k x : Int32) (hJ : J M) : Two E mX8_kin mX9_kin [.ref (ad E 0), .int k, .int x] [.ref (ad E 40), .int k, .int x] M := by
  have h0 := hJ
  obtain ⟨n, K, D, kd, pt, nd, q, w, g, an, R, F, G, Q, W, sn, sk, ss, t, tx, kp, KQ, KW, KG, s0, hC, hR, pq, pA, pK⟩ := hJ
  obtain ⟨cH, cT, cg, cA, cS, cX, ck, cs⟩ := id hC
  obtain ⟨rT, rF, rM, rS, rX, rK, rs⟩ := id hR
  refine ⟨_, k_kin E 2 M n K D q w kd pt nd k x cH cT pq, ?_⟩
  rintro v N ⟨rfl, hN⟩
  have hs : Sc M N := hN.Sc (by decide) (by decide)
  obtain ⟨rT, rF, rM, rS, rX, rK, rs⟩ := hR.sm (s1 := s0) hs.smR (by rw [hs.1]; exact rs)
  refine ⟨_, cM_kin E 4 N n K D q w kd pt nd k x rT rF rM.1 pq, ?_⟩
  rintro v' N' ⟨rfl, hN'⟩
  exact ⟨rfl, (h0.sc hs).sc hN'⟩
theorem t_has {E : Ev} {M : PM} (h p : Int32) (hJ : J M) : Two E mX8_has mX9_has [.ref (ad E 0), .int h, .int p] [.ref (ad E 40), .int h, .int p] M := by
  have h0 := hJ
  obtain ⟨n, K, D, kd, pt, nd, q, w, g, an, R, F, G, Q, W, sn, sk, ss, t, tx, kp, KQ, KW, KG, s0, hC, hR, pq, pA, pK⟩ := hJ
  obtain ⟨cH, cT, cg, cA, cS, cX, ck, cs⟩ := id hC
  obtain ⟨rT, rF, rM, rS, rX, rK, rs⟩ := id hR
  refine ⟨_, k_has E 2 M n K D q w kd pt nd h p cH cT pq, ?_⟩
  rintro v N ⟨rfl, hN⟩
  have hs : Sc M N := hN.Sc (by decide) (by decide)
  obtain ⟨rT, rF, rM, rS, rX, rK, rs⟩ := hR.sm (s1 := s0) hs.smR (by rw [hs.1]; exact rs)
  refine ⟨_, cM_has E 5 N n K D q w kd pt nd h p rT rF rM.1 pq, ?_⟩
  rintro v' N' ⟨rfl, hN'⟩
  exact ⟨rfl, (h0.sc hs).sc hN'⟩
theorem t_can {E : Ev} {M : PM} (h : Int32) (hJ : J M) : Two E mX8_can mX9_can [.ref (ad E 0), .int h] [.ref (ad E 40), .int h] M := by
  have h0 := hJ
  obtain ⟨n, K, D, kd, pt, nd, q, w, g, an, R, F, G, Q, W, sn, sk, ss, t, tx, kp, KQ, KW, KG, s0, hC, hR, pq, pA, pK⟩ := hJ
  obtain ⟨cH, cT, cg, cA, cS, cX, ck, cs⟩ := id hC
  obtain ⟨rT, rF, rM, rS, rX, rK, rs⟩ := id hR
  refine ⟨_, k_can E 2 M n K D q w kd pt nd h cH cT pq, ?_⟩
  rintro v N ⟨rfl, hN⟩
  have hs : Sc M N := hN.Sc (by decide) (by decide)
  obtain ⟨rT, rF, rM, rS, rX, rK, rs⟩ := hR.sm (s1 := s0) hs.smR (by rw [hs.1]; exact rs)
  refine ⟨_, cM_can E 4 N n K D q w kd pt nd h rT rF rM.1 pq, ?_⟩
  rintro v' N' ⟨rfl, hN'⟩
  exact ⟨rfl, (h0.sc hs).sc hN'⟩
theorem t_fault {E : Ev} {M : PM}  (hJ : J M) : Two E mX8_fault mX9_fault [.ref (ad E 0)] [.ref (ad E 40)] M := by
  have h0 := hJ
  obtain ⟨n, K, D, kd, pt, nd, q, w, g, an, R, F, G, Q, W, sn, sk, ss, t, tx, kp, KQ, KW, KG, s0, hC, hR, pq, pA, pK⟩ := hJ
  obtain ⟨cH, cT, cg, cA, cS, cX, ck, cs⟩ := id hC
  obtain ⟨rT, rF, rM, rS, rX, rK, rs⟩ := id hR
  refine ⟨_, k_fault E 4 M t tx cX, ?_⟩
  rintro v N ⟨rfl, hN⟩
  have hs : Sc M N := hN.Sc (by decide) (by decide)
  obtain ⟨rT, rF, rM, rS, rX, rK, rs⟩ := hR.sm (s1 := s0) hs.smR (by rw [hs.1]; exact rs)
  refine ⟨_, cM_fault E 2 N t tx rT rX, ?_⟩
  rintro v' N' ⟨rfl, hN'⟩
  exact ⟨rfl, (h0.sc hs).sc (hN'.Sc (by decide) (by decide))⟩
theorem t_best {E : Ev} {M : PM} (x : Int32) (hJ : J M) : Two E mX8_best mX9_best [.ref (ad E 0), .int x] [.ref (ad E 40), .int x] M := by
  have h0 := hJ
  obtain ⟨n, K, D, kd, pt, nd, q, w, g, an, R, F, G, Q, W, sn, sk, ss, t, tx, kp, KQ, KW, KG, s0, hC, hR, pq, pA, pK⟩ := hJ
  obtain ⟨cH, cT, cg, cA, cS, cX, ck, cs⟩ := id hC
  obtain ⟨rT, rF, rM, rS, rX, rK, rs⟩ := id hR
  have hn5 : n ≤ 5 := cH.2.2.2.1
  have hK5 : K ≤ 5 := cH.2.2.2.2.1
  have hD4 : D ≤ 4 := cH.2.2.2.2.2.1
  rcases ixc x 2 (by omega) with ⟨xj, hx, rfl, -⟩ | hx
  rotate_left
  · skip
    refine ⟨_, k_best_no E 7 M x hx, ?_⟩
    rintro v N ⟨rfl, rfl⟩
    have hs : Sc M M := Sc.rf
    obtain ⟨rT, rF, rM, rS, rX, rK, rs⟩ := hR.sm (s1 := s0) hs.smR (by rw [hs.1]; exact rs)
    refine ⟨_, cM_best_no E 6 M x rT hx, ?_⟩
    rintro v' N' ⟨rfl, rfl⟩
    exact ⟨rfl, h0.sc hs⟩
  refine ⟨_, k_best E 3 M n K D xj q w kd pt nd cH cT hx pq, ?_⟩
  rintro v N ⟨rfl, hN⟩
  have hs : Sc M N := hN.Sc (by decide) (by decide)
  obtain ⟨rT, rF, rM, rS, rX, rK, rs⟩ := hR.sm (s1 := s0) hs.smR (by rw [hs.1]; exact rs)
  refine ⟨_, cM_best E 4 N n K D xj q w kd pt nd rT rF rM.1 hx pq, ?_⟩
  rintro v' N' ⟨rfl, hN'⟩
  exact ⟨rfl, (h0.sc hs).sc (hN'.Sc (by decide) (by decide))⟩
theorem t_traces {E : Ev} {M : PM} (x : Int32) (hJ : J M) : Two E mX8_traces mX9_traces [.ref (ad E 0), .int x] [.ref (ad E 40), .int x] M := by
  have h0 := hJ
  obtain ⟨n, K, D, kd, pt, nd, q, w, g, an, R, F, G, Q, W, sn, sk, ss, t, tx, kp, KQ, KW, KG, s0, hC, hR, pq, pA, pK⟩ := hJ
  obtain ⟨cH, cT, cg, cA, cS, cX, ck, cs⟩ := id hC
  obtain ⟨rT, rF, rM, rS, rX, rK, rs⟩ := id hR
  have hn5 : n ≤ 5 := cH.2.2.2.1
  have hK5 : K ≤ 5 := cH.2.2.2.2.1
  have hD4 : D ≤ 4 := cH.2.2.2.2.2.1
  rcases ixc x 2 (by omega) with ⟨xj, hx, rfl, -⟩ | hx
  rotate_left
  · skip
    refine ⟨_, k_traces_no E 7 M x hx, ?_⟩
    rintro v N ⟨rfl, rfl⟩
    have hs : Sc M M := Sc.rf
    obtain ⟨rT, rF, rM, rS, rX, rK, rs⟩ := hR.sm (s1 := s0) hs.smR (by rw [hs.1]; exact rs)
    refine ⟨_, cM_traces_no E 6 M x rT hx, ?_⟩
    rintro v' N' ⟨rfl, rfl⟩
    exact ⟨rfl, h0.sc hs⟩
  refine ⟨_, k_traces E 3 M n K D xj sn q w kd pt nd sk ss cH cT cS hx pq, ?_⟩
  rintro v N ⟨rfl, hN⟩
  have hs : Sc M N := hN.Sc (by decide) (by decide)
  obtain ⟨rT, rF, rM, rS, rX, rK, rs⟩ := hR.sm (s1 := s0) hs.smR (by rw [hs.1]; exact rs)
  refine ⟨_, cM_traces E 5 N n K D xj sn q w kd pt nd sk ss rT rF rM.1 rS hx, ?_⟩
  rintro v' N' ⟨rfl, hN'⟩
  exact ⟨rfl, (h0.sc hs).sc (hN'.Sc (by decide) (by decide))⟩
theorem t_rests {E : Ev} {M : PM} (x : Int32) (hJ : J M) : Two E mX8_rests mX9_rests [.ref (ad E 0), .int x] [.ref (ad E 40), .int x] M := by
  have h0 := hJ
  obtain ⟨n, K, D, kd, pt, nd, q, w, g, an, R, F, G, Q, W, sn, sk, ss, t, tx, kp, KQ, KW, KG, s0, hC, hR, pq, pA, pK⟩ := hJ
  obtain ⟨cH, cT, cg, cA, cS, cX, ck, cs⟩ := id hC
  obtain ⟨rT, rF, rM, rS, rX, rK, rs⟩ := id hR
  have hn5 : n ≤ 5 := cH.2.2.2.1
  have hK5 : K ≤ 5 := cH.2.2.2.2.1
  have hD4 : D ≤ 4 := cH.2.2.2.2.2.1
  rcases ixc x 2 (by omega) with ⟨xj, hx, rfl, -⟩ | hx
  rotate_left
  · skip
    refine ⟨_, k_rests_no E 7 M x hx, ?_⟩
    rintro v N ⟨rfl, rfl⟩
    have hs : Sc M M := Sc.rf
    obtain ⟨rT, rF, rM, rS, rX, rK, rs⟩ := hR.sm (s1 := s0) hs.smR (by rw [hs.1]; exact rs)
    refine ⟨_, cM_rests_no E 6 M x rT hx, ?_⟩
    rintro v' N' ⟨rfl, rfl⟩
    exact ⟨rfl, h0.sc hs⟩
  refine ⟨_, k_rests E 4 M n xj q w cH.1 cT hx, ?_⟩
  rintro v N ⟨rfl, hN⟩
  have hs : Sc M N := hN.Sc (by decide) (by decide)
  obtain ⟨rT, rF, rM, rS, rX, rK, rs⟩ := hR.sm (s1 := s0) hs.smR (by rw [hs.1]; exact rs)
  refine ⟨_, cM_rests E 6 N n xj q w rT rF.1 rM.1 hx, ?_⟩
  rintro v' N' ⟨rfl, hN'⟩
  exact ⟨rfl, (h0.sc hs).sc (hN'.Sc (by decide) (by decide))⟩
theorem t_fewest {E : Ev} {M : PM} (e x : Int32) (hJ : J M) : Two E mX8_fewest mX9_fewest [.ref (ad E 0), .int e, .int x] [.ref (ad E 40), .int e, .int x] M := by
  have h0 := hJ
  obtain ⟨n, K, D, kd, pt, nd, q, w, g, an, R, F, G, Q, W, sn, sk, ss, t, tx, kp, KQ, KW, KG, s0, hC, hR, pq, pA, pK⟩ := hJ
  obtain ⟨cH, cT, cg, cA, cS, cX, ck, cs⟩ := id hC
  obtain ⟨rT, rF, rM, rS, rX, rK, rs⟩ := id hR
  have hn5 : n ≤ 5 := cH.2.2.2.1
  have hK5 : K ≤ 5 := cH.2.2.2.2.1
  have hD4 : D ≤ 4 := cH.2.2.2.2.2.1
  by_cases hx0 : inR e D ∧ inR x 2
  rotate_left
  · skip
    refine ⟨_, k_fewest_no E 6 M D e x cH.2.2.1 hD4 hx0, ?_⟩
    rintro v N ⟨rfl, rfl⟩
    have hs : Sc M M := Sc.rf
    obtain ⟨rT, rF, rM, rS, rX, rK, rs⟩ := hR.sm (s1 := s0) hs.smR (by rw [hs.1]; exact rs)
    refine ⟨_, cM_fewest_no E 6 M D e x rT rF.2.2.1 hD4 hx0, ?_⟩
    rintro v' N' ⟨rfl, rfl⟩
    exact ⟨rfl, h0.sc hs⟩
  rcases ixc e D (by omega) with ⟨ej, he, rfl, -⟩ | he
  rotate_left
  · exact absurd hx0.1 he
  rcases ixc x 2 (by omega) with ⟨xj, hx, rfl, -⟩ | hx
  rotate_left
  · exact absurd hx0.2 hx
  refine ⟨_, k_fewest E 3 M n K D ej xj q w kd pt nd cH cT he hx pq, ?_⟩
  rintro v N ⟨rfl, hN⟩
  have hs : Sc M N := hN.Sc (by decide) (by decide)
  obtain ⟨rT, rF, rM, rS, rX, rK, rs⟩ := hR.sm (s1 := s0) hs.smR (by rw [hs.1]; exact rs)
  refine ⟨_, cM_fewest E 4 N n K D ej xj q w kd pt nd rT rF rM.1 he hx pq, ?_⟩
  rintro v' N' ⟨rfl, hN'⟩
  exact ⟨rfl, (h0.sc hs).sc (hN'.Sc (by decide) (by decide))⟩
theorem t_fair {E : Ev} {M : PM} (a b x : Int32) (hJ : J M) : Two E mX8_fair mX9_fair [.ref (ad E 0), .int a, .int b, .int x] [.ref (ad E 40), .int a, .int b, .int x] M := by
  have h0 := hJ
  obtain ⟨n, K, D, kd, pt, nd, q, w, g, an, R, F, G, Q, W, sn, sk, ss, t, tx, kp, KQ, KW, KG, s0, hC, hR, pq, pA, pK⟩ := hJ
  obtain ⟨cH, cT, cg, cA, cS, cX, ck, cs⟩ := id hC
  obtain ⟨rT, rF, rM, rS, rX, rK, rs⟩ := id hR
  have hn5 : n ≤ 5 := cH.2.2.2.1
  have hK5 : K ≤ 5 := cH.2.2.2.2.1
  have hD4 : D ≤ 4 := cH.2.2.2.2.2.1
  by_cases hx0 : inR a 10000 ∧ inR b 10000 ∧ inR x 2
  rotate_left
  · skip
    refine ⟨_, k_fair_no E 6 M a b x hx0, ?_⟩
    rintro v N ⟨rfl, rfl⟩
    have hs : Sc M M := Sc.rf
    obtain ⟨rT, rF, rM, rS, rX, rK, rs⟩ := hR.sm (s1 := s0) hs.smR (by rw [hs.1]; exact rs)
    refine ⟨_, cM_fair_no E 6 M a b x rT hx0, ?_⟩
    rintro v' N' ⟨rfl, rfl⟩
    exact ⟨rfl, h0.sc hs⟩
  rcases ixc a 10000 (by omega) with ⟨aj, ha, rfl, -⟩ | ha
  rotate_left
  · exact absurd hx0.1 ha
  rcases ixc b 10000 (by omega) with ⟨bj, hb, rfl, -⟩ | hb
  rotate_left
  · exact absurd hx0.2.1 hb
  rcases ixc x 2 (by omega) with ⟨xj, hx, rfl, -⟩ | hx
  rotate_left
  · exact absurd hx0.2.2 hx
  refine ⟨_, k_fair E 3 M n K D aj bj xj q w kd pt nd cH cT ha hb hx pq, ?_⟩
  rintro v N ⟨rfl, hN⟩
  have hs : Sc M N := hN.Sc (by decide) (by decide)
  obtain ⟨rT, rF, rM, rS, rX, rK, rs⟩ := hR.sm (s1 := s0) hs.smR (by rw [hs.1]; exact rs)
  refine ⟨_, cM_fair E 4 N n K D aj bj xj q w kd pt nd rT rF rM.1 ha hb hx pq, ?_⟩
  rintro v' N' ⟨rfl, hN'⟩
  exact ⟨rfl, (h0.sc hs).sc (hN'.Sc (by decide) (by decide))⟩
theorem t_judge {E : Ev} {M : PM} (m row : Int32) (hJ : J M) : Two E mX8_judge mX9_judge [.ref (ad E 0), .int m, .int row] [.ref (ad E 40), .int m, .int row] M := by
  have h0 := hJ
  obtain ⟨n, K, D, kd, pt, nd, q, w, g, an, R, F, G, Q, W, sn, sk, ss, t, tx, kp, KQ, KW, KG, s0, hC, hR, pq, pA, pK⟩ := hJ
  obtain ⟨cH, cT, cg, cA, cS, cX, ck, cs⟩ := id hC
  obtain ⟨rT, rF, rM, rS, rX, rK, rs⟩ := id hR
  have hn5 : n ≤ 5 := cH.2.2.2.1
  have hK5 : K ≤ 5 := cH.2.2.2.2.1
  have hD4 : D ≤ 4 := cH.2.2.2.2.2.1
  by_cases hj : jdOk m row
  rotate_left
  · skip
    refine ⟨_, k_judge_no E 7 M m row hj, ?_⟩
    rintro v N ⟨rfl, rfl⟩
    have hs : Sc M M := Sc.rf
    obtain ⟨rT, rF, rM, rS, rX, rK, rs⟩ := hR.sm (s1 := s0) hs.smR (by rw [hs.1]; exact rs)
    refine ⟨_, cM_judge_no E 6 M m row rT hj, ?_⟩
    rintro v' N' ⟨rfl, rfl⟩
    exact ⟨rfl, h0.sc hs⟩
  obtain ⟨⟨j1, j4⟩, j0, jl⟩ := hj
  rcases ixc m 5 (by omega) with ⟨mj, hm, rfl, hmt⟩ | hm
  rotate_left
  · exact absurd ⟨by omega, by omega⟩ hm
  rw [tn_nI (by omega)] at jl
  have h100 := p100 (show mj ≤ 4 by omega)
  rcases ixc row (100 ^ mj) (by omega) with ⟨rj, hr, rfl, -⟩ | hr
  rotate_left
  · exact absurd ⟨j0, jl⟩ hr
  refine ⟨_, k_judge E 3 M n mj rj q w cH.1 cT (by omega) (by omega) hr, ?_⟩
  rintro v N ⟨rfl, hN⟩
  have hs : Sc M N := hN.Sc (by decide) (by decide)
  obtain ⟨rT, rF, rM, rS, rX, rK, rs⟩ := hR.sm (s1 := s0) hs.smR (by rw [hs.1]; exact rs)
  refine ⟨_, cM_judge E 4 N n mj rj q w rT rF.1 rM.1 (by omega) (by omega) hr, ?_⟩
  rintro v' N' ⟨rfl, hN'⟩
  exact ⟨rfl, (h0.sc hs).sc (hN'.Sc (by decide) (by decide))⟩
theorem t_share {E : Ev} {M : PM} (k h p : Int32) (hJ : J M) : Two E mX8_share mX9_share [.ref (ad E 0), .int k, .int h, .int p] [.ref (ad E 40), .int k, .int h, .int p] M := by
  have h0 := hJ
  obtain ⟨n, K, D, kd, pt, nd, q, w, g, an, R, F, G, Q, W, sn, sk, ss, t, tx, kp, KQ, KW, KG, s0, hC, hR, pq, pA, pK⟩ := hJ
  obtain ⟨cH, cT, cg, cA, cS, cX, ck, cs⟩ := id hC
  obtain ⟨rT, rF, rM, rS, rX, rK, rs⟩ := id hR
  have hn5 : n ≤ 5 := cH.2.2.2.1
  have hK5 : K ≤ 5 := cH.2.2.2.2.1
  have hD4 : D ≤ 4 := cH.2.2.2.2.2.1
  by_cases hx0 : inR k K ∧ inR h 2
  rotate_left
  · skip
    refine ⟨_, k_share_no E 6 M K k h p cH.2.1 hK5 hx0, ?_⟩
    rintro v N ⟨rfl, rfl⟩
    have hs : Sc M M := Sc.rf
    obtain ⟨rT, rF, rM, rS, rX, rK, rs⟩ := hR.sm (s1 := s0) hs.smR (by rw [hs.1]; exact rs)
    refine ⟨_, cM_share_no E 6 M K k h p rT rF.2.1 hK5 hx0, ?_⟩
    rintro v' N' ⟨rfl, rfl⟩
    exact ⟨rfl, h0.sc hs⟩
  rcases ixc k K (by omega) with ⟨kj, hk, rfl, -⟩ | hk
  rotate_left
  · exact absurd hx0.1 hk
  rcases ixc h 2 (by omega) with ⟨hj, hh, rfl, -⟩ | hh
  rotate_left
  · exact absurd hx0.2 hh
  refine ⟨_, k_share E 2 M n K D kj hj p q w kd pt nd cH cT hk hh pq, ?_⟩
  rintro v N ⟨rfl, hN⟩
  have hs : Sc M N := hN.Sc (by decide) (by decide)
  obtain ⟨rT, rF, rM, rS, rX, rK, rs⟩ := hR.sm (s1 := s0) hs.smR (by rw [hs.1]; exact rs)
  refine ⟨_, cM_share E 4 N n K D kj hj p q w kd pt nd rT rF rM.1 hk hh pq, ?_⟩
  rintro v' N' ⟨rfl, hN'⟩
  exact ⟨rfl, (h0.sc hs).sc (hN'.Sc (by decide) (by decide))⟩
theorem t_slips {E : Ev} {M : PM} (e h x p : Int32) (hJ : J M) : Two E mX8_slips mX9_slips [.ref (ad E 0), .int e, .int h, .int x, .int p] [.ref (ad E 40), .int e, .int h, .int x, .int p] M := by
  have h0 := hJ
  obtain ⟨n, K, D, kd, pt, nd, q, w, g, an, R, F, G, Q, W, sn, sk, ss, t, tx, kp, KQ, KW, KG, s0, hC, hR, pq, pA, pK⟩ := hJ
  obtain ⟨cH, cT, cg, cA, cS, cX, ck, cs⟩ := id hC
  obtain ⟨rT, rF, rM, rS, rX, rK, rs⟩ := id hR
  have hn5 : n ≤ 5 := cH.2.2.2.1
  have hK5 : K ≤ 5 := cH.2.2.2.2.1
  have hD4 : D ≤ 4 := cH.2.2.2.2.2.1
  by_cases hx0 : inR e D ∧ inR h 2 ∧ inR x 11
  rotate_left
  · skip
    refine ⟨_, k_slips_no E 6 M D e h x p cH.2.2.1 hD4 hx0, ?_⟩
    rintro v N ⟨rfl, rfl⟩
    have hs : Sc M M := Sc.rf
    obtain ⟨rT, rF, rM, rS, rX, rK, rs⟩ := hR.sm (s1 := s0) hs.smR (by rw [hs.1]; exact rs)
    refine ⟨_, cM_slips_no E 6 M D e h x p rT rF.2.2.1 hD4 hx0, ?_⟩
    rintro v' N' ⟨rfl, rfl⟩
    exact ⟨rfl, h0.sc hs⟩
  rcases ixc e D (by omega) with ⟨ej, he, rfl, -⟩ | he
  rotate_left
  · exact absurd hx0.1 he
  rcases ixc h 2 (by omega) with ⟨hj, hh, rfl, -⟩ | hh
  rotate_left
  · exact absurd hx0.2.1 hh
  rcases ixc x 11 (by omega) with ⟨xj, hx, rfl, -⟩ | hx
  rotate_left
  · exact absurd hx0.2.2 hx
  refine ⟨_, k_slips E 3 M n K D ej hj xj p q w kd pt nd cH cT he hh hx pq, ?_⟩
  rintro v N ⟨rfl, hN⟩
  have hs : Sc M N := hN.Sc (by decide) (by decide)
  obtain ⟨rT, rF, rM, rS, rX, rK, rs⟩ := hR.sm (s1 := s0) hs.smR (by rw [hs.1]; exact rs)
  refine ⟨_, cM_slips E 4 N n K D ej hj xj p q w kd pt nd rT rF rM.1 he hh hx pq, ?_⟩
  rintro v' N' ⟨rfl, hN'⟩
  exact ⟨rfl, (h0.sc hs).sc (hN'.Sc (by decide) (by decide))⟩
