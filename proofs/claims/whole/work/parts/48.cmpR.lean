-- ===== the component: the seed =====
theorem seedOnly8 : ∀ j : Nat, ([.inl 1, .inl 3, .inl 8, .inl 13, .inl 16, .inl 19, .inl 26, .inl 27, .inl 31, .inl 34, .inl 37, .inl 39, .inr true] : List (Nat ⊕ Bool))[j]? = some (Sum.inr true) → j = 12 := by
  intro j h
  match j with
  | 0 | 1 | 2 | 3 | 4 | 5 | 6 | 7 | 8 | 9 | 10 | 11 => simp at h
  | 12 => rfl
  | k + 13 => simp at h
set_option maxHeartbeats 8000000 in
theorem k_seed (E : Ev) (d : Nat) (M : PM) (x : Int64) : Cl E d mX8_seed [.ref (ad E 0), .long x] M (fun v N => v = M.2 0 ∧ N = sl M 0 x) := by
  refine Ct.ofl [some (.ref (ad E 0)), some (.long x), none, none, none] (own := RX8) rfl (by decide) (Nat.le_of_ble_eq_true rfl) rfl (fun C hR => ?_)
  refine x_aload_n dX8_seed_0 rfl rfl ?_
  refine x_getl dX8_seed_1 fX8_81 rfl rfl (by decide) ?_
  refine xls5_3 dX8_seed_4 rfl ?_
  refine x_aload_n dX8_seed_5 rfl rfl ?_
  refine x_lload_n dX8_seed_6 rfl rfl ?_
  refine x_putl dX8_seed_7 pX8_81 rfl rfl seedOnly8 (by decide) ?_
  refine x_lload_n dX8_seed_10 rfl rfl ?_
  exact hR _ _ _ _ dX8_seed_11 (⟨rfl, rfl⟩)
