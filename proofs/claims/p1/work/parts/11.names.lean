-- ===== printed names =====

theorem cmp_self (v : Int64) : lg_cmp v v = 0 := by
  unfold lg_cmp
  rw [if_neg (Int64.lt_irrefl), if_pos rfl]
theorem z0 : (0 : Int32).toNatClampNeg = 0 := by decide
theorem fst5_30 : ∀ j : Nat, j < 5 → fst5 j = 30 := by
  intro j hj
  rcases (show j = 0 ∨ j = 1 ∨ j = 2 ∨ j = 3 ∨ j = 4 by omega) with rfl | rfl | rfl | rfl | rfl <;> rfl
