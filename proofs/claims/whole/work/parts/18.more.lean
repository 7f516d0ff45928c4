theorem x_lk14 {o : Nat} (h : o ≤ 14) (h1 : ¬ o = 1) (h2 : ¬ o = 2) (h3 : ¬ o = 3) (h4 : ¬ o = 13) : Op.lookupswitch.offset (#[(1, 43), (2, 55), (3, 67), (13, 79)] : Array (Int × Int)).toList 95 (nI o).toInt = 95 := by
  have e : o = 0 ∨ o = 4 ∨ o = 5 ∨ o = 6 ∨ o = 7 ∨ o = 8 ∨ o = 9 ∨ o = 10 ∨ o = 11 ∨ o = 12 ∨ o = 14 := by omega
  rcases e with rfl | rfl | rfl | rfl | rfl | rfl | rfl | rfl | rfl | rfl | rfl <;> decide
