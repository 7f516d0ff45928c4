theorem x_t02 {x : Int32} (h0 : ¬ x = 0) (h1 : ¬ x = 1) (h2 : ¬ x = 2) : x.toInt < 0 ∨ 2 < x.toInt := by
  apply Classical.byContradiction
  intro hc
  have e : x.toInt = 0 ∨ x.toInt = 1 ∨ x.toInt = 2 := by omega
  rcases e with e | e | e
  · exact h0 (Int32.toInt_inj.mp (e.trans (by decide)))
  · exact h1 (Int32.toInt_inj.mp (e.trans (by decide)))
  · exact h2 (Int32.toInt_inj.mp (e.trans (by decide)))
theorem x_t03 {x : Int32} (h0 : ¬ x = 0) (h1 : ¬ x = 1) (h2 : ¬ x = 2) (h3 : ¬ x = 3) : x.toInt < 0 ∨ 3 < x.toInt := by
  apply Classical.byContradiction
  intro hc
  have e : x.toInt = 0 ∨ x.toInt = 1 ∨ x.toInt = 2 ∨ x.toInt = 3 := by omega
  rcases e with e | e | e | e
  · exact h0 (Int32.toInt_inj.mp (e.trans (by decide)))
  · exact h1 (Int32.toInt_inj.mp (e.trans (by decide)))
  · exact h2 (Int32.toInt_inj.mp (e.trans (by decide)))
  · exact h3 (Int32.toInt_inj.mp (e.trans (by decide)))
theorem xr_n3 {x : Int32} (h0 : ¬ x = 0) (h1 : ¬ x = 1) (h2 : ¬ x = 2) : xr x 3 = false := by
  cases c : xr x 3 with
  | false => rfl
  | true =>
    obtain ⟨j, hj, rfl⟩ := xr_nat c (by decide)
    have e : j = 0 ∨ j = 1 ∨ j = 2 := by omega
    rcases e with rfl | rfl | rfl
    · exact absurd rfl h0
    · exact absurd rfl h1
    · exact absurd rfl h2
theorem x_is4 {x : Int32} (h1 : ¬ x < 0) (h6 : x ≤ nI 5) (g0 : ¬ x = 0) (g1 : ¬ x = 1) (g2 : ¬ x = 2) (g3 : ¬ x = 3) (g5 : ¬ x = nI 5) : x = 4 := by
  rw [Int32.lt_iff_toInt_lt, show (0 : Int32).toInt = 0 by decide] at h1
  rw [Int32.le_iff_toInt_le, show (nI 5).toInt = 5 by decide] at h6
  have e : x.toInt = 0 ∨ x.toInt = 1 ∨ x.toInt = 2 ∨ x.toInt = 3 ∨ x.toInt = 4 ∨ x.toInt = 5 := by omega
  rcases e with e | e | e | e | e | e
  · exact absurd (Int32.toInt_inj.mp (e.trans (by decide))) g0
  · exact absurd (Int32.toInt_inj.mp (e.trans (by decide))) g1
  · exact absurd (Int32.toInt_inj.mp (e.trans (by decide))) g2
  · exact absurd (Int32.toInt_inj.mp (e.trans (by decide))) g3
  · exact Int32.toInt_inj.mp (e.trans (by decide))
  · exact absurd (Int32.toInt_inj.mp (e.trans (by decide))) g5
