theorem zz_neA {x : Int32} (h : x < 0) : ¬ x = 0 := by
  rintro rfl; exact absurd h (by decide)
theorem zz_neB {x : Int32} (h : ¬ x < 1) : ¬ x = 0 := by
  rintro rfl; exact absurd (by decide) h
theorem zz_neC {x : Int32} (h : 1 ≤ x) : ¬ x = 0 := by
  rintro rfl; exact absurd h (by decide)

