theorem zsw_out5 {x : Int32} (h0 : ¬ x = 0) (h1 : ¬ x = 1) (h2 : ¬ x = 2) (h3 : ¬ x = 3) (h4 : ¬ x = 4) : x.toInt < 0 ∨ 4 < x.toInt := by
  rcases Int.lt_or_le x.toInt 0 with h | h
  · exact Or.inl h
  · rcases Int.lt_or_le 4 x.toInt with h' | h'
    · exact Or.inr h'
    · exfalso
      have e0 : ¬ x.toInt = 0 := fun e => h0 (Int32.toInt_inj.mp e)
      have e1 : ¬ x.toInt = 1 := fun e => h1 (Int32.toInt_inj.mp e)
      have e2 : ¬ x.toInt = 2 := fun e => h2 (Int32.toInt_inj.mp e)
      have e3 : ¬ x.toInt = 3 := fun e => h3 (Int32.toInt_inj.mp e)
      have e4 : ¬ x.toInt = 4 := fun e => h4 (Int32.toInt_inj.mp e)
      omega
theorem zsw_out6 {x : Int32} (h0 : ¬ x = 0) (h1 : ¬ x = 1) (h2 : ¬ x = 2) (h3 : ¬ x = 3) (h4 : ¬ x = 4) (h5 : ¬ x = 5) : x.toInt < 0 ∨ 5 < x.toInt := by
  rcases zsw_out5 h0 h1 h2 h3 h4 with h | h
  · exact Or.inl h
  · have e5 : ¬ x.toInt = 5 := fun e => h5 (Int32.toInt_inj.mp e)
    exact Or.inr (by omega)
