/-! the model's reading comes to an end -/
def zrd (n : Nat) (mo pl : Int32) : Prop := (mo = 0 ∧ 1 ≤ n) ∨ (mo = 1 ∧ zpl pl ∧ 5002 ≤ pl.toInt + n)
theorem zrd_z {mo pl : Int32} (h : zrd 0 mo pl) : False := by
  rcases h with ⟨_, h⟩ | ⟨_, ⟨h1, h2⟩, h⟩ <;> omega
theorem zrd_i {pl : Int32} (h : zpl pl) : zrd 5010 1 pl := Or.inr ⟨rfl, h, by have := h.1; omega⟩
theorem zrd_pl {n : Nat} {mo pl : Int32} (h : zrd n mo pl) (c0 : ¬ mo = 0) : zpl pl := by
  rcases h with ⟨h, _⟩ | ⟨_, h, _⟩
  · exact absurd h c0
  · exact h
theorem zrd_n {n : Nat} {mo pl : Int32} (h : zrd (n + 1) mo pl) (c0 : ¬ mo = 0) : zpl pl ∧ 5001 ≤ pl.toInt + n := by
  rcases h with ⟨h, _⟩ | ⟨_, h, h2⟩
  · exact absurd h c0
  · exact ⟨h, by omega⟩
theorem zrd_s0 {n : Nat} {mo pl p1 : Int32} (h : zrd (n + 1) mo pl) (c0 : ¬ mo = 0) {P Q R : Prop} (_ : P) (_ : Q) (_ : R) : zrd n 0 p1 := by
  obtain ⟨h1, h2⟩ := zrd_n h c0
  exact Or.inl ⟨rfl, by have := h1.2; omega⟩
theorem zrd_s1 {n : Nat} {mo pl p1 v fr ln hs r hs1 rs rs1 : Int32} (h : zrd (n + 1) mo pl) (c0 : ¬ mo = 0) (F : zfrQ pl v p1 fr ln) (Pq : zpaQ v hs ln r hs1 rs rs1) (c : r = 0) : zrd n 1 p1 := by
  obtain ⟨h1, h2⟩ := zrd_n h c0
  have hv : ¬ v = -1 := fun q => Pq.1 q c
  rcases F.2 with q | ⟨q1, q2, _⟩
  · exact absurd q hv
  · have := h1.1
    exact Or.inr ⟨rfl, ⟨by omega, by omega⟩, by omega⟩
theorem zrd_h {pl p1 v fr ln hs r hs1 rs rs1 : Int32} (F : zfrQ pl v p1 fr ln) (Pq : zpaQ v hs ln r hs1 rs rs1) (hh : 0 ≤ hs.toInt ∧ hs.toInt ≤ pl.toInt ∧ hs.toInt ≤ 4096) : 0 ≤ hs1.toInt ∧ hs1.toInt ≤ p1.toInt ∧ hs1.toInt ≤ 4096 := by
  obtain ⟨⟨f1, f2, f3⟩, f4⟩ := F
  rcases Pq.2.1 with q | q | ⟨⟨q1, q2⟩, q⟩
  · rw [q]
    have o : (0 : Int32).toInt = 0 := rfl
    omega
  · rw [q]; omega
  · rcases f4 with w | ⟨w1, w2, w | ⟨w3, w4, w5, w6⟩⟩
    · exact absurd w q1
    · exact absurd w q2
    · have o : (0 : Int32).toInt = 0 := rfl
      rcases q with q | q
      · rw [q]
        have e : (0 + ln).toInt = ln.toInt := by rw [zadd] <;> omega
        omega
      · rw [q]
        have e : (hs + ln).toInt = hs.toInt + ln.toInt := by rw [zadd] <;> omega
        omega
