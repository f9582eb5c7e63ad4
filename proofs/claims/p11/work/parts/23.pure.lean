/-! the loop that sums an appended record's size -/
theorem zmodI {x z : Int32} (hx : 0 ≤ x.toInt) (hz : zsz z) : (zMod x z).toInt = x.toInt % z.toInt := by
  have h1 : ¬ x < 0 := by
    rw [Int32.lt_iff_toInt_lt]
    have o : (0 : Int32).toInt = 0 := rfl
    omega
  have h2 : ¬ z < 0 := by
    rw [Int32.lt_iff_toInt_lt]
    have o : (0 : Int32).toInt = 0 := rfl
    obtain ⟨a, b⟩ := hz
    omega
  obtain ⟨a, ha, rfl⟩ := nI_of h1
  obtain ⟨b, hb, rfl⟩ := nI_of h2
  obtain ⟨z1, z2⟩ := hz
  rw [nI_toInt hb] at z1 z2
  unfold zMod
  have hlt : a % b < b := Nat.mod_lt _ (by omega)
  rw [pk_rem ha (by omega) hb, nI_toInt ha, nI_toInt hb, nI_toInt (by omega)]
  omega
theorem zroomI {z nn : Int32} (hz : zsz z) (h0 : 0 ≤ nn.toInt) : (z - zMod nn z).toInt = z.toInt - nn.toInt % z.toInt ∧ 0 ≤ nn.toInt % z.toInt ∧ nn.toInt % z.toInt < z.toInt := by
  obtain ⟨z1, z2⟩ := id hz
  have e1 : 0 ≤ nn.toInt % z.toInt := Int.emod_nonneg _ (by omega)
  have e2 : nn.toInt % z.toInt < z.toInt := Int.emod_lt_of_pos _ (by omega)
  refine ⟨?_, e1, e2⟩
  rw [zsub] <;> rw [zmodI h0 hz] <;> omega
def zap (z : Int32) (n : Nat) (nn lf mo : Int32) : Prop :=
  (mo = 0 ∧ 1 ≤ n) ∨ (mo = 1 ∧ 0 ≤ nn.toInt ∧ 0 ≤ lf.toInt ∧ lf.toInt ≤ 400 ∧ nn.toInt + 2000 * (n : Int) ≤ 1000000000 ∧ ∃ e : Int, 0 ≤ e ∧ e ≤ 1 ∧ (e = 0 → nn.toInt % z.toInt = 0) ∧ 2 * lf.toInt + e + 2 ≤ n)
theorem zap_z {z nn lf mo : Int32} (h : zap z 0 nn lf mo) : False := by
  rcases h with ⟨_, h⟩ | ⟨_, _, h3, _, _, e, e1, _, _, e4⟩
  · omega
  · omega
theorem zap_i {z a b : Int32} (hz : zsz z) (ha : zok 4096 a) (hb : zok 400 b) : zap z 1000 a b 1 := by
  obtain ⟨a1, a2, _⟩ := ha
  obtain ⟨b1, b2, _⟩ := hb
  exact Or.inr ⟨rfl, a1, b1, by omega, by omega, 1, by omega, by omega, by omega, by omega⟩
theorem zap_e {z nn lf mo nn' lf' : Int32} {n : Nat} (h : zap z (n + 1) nn lf mo) (c0 : ¬ mo = 0) : zap z n nn' lf' 0 := by
  rcases h with ⟨h, _⟩ | ⟨_, _, h3, _, _, e, e1, _, _, e4⟩
  · exact absurd h c0
  · exact Or.inl ⟨rfl, by omega⟩
theorem zsub_self (x : Int32) : x - x = 0 := by simp
theorem zap_n {z nn' lf : Int32} {n : Nat} (c : ¬ (lf - lf) ≤ 0) : zap z n nn' (lf - lf) 1 := by
  rw [zsub_self] at c
  exact absurd (by decide) c
/-- the four places that a piece's end may have -/
theorem zap_pl {z nn lf mo : Int32} {n : Nat} (hz : zsz z) (h : zap z (n + 1) nn lf mo) (c0 : ¬ mo = 0) :
    0 ≤ nn.toInt ∧ 0 ≤ lf.toInt ∧ lf.toInt ≤ 400 ∧ nn.toInt + 2000 * (n : Int) + 2000 ≤ 1000000000 ∧ (z - zMod nn z).toInt = z.toInt - nn.toInt % z.toInt ∧ 0 ≤ nn.toInt % z.toInt ∧ nn.toInt % z.toInt < z.toInt ∧
    (z - zMod nn z - 7).toInt = z.toInt - nn.toInt % z.toInt - 7 ∧ (z - 7).toInt = z.toInt - 7 ∧
    ((nn + 7) + ((z - zMod nn z) - 7)).toInt = nn.toInt + (z.toInt - nn.toInt % z.toInt) ∧ ((nn + 7) + lf).toInt = nn.toInt + 7 + lf.toInt ∧
    (((nn + (z - zMod nn z)) + 7) + (z - 7)).toInt = nn.toInt + (z.toInt - nn.toInt % z.toInt) + z.toInt ∧ (((nn + (z - zMod nn z)) + 7) + lf).toInt = nn.toInt + (z.toInt - nn.toInt % z.toInt) + 7 + lf.toInt := by
  rcases h with ⟨h, _⟩ | ⟨_, h2, h3, h4, h5, e, e1, _, _, e4⟩
  · exact absurd h c0
  · obtain ⟨z1, z2⟩ := id hz
    obtain ⟨r1, r2, r3⟩ := zroomI hz h2
    have o7 : (7 : Int32).toInt = 7 := rfl
    have q1 : (z - zMod nn z - 7).toInt = z.toInt - nn.toInt % z.toInt - 7 := by rw [zsub] <;> rw [o7, r1] <;> omega
    have q2 : (z - 7).toInt = z.toInt - 7 := by rw [zsub] <;> rw [o7] <;> omega
    have q3 : (nn + 7).toInt = nn.toInt + 7 := by rw [zadd] <;> rw [o7] <;> omega
    have q4 : (nn + (z - zMod nn z)).toInt = nn.toInt + (z.toInt - nn.toInt % z.toInt) := by rw [zadd] <;> rw [r1] <;> omega
    have q5 : ((nn + (z - zMod nn z)) + 7).toInt = nn.toInt + (z.toInt - nn.toInt % z.toInt) + 7 := by rw [zadd] <;> rw [o7, q4] <;> omega
    refine ⟨h2, h3, h4, by omega, r1, r2, r3, q1, q2, ?_, ?_, ?_, ?_⟩
    · rw [zadd] <;> rw [q3, q1] <;> omega
    · rw [zadd] <;> rw [q3] <;> omega
    · rw [zadd] <;> rw [q5, q2] <;> omega
    · rw [zadd] <;> rw [q5] <;> omega
theorem zmod_fill (n z : Int) : (n + (z - n % z)) % z = 0 := by
  have h : n + (z - n % z) = z * (n / z + 1) := by
    have := Int.emod_add_mul_ediv n z
    rw [Int.mul_add]
    omega
  rw [h]
  exact Int.mul_emod_right _ _
theorem zap_a {z nn lf mo : Int32} {n : Nat} (hz : zsz z) (h : zap z (n + 1) nn lf mo) (c0 : ¬ mo = 0) (c1 : 7 ≤ (z - zMod nn z)) (c2 : ((z - zMod nn z) - 7) ≤ lf) (c3 : ¬ (lf - ((z - zMod nn z) - 7)) ≤ 0) :
    zap z n ((nn + 7) + ((z - zMod nn z) - 7)) (lf - ((z - zMod nn z) - 7)) 1 := by
  obtain ⟨p1, p2, p3, p4, p5, p6, p7, p8, p9, p10, -⟩ := zap_pl hz h c0
  obtain ⟨z1, z2⟩ := id hz
  rcases h with ⟨h, _⟩ | ⟨_, h2, h3, h4, h5, e, e1, e2, e3, e4⟩
  · exact absurd h c0
  have o7 : (7 : Int32).toInt = 7 := rfl
  simp only [Int32.le_iff_toInt_le] at c1 c2
  have q : (lf - ((z - zMod nn z) - 7)).toInt = lf.toInt - (z.toInt - nn.toInt % z.toInt - 7) := by rw [zsub] <;> rw [p8] <;> omega
  refine Or.inr ⟨rfl, by omega, by omega, by omega, by omega, 0, by omega, by omega, fun _ => ?_, ?_⟩
  · rw [p10]; exact zmod_fill _ _
  · rcases Int.lt_or_le 0 e with he | he
    · omega
    · have := e3 (by omega)
      omega
theorem zap_b {z nn lf mo : Int32} {n : Nat} (hz : zsz z) (h : zap z (n + 1) nn lf mo) (c0 : ¬ mo = 0) (c1 : ¬ 7 ≤ (z - zMod nn z)) (c2 : (z - 7) ≤ lf) (c3 : ¬ (lf - (z - 7)) ≤ 0) :
    zap z n (((nn + (z - zMod nn z)) + 7) + (z - 7)) (lf - (z - 7)) 1 := by
  obtain ⟨p1, p2, p3, p4, p5, p6, p7, p8, p9, p10, p11, p12, -⟩ := zap_pl hz h c0
  obtain ⟨z1, z2⟩ := id hz
  rcases h with ⟨h, _⟩ | ⟨_, h2, h3, h4, h5, e, e1, e2, e3, e4⟩
  · exact absurd h c0
  have o7 : (7 : Int32).toInt = 7 := rfl
  simp only [Int32.le_iff_toInt_le] at c1 c2
  have q : (lf - (z - 7)).toInt = lf.toInt - (z.toInt - 7) := by rw [zsub] <;> rw [p9] <;> omega
  exact Or.inr ⟨rfl, by omega, by omega, by omega, by omega, 1, by omega, by omega, by omega, by omega⟩
