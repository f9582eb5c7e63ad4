/-! pure rows that the contracts ask for -/
/-- a row's count lies in its array -/
def zok (N : Nat) (m : Int32) : Prop := 0 ≤ m.toInt ∧ m.toInt ≤ (N : Int) ∧ N < 2 ^ 31
theorem zin {i m : Int32} {N : Nat} (h1 : ¬ i < 0) (h2 : ¬ m ≤ i) (hm : zok N m) : vp_in i N := by
  rw [vp_in_iff]
  simp only [Int32.lt_iff_toInt_lt, Int32.le_iff_toInt_le, Int32.toInt_zero] at h1 h2
  obtain ⟨a, b, _⟩ := hm
  omega
theorem zin2 {m : Int32} {N : Nat} (h : ¬ nI N ≤ m) (hm : zok N m) : vp_in m N := by
  rw [vp_in_iff]
  obtain ⟨a, b, c⟩ := hm
  simp only [Int32.le_iff_toInt_le, nI_toInt c] at h
  omega
theorem zok_inc {m : Int32} {N : Nat} (hm : zok N m) (h : ¬ nI N ≤ m) : zok N (m + 1) := by
  obtain ⟨a, b, c⟩ := hm
  simp only [Int32.le_iff_toInt_le, nI_toInt c] at h
  have e : (m + 1).toInt = m.toInt + 1 := by
    rw [Int32.toInt_add]
    have : (1 : Int32).toInt = 1 := rfl
    rw [this, Int.bmod_def]
    omega
  refine ⟨?_, ?_, c⟩ <;> rw [e] <;> omega
theorem zfor_out {n : Int32} {i : Nat} (hi : i = n.toNatClampNeg) : n ≤ nI i := by
  subst hi
  have h : n.toNatClampNeg < 2 ^ 31 := by
    have := Int32.toInt_lt n
    simp only [Int32.toNatClampNeg]
    omega
  rw [Int32.le_iff_toInt_le, nI_toInt h]
  simp only [Int32.toNatClampNeg]
  omega
theorem zfor_in {n : Int32} {i r : Nat} (hi : i + (r + 1) = n.toNatClampNeg) : ¬ n ≤ nI i := by
  have hn := Int32.toInt_lt n
  have h : i < 2 ^ 31 := by
    simp only [Int32.toNatClampNeg] at hi
    omega
  rw [Int32.le_iff_toInt_le, nI_toInt h]
  simp only [Int32.toNatClampNeg] at hi
  omega
theorem zin15 (x : Int32) : vp_in (x &&& 15) 16 := by
  rw [vp_in_iff]
  have h : (x &&& 15).toInt = ((x.toBitVec.toNat &&& 15 : Nat) : Int) := by
    have h1 : x.toBitVec.toNat &&& 15 ≤ 15 := Nat.and_le_right
    have e : (x &&& 15).toBitVec.toNat = x.toBitVec.toNat &&& 15 := by
      simp [Int32.toBitVec_and]
    rw [← Int32.toInt_toBitVec, BitVec.toInt_eq_toNat_cond, e]
    omega
  have h1 : x.toBitVec.toNat &&& 15 ≤ 15 := Nat.and_le_right
  omega
theorem zok_lt {N : Nat} {m v : Int32} (hm : zok N m) (h1 : ¬ v < 0) (h2 : ¬ m ≤ v) : zok N v := by
  simp only [Int32.lt_iff_toInt_lt, Int32.le_iff_toInt_le, Int32.toInt_zero] at h1 h2
  obtain ⟨a, b, c⟩ := hm
  exact ⟨by omega, by omega, c⟩
/-- the count of what was told: k more may come -/
def zdok (k : Nat) (dm : Int32) : Prop := 0 ≤ dm.toInt ∧ dm.toInt + k < 2 ^ 31
theorem zdok_le {j k : Nat} {dm : Int32} (h : zdok k dm) (hjk : j ≤ k) : zdok j dm := ⟨h.1, by have := h.2; omega⟩
theorem zdok_inc {k : Nat} {dm : Int32} (h : zdok (k + 1) dm) : zdok k (dm + 1) := by
  obtain ⟨a, b⟩ := h
  have e : (dm + 1).toInt = dm.toInt + 1 := by
    rw [Int32.toInt_add]
    have : (1 : Int32).toInt = 1 := rfl
    rw [this, Int.bmod_def]
    omega
  refine ⟨?_, ?_⟩ <;> rw [e] <;> omega
theorem zind {k : Nat} {dm : Int32} (h : ¬ 100 ≤ dm) (hd : zdok k dm) : vp_in dm 100 := by
  rw [vp_in_iff]
  simp only [Int32.le_iff_toInt_le] at h
  have : (100 : Int32).toInt = 100 := rfl
  obtain ⟨a, b⟩ := hd
  omega
theorem zin100 {v : Int32} (h1 : ¬ v < 0) (h2 : ¬ 100 ≤ v) : vp_in v 100 := by
  rw [vp_in_iff]
  simp only [Int32.lt_iff_toInt_lt, Int32.le_iff_toInt_le, Int32.toInt_zero] at h1 h2
  have : (100 : Int32).toInt = 100 := rfl
  omega
/-- a size of blocks -/
def zsz (z : Int32) : Prop := 16 ≤ z.toInt ∧ z.toInt ≤ 512
theorem zsz_ne {z : Int32} (h : zsz z) : ¬ z = 0 := by
  intro e
  rw [e] at h
  exact absurd h.1 (by decide)
/-- a counter up to C, with the fuel that is left -/
def zfuel (C : Int32) (n : Nat) (v : Int32) : Prop := 0 ≤ v.toInt ∧ v.toInt + n = C.toInt + 2 ∧ v.toInt ≤ C.toInt + 1
theorem zfuel_0 {C v : Int32} (h : zfuel C 0 v) : False := by
  obtain ⟨a, b, c⟩ := h
  omega
theorem zfuel_s {C v : Int32} {n : Nat} (hC : C.toInt < 2 ^ 31 - 2) (h : zfuel C (n + 1) v) (hg : ¬ C < v) : zfuel C n (v + 1) := by
  obtain ⟨a, b, c⟩ := h
  simp only [Int32.lt_iff_toInt_lt] at hg
  have e : (v + 1).toInt = v.toInt + 1 := by
    rw [Int32.toInt_add]
    have : (1 : Int32).toInt = 1 := rfl
    rw [this, Int.bmod_def]
    omega
  refine ⟨?_, ?_, ?_⟩ <;> rw [e] <;> omega
theorem zsw_out4 {x : Int32} (h1 : ¬ x = 1) (h2 : ¬ x = 2) (h3 : ¬ x = 3) (h4 : ¬ x = 4) : x.toInt < 1 ∨ 4 < x.toInt := by
  rcases Int.lt_or_le x.toInt 1 with h | h
  · exact Or.inl h
  · rcases Int.lt_or_le 4 x.toInt with h' | h'
    · exact Or.inr h'
    · exfalso
      have e1 : ¬ x.toInt = 1 := fun e => h1 (Int32.toInt_inj.mp e)
      have e2 : ¬ x.toInt = 2 := fun e => h2 (Int32.toInt_inj.mp e)
      have e3 : ¬ x.toInt = 3 := fun e => h3 (Int32.toInt_inj.mp e)
      have e4 : ¬ x.toInt = 4 := fun e => h4 (Int32.toInt_inj.mp e)
      omega
/-- a boolean field -/
def zbo (x : Int32) : Prop := narrow .boolean (.int x) = .int x
theorem zbo_nar {x : Int32} (h : zbo x) : narrow .boolean (.int x) = .int x := h
