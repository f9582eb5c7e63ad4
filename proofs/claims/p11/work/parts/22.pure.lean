/-! numbers of the model's rows -/
theorem zadd {x y : Int32} (h1 : -2147483648 ≤ x.toInt + y.toInt) (h2 : x.toInt + y.toInt < 2147483648) : (x + y).toInt = x.toInt + y.toInt := by
  rw [Int32.toInt_add, Int.bmod_def]
  omega
theorem zsub {x y : Int32} (h1 : -2147483648 ≤ x.toInt - y.toInt) (h2 : x.toInt - y.toInt < 2147483648) : (x - y).toInt = x.toInt - y.toInt := by
  rw [Int32.toInt_sub, Int.bmod_def]
  omega
theorem zclamp {x : Int32} (h : 0 ≤ x.toInt) : (x.toNatClampNeg : Int) = x.toInt := by
  simp only [Int32.toNatClampNeg]
  omega
/-- k more places are left of N behind the first m -/
def zroom (N k : Nat) (m : Int32) : Prop := 0 ≤ m.toInt ∧ m.toInt + k ≤ (N : Int) ∧ N < 2 ^ 31
theorem zroom_le {N j k : Nat} {m : Int32} (h : zroom N k m) (hjk : j ≤ k) : zroom N j m := ⟨h.1, by have := h.2.1; omega, h.2.2⟩
theorem zroom_in {N k : Nat} {m : Int32} (h : zroom N (k + 1) m) : vp_in m N := by
  rw [vp_in_iff]
  obtain ⟨a, b, c⟩ := h
  omega
theorem zroom_s {N k : Nat} {m : Int32} (h : zroom N (k + 1) m) : zroom N k (m + 1) := by
  obtain ⟨a, b, c⟩ := h
  have o : (1 : Int32).toInt = 1 := rfl
  have e : (m + 1).toInt = m.toInt + 1 := by rw [zadd] <;> rw [o] <;> omega
  refine ⟨?_, ?_, c⟩ <;> rw [e] <;> omega
theorem zroom_ok {N k : Nat} {m : Int32} (h : zroom N k m) : zok N m := ⟨h.1, by have := h.2.1; omega, h.2.2⟩
/-- a stretch of many from begin on within N -/
def zseg (N : Nat) (b v : Int32) : Prop := 0 ≤ b.toInt ∧ 0 ≤ v.toInt ∧ b.toInt + v.toInt ≤ (N : Int) ∧ N < 2 ^ 31
theorem zseg_in {N i r : Nat} {b v : Int32} (h : zseg N b v) (hi : i + (r + 1) = v.toNatClampNeg) : vp_in (b + nI i) N := by
  obtain ⟨h1, h2, h3, h4⟩ := h
  have hv := zclamp h2
  have hi2 : i < 2 ^ 31 := by omega
  have e := nI_toInt hi2
  rw [vp_in_iff, zadd] <;> rw [e] <;> omega
theorem zseg_0 {N : Nat} {m : Int32} (h : zok N m) : zseg N 0 m := by
  obtain ⟨a, b, c⟩ := h
  have o : (0 : Int32).toInt = 0 := rfl
  exact ⟨by rw [o]; omega, a, by rw [o]; omega, c⟩
theorem zfor_outg {n : Int32} {i : Nat} (h0 : 0 ≤ n.toInt ∧ n.toInt < 2147483647) (hi : i = (n + 1).toNatClampNeg) : n < nI i := by
  have o : (1 : Int32).toInt = 1 := rfl
  have e : (n + 1).toInt = n.toInt + 1 := by rw [zadd] <;> rw [o] <;> omega
  have hc := zclamp (x := n + 1) (by omega)
  have hi2 : i < 2 ^ 31 := by omega
  rw [Int32.lt_iff_toInt_lt, nI_toInt hi2]
  omega
theorem zfor_ing {n : Int32} {i r : Nat} (h0 : 0 ≤ n.toInt ∧ n.toInt < 2147483647) (hi : i + (r + 1) = (n + 1).toNatClampNeg) : ¬ n < nI i := by
  have o : (1 : Int32).toInt = 1 := rfl
  have e : (n + 1).toInt = n.toInt + 1 := by rw [zadd] <;> rw [o] <;> omega
  have hc := zclamp (x := n + 1) (by omega)
  have hi2 : i < 2 ^ 31 := by omega
  rw [Int32.lt_iff_toInt_lt, nI_toInt hi2]
  omega
theorem zin_tw {v lo hi : Int32} {N : Nat} (h1 : lo ≤ v) (h2 : v ≤ hi) (hl : 0 ≤ lo.toInt) (hh : hi.toInt < (N : Int)) : vp_in v N := by
  rw [vp_in_iff]
  simp only [Int32.le_iff_toInt_le] at h1 h2
  omega
theorem zsz_of {v : Int32} (h1 : 16 ≤ v) (h2 : v ≤ 512) : zsz v := by
  simp only [Int32.le_iff_toInt_le] at h1 h2
  exact ⟨h1, h2⟩
theorem zfin_in {i r : Nat} {m : Int32} (h : zok 4096 m) (hi : i + (r + 1) = m.toNatClampNeg) : vp_in (nI i) 4096 := by
  obtain ⟨a, b, _⟩ := h
  have := zclamp a
  exact vp_in_nI (by omega) (by decide)
/-- the size of the record that was read last, or -1 -/
def zrs (a : Int32) : Prop := -1 ≤ a.toInt ∧ a.toInt ≤ 4096
