/-! the model's reading of a fragment stays within its array -/
def zpl (p : Int32) : Prop := 0 ≤ p.toInt ∧ p.toInt ≤ 5000
def zby (N : Nat) (f : Nat → Int32) : Prop := ∀ j, j < N → 0 ≤ (f j).toInt ∧ (f j).toInt ≤ 255
theorem zor (x y : Nat) : nI x ||| nI y = nI (x ||| y) := by
  apply Int32.toBitVec_inj.mp
  rw [Int32.toBitVec_or]
  show BitVec.ofNat 32 x ||| BitVec.ofNat 32 y = BitVec.ofNat 32 (x ||| y)
  rw [BitVec.ofNat_or]
theorem znI_ex {x : Int32} (h : 0 ≤ x.toInt) : ∃ a : Nat, a < 2 ^ 31 ∧ x = nI a ∧ x.toInt = a := by
  have h2 := zclamp h
  have h3 := Int32.toInt_lt x
  exact ⟨x.toNatClampNeg, by omega, (znI_clamp h).symm, h2.symm⟩
theorem zln {a b : Int32} (ha : 0 ≤ a.toInt ∧ a.toInt ≤ 255) (hb : 0 ≤ b.toInt ∧ b.toInt ≤ 255) : (a ||| (b <<< (8 &&& 31))).toInt = a.toInt + 256 * b.toInt := by
  obtain ⟨x, hx, rfl, ex⟩ := znI_ex ha.1
  obtain ⟨y, hy, rfl, ey⟩ := znI_ex hb.1
  rw [ex] at ha ⊢
  rw [ey] at hb ⊢
  have e1 : nI y <<< ((8 : Int32) &&& 31) = nI (y * 2 ^ 8) := pk_shlN _ 8 (by decide) (by omega)
  have e2 : x ||| y * 2 ^ 8 = y * 2 ^ 8 + x := by
    have := Nat.shiftLeft_add_eq_or_of_lt (a := y) (b := x) (i := 8) (by omega)
    rw [Nat.shiftLeft_eq] at this
    rw [this, Nat.or_comm]
  rw [e1, zor, e2, nI_toInt (by omega)]
  omega
def zfr (z al : Int32) (n : Nat) (iw en pl : Int32) : Prop :=
  (n = 4 ∨ (n = 3 ∧ (iw = 0 ∨ en.toInt = pl.toInt + z.toInt))) ∧ 0 ≤ en.toInt ∧ en.toInt ≤ al.toInt ∧ 0 ≤ pl.toInt ∧ pl.toInt ≤ 5000 ∧ (iw = 0 ∨ pl.toInt ≤ en.toInt)
section
variable {z al iw en pl : Int32} {n : Nat}
theorem zfr_z (h : zfr z al 0 iw en pl) : False := by
  rcases h.1 with h | h <;> omega
theorem zfr_init0 (_ : zsz z) (ha : zok 4096 al) (hpl : zpl pl) {P : Prop} (_ : P) : zfr z al 4 0 al pl := by
  obtain ⟨a1, a2, _⟩ := ha
  obtain ⟨p1, p2⟩ := hpl
  exact ⟨Or.inl rfl, a1, by omega, p1, p2, Or.inl rfl⟩
theorem zfr_end (hz : zsz z) (hpl : zpl pl) : (((pl / z) + 1) * z).toInt = pl.toInt - pl.toInt % z.toInt + z.toInt := by
  obtain ⟨p1, p2⟩ := hpl
  obtain ⟨z1, z2⟩ := hz
  obtain ⟨a, ha, rfl, ea⟩ := znI_ex p1
  obtain ⟨b, hb, rfl, eb⟩ := znI_ex (x := z) (by omega)
  rw [ea] at p2 ⊢
  rw [eb] at z1 z2 ⊢
  have hd : a / b ≤ a := Nat.div_le_self a b
  have hm : a / b * b + a % b = a := by have := Nat.div_add_mod a b; rw [Nat.mul_comm] at this; exact this
  have hlt : a % b < b := Nat.mod_lt _ (by omega)
  have e3 : (a / b + 1) * b = a / b * b + b := by rw [Nat.add_mul, Nat.one_mul]
  rw [pk_div ha (by omega) hb, nI_1, pk_mul, nI_toInt (by omega)]
  omega
theorem zfr_init1 (hz : zsz z) (_ : zok 4096 al) (hpl : zpl pl) (c : ¬ al < (((pl / z) + 1) * z)) : zfr z al 4 1 (((pl / z) + 1) * z) pl := by
  have e := zfr_end hz hpl
  obtain ⟨p1, p2⟩ := hpl
  obtain ⟨z1, z2⟩ := hz
  simp only [Int32.lt_iff_toInt_lt] at c
  have m1 : 0 ≤ pl.toInt % z.toInt := Int.emod_nonneg _ (by omega)
  have m2 : pl.toInt % z.toInt < z.toInt := Int.emod_lt_of_pos _ (by omega)
  exact ⟨Or.inl rfl, by omega, by omega, p1, p2, Or.inr (by omega)⟩
theorem zfr_sub (ha : zok 4096 al) (hp : zfr z al n iw en pl) : (en - pl).toInt = en.toInt - pl.toInt := by
  obtain ⟨_, h1, h2, h3, h4, _⟩ := hp
  obtain ⟨a1, a2, _⟩ := ha
  rw [zsub] <;> omega
theorem zfr_7 (ha : zok 4096 al) (hp : zfr z al n iw en pl) (g : 7 ≤ (en - pl)) : 0 ≤ pl.toInt ∧ pl.toInt + 7 ≤ en.toInt ∧ en.toInt ≤ 4096 := by
  have e := zfr_sub ha hp
  obtain ⟨_, h1, h2, h3, h4, _⟩ := hp
  obtain ⟨a1, a2, _⟩ := ha
  have o7 : (7 : Int32).toInt = 7 := rfl
  simp only [Int32.le_iff_toInt_le] at g
  exact ⟨h3, by omega, by omega⟩
theorem zfr_back {en' iw' : Int32} (hz : zsz z) (ha : zok 4096 al) (hp : zfr z al (n + 1) iw en pl) (g : ¬ 7 ≤ (en - pl)) (w : ¬ iw = 0) (h1 : iw' = 0 ∨ en'.toInt = en.toInt + z.toInt) (h2 : 0 ≤ en'.toInt) (h3 : en'.toInt ≤ al.toInt) (h4 : iw' = 0 ∨ en.toInt ≤ en'.toInt) : zfr z al n iw' en' en := by
  have e := zfr_sub ha hp
  obtain ⟨p0, p1, p2, p3, p4, p5⟩ := hp
  obtain ⟨a1, a2, _⟩ := ha
  obtain ⟨z1, z2⟩ := hz
  have o7 : (7 : Int32).toInt = 7 := rfl
  simp only [Int32.le_iff_toInt_le] at g
  refine ⟨?_, h2, h3, p1, by omega, h4⟩
  rcases p0 with q | ⟨q, q2 | q2⟩
  · exact Or.inr ⟨by omega, h1⟩
  · exact absurd q2 w
  · omega
theorem zfr_back0 (hz : zsz z) (ha : zok 4096 al) (hp : zfr z al (n + 1) iw en pl) (g : ¬ 7 ≤ (en - pl)) (w : ¬ iw = 0) {P : Prop} (_ : P) : zfr z al n 0 al en := zfr_back hz ha hp g w (Or.inl rfl) ha.1 (Int.le_refl _) (Or.inl rfl)
theorem zfr_back1 (hz : zsz z) (ha : zok 4096 al) (hp : zfr z al (n + 1) iw en pl) (g : ¬ 7 ≤ (en - pl)) (w : ¬ iw = 0) (k : ¬ al < (en + z)) : zfr z al n 1 (en + z) en := by
  obtain ⟨p0, p1, p2, p3, p4, p5⟩ := id hp
  obtain ⟨a1, a2, _⟩ := id ha
  obtain ⟨z1, z2⟩ := id hz
  have e : (en + z).toInt = en.toInt + z.toInt := by rw [zadd] <;> omega
  simp only [Int32.lt_iff_toInt_lt] at k
  exact zfr_back hz ha hp g w (Or.inr e) (by omega) (by omega) (Or.inr (by omega))
theorem zfr_in (ha : zok 4096 al) (hp : zfr z al n iw en pl) (g : 7 ≤ (en - pl)) {j : Int32} (h0 : 0 ≤ j.toInt) (h6 : j.toInt ≤ 6) : vp_in (pl + j) 4096 := by
  obtain ⟨h1, h2, h3⟩ := zfr_7 ha hp g
  rw [vp_in_iff, zadd] <;> omega
theorem zfr_in0 (ha : zok 4096 al) (hp : zfr z al n iw en pl) (g : 7 ≤ (en - pl)) : vp_in pl 4096 := by
  obtain ⟨h1, h2, h3⟩ := zfr_7 ha hp g
  rw [vp_in_iff]
  omega
theorem zfr_in1 (ha : zok 4096 al) (hp : zfr z al n iw en pl) (g : 7 ≤ (en - pl)) : vp_in (pl + 1) 4096 := zfr_in ha hp g (by decide) (by decide)
theorem zfr_in2 (ha : zok 4096 al) (hp : zfr z al n iw en pl) (g : 7 ≤ (en - pl)) : vp_in (pl + 2) 4096 := zfr_in ha hp g (by decide) (by decide)
theorem zfr_in3 (ha : zok 4096 al) (hp : zfr z al n iw en pl) (g : 7 ≤ (en - pl)) : vp_in (pl + 3) 4096 := zfr_in ha hp g (by decide) (by decide)
theorem zfr_in4 (ha : zok 4096 al) (hp : zfr z al n iw en pl) (g : 7 ≤ (en - pl)) : vp_in (pl + 4) 4096 := zfr_in ha hp g (by decide) (by decide)
theorem zfr_in5 (ha : zok 4096 al) (hp : zfr z al n iw en pl) (g : 7 ≤ (en - pl)) : vp_in (pl + 5) 4096 := zfr_in ha hp g (by decide) (by decide)
theorem zfr_in6 (ha : zok 4096 al) (hp : zfr z al n iw en pl) (g : 7 ≤ (en - pl)) : vp_in (pl + 6) 4096 := zfr_in ha hp g (by decide) (by decide)
variable {MB : Nat → Int32}
theorem zby_at (hB : zby 4096 MB) {i : Int32} (h : vp_in i 4096) : 0 ≤ (MB i.toNatClampNeg).toInt ∧ (MB i.toNatClampNeg).toInt ≤ 255 := by
  obtain ⟨j, hj, rfl⟩ := vp_in_of h (by decide)
  rw [nI_clamp (by omega)]
  exact hB j hj
theorem zfr_ln (ha : zok 4096 al) (hB : zby 4096 MB) (hp : zfr z al n iw en pl) (g : 7 ≤ (en - pl)) : 0 ≤ ((MB (pl + 4).toNatClampNeg) ||| ((MB (pl + 5).toNatClampNeg) <<< (8 &&& 31))).toInt ∧ ((MB (pl + 4).toNatClampNeg) ||| ((MB (pl + 5).toNatClampNeg) <<< (8 &&& 31))).toInt ≤ 65535 := by
  have h4 := zby_at hB (zfr_in4 ha hp g)
  have h5 := zby_at hB (zfr_in5 ha hp g)
  rw [zln h4 h5]
  omega
theorem zfr_lnG (ha : zok 4096 al) (hB : zby 4096 MB) (hp : zfr z al n iw en pl) (g : 7 ≤ (en - pl)) : 0 ≤ ((MB (pl + 4).toNatClampNeg) ||| ((MB (pl + 5).toNatClampNeg) <<< (8 &&& 31))).toInt ∧ ((MB (pl + 4).toNatClampNeg) ||| ((MB (pl + 5).toNatClampNeg) <<< (8 &&& 31))).toInt < 2147483647 := by
  obtain ⟨h1, h2⟩ := zfr_ln ha hB hp g
  exact ⟨h1, by omega⟩
theorem zfr_inL {ln : Int32} {i r : Nat} (ha : zok 4096 al) (hp : zfr z al n iw en pl) (g : 7 ≤ (en - pl)) (hl : 0 ≤ ln.toInt ∧ ln.toInt ≤ 65535) (c : (7 + ln) ≤ (en - pl)) (hi : i + (r + 1) = (ln + 1).toNatClampNeg) : vp_in ((pl + 6) + nI i) 4096 := by
  obtain ⟨h1, h2, h3⟩ := zfr_7 ha hp g
  have e := zfr_sub ha hp
  have o7 : (7 : Int32).toInt = 7 := rfl
  have o6 : (6 : Int32).toInt = 6 := rfl
  have o1 : (1 : Int32).toInt = 1 := rfl
  have e7 : (7 + ln).toInt = 7 + ln.toInt := by rw [zadd] <;> rw [o7] <;> omega
  have e1 : (ln + 1).toInt = ln.toInt + 1 := by rw [zadd] <;> rw [o1] <;> omega
  have e6 : (pl + 6).toInt = pl.toInt + 6 := by rw [zadd] <;> rw [o6] <;> omega
  have hc := zclamp (x := ln + 1) (by omega)
  simp only [Int32.le_iff_toInt_le] at c
  have hi2 : i < 2 ^ 31 := by omega
  rw [vp_in_iff, zadd] <;> rw [e6, nI_toInt hi2] <;> omega
end
