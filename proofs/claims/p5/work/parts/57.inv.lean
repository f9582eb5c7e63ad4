/-! what holds before each call -/
theorem qisIn0 {v lo hi : Int32} (h : ¬ (lo ≤ v ∧ v ≤ hi)) : f_X6_isIn v lo hi = 0 := by
  unfold f_X6_isIn
  split
  · rfl
  · next c1 =>
    split
    · rfl
    · next c2 =>
      exact absurd ⟨Int32.not_lt.mp c1, Int32.not_lt.mp c2⟩ h
theorem qisIn1 {v lo hi : Int32} (h1 : lo ≤ v) (h2 : v ≤ hi) : ¬ f_X6_isIn v lo hi = 0 := by
  unfold f_X6_isIn
  rw [if_neg (Int32.not_lt.mpr h1), if_neg (Int32.not_lt.mpr h2)]
  decide
theorem qx_clear0 {v : Int32} (hx : x_X5_clear v = none) : ¬ v < 16 ∧ v ≤ 512 := by
  unfold x_X5_clear at hx
  split at hx
  · exact nomatch hx
  · next c1 =>
    split at hx
    · next c2 => exact ⟨c1, c2⟩
    · exact nomatch hx
theorem qx_clear1 {v : Int32} (hx : x_X5_clear v = some zIAE) : f_X6_isIn v 16 512 = 0 := by
  unfold x_X5_clear at hx
  split at hx
  · next c => exact qisIn0 (fun q => absurd c (Int32.not_lt.mpr q.1))
  · split at hx
    · exact nomatch hx
    · next c2 => exact qisIn0 (fun q => c2 q.2)
theorem qx_feed0 {bm v : Int32} (hb : zok 400 bm) (hx : x_X5_feed bm v = none) : ¬ v < 0 ∧ v ≤ 16 ∧ ¬ f_X3_hasRoomFor 400 bm v = 0 ∧ (0 ≤ v.toInt ∧ v.toInt ≤ 16) ∧ bm.toInt + v.toInt ≤ 400 := by
  unfold x_X5_feed at hx
  split at hx
  · exact nomatch hx
  · next c =>
    split at hx
    · next c2 =>
      split at hx
      · exact nomatch hx
      · next c3 =>
        have hv : 0 ≤ v.toInt ∧ v.toInt ≤ 16 := by
          simp only [Int32.lt_iff_toInt_lt, Int32.le_iff_toInt_le] at c c2
          have o0 : (0 : Int32).toInt = 0 := rfl
          have o16 : (16 : Int32).toInt = 16 := rfl
          omega
        have h := zhr_room (N := 400) hb (v := v) ⟨hv.1, by omega⟩
        exact ⟨c, c2, c3, hv, Int.not_lt.mp (fun q => c3 (h.mpr q))⟩
    · exact nomatch hx
theorem qx_feed1 {bm v : Int32} (hx : x_X5_feed bm v = some zIAE) : f_X6_isIn v 0 16 = 0 := by
  unfold x_X5_feed at hx
  split at hx
  · next c => exact qisIn0 (fun q => absurd c (Int32.not_lt.mpr q.1))
  · split at hx
    · split at hx
      · exact absurd (Option.some.inj hx) (by decide)
      · exact nomatch hx
    · next c2 => exact qisIn0 (fun q => c2 q.2)
theorem qx_feed2 {bm v : Int32} (hb : zok 400 bm) (hx : x_X5_feed bm v = some zISE) : ¬ f_X6_isIn v 0 16 = 0 ∧ ¬ bm + v ≤ 400 := by
  unfold x_X5_feed at hx
  split at hx
  · exact absurd (Option.some.inj hx) (by decide)
  · next c =>
    split at hx
    · next c2 =>
      split at hx
      · next c3 =>
        have hv : 0 ≤ v.toInt ∧ v.toInt ≤ 16 := by
          simp only [Int32.lt_iff_toInt_lt, Int32.le_iff_toInt_le] at c c2
          have o0 : (0 : Int32).toInt = 0 := rfl
          have o16 : (16 : Int32).toInt = 16 := rfl
          omega
        have h := (zhr_room (N := 400) hb (v := v) ⟨hv.1, by omega⟩).mp c3
        refine ⟨qisIn1 (Int32.not_lt.mp c) c2, fun q => ?_⟩
        obtain ⟨b1, b2, b3⟩ := hb
        have o4 : (400 : Int32).toInt = 400 := rfl
        rw [Int32.le_iff_toInt_le, zadd (by omega) (by omega), o4] at q
        omega
      · exact nomatch hx
    · exact absurd (Option.some.inj hx) (by decide)
theorem q_feed0 {Bf MU U1 : Nat → Int32} {bm bs v pa pb pc pd r ft b1 : Int32} (hb : zok 400 bm) (h : bm = bs) (hx : x_X5_feed bm v = none) (e : f_X6_feed MU bs v pa pb pc pd = (r, U1, ft, b1)) : (f_X5_feed Bf bm v pa pb pc pd).1 = r ∧ (f_X5_feed Bf bm v pa pb pc pd).2.2 = b1 ∧ ft = 0 := by
  subst h
  obtain ⟨h3, h4, h5, hv, hr⟩ := qx_feed0 hb hx
  obtain ⟨g1, g2, g3⟩ := hb
  have h1 : ¬ f_X6_isIn v 0 16 = 0 := qisIn1 (Int32.not_lt.mp h3) h4
  have h2 : bm + v ≤ 400 := by
    have o4 : (400 : Int32).toInt = 400 := rfl
    rw [Int32.le_iff_toInt_le, zadd (by omega) (by omega), o4]
    omega
  have hc := zclamp hv.1
  unfold f_X6_feed at e
  rw [if_neg h1, if_pos h2] at e
  unfold f_X5_feed
  rw [if_neg h3, if_pos h4, if_neg h5]
  have e0 : v = nI v.toNatClampNeg := (znI_clamp hv.1).symm
  have em := zmf_lp (pa := pa) (pb := pb) (pc := pc) (pd := pd) (U := MU) (m := bm) v.toNatClampNeg
  generalize hT : lp_X6_feed pa pb pc pd (MU, bm) v.toNatClampNeg = T at em e
  obtain ⟨U2, n1⟩ := T
  dsimp only at e em
  cases e
  generalize hk : v.toNatClampNeg = k at *
  subst e0
  generalize hT1 : f_X5_feedFrom Bf bm pa (zMin (nI k) 4) = T1
  obtain ⟨G1, m1⟩ := T1
  dsimp only
  generalize hT2 : f_X5_feedFrom G1 m1 pb (zMin (nI k - 4) 4) = T2
  obtain ⟨G2, m2⟩ := T2
  dsimp only
  generalize hT3 : f_X5_feedFrom G2 m2 pc (zMin (nI k - 8) 4) = T3
  obtain ⟨G3, m3⟩ := T3
  dsimp only
  generalize hT4 : f_X5_feedFrom G3 m3 pd (zMin (nI k - 12) 4) = T4
  obtain ⟨G4, m4⟩ := T4
  dsimp only
  have := zfeed_m (k := k) (by omega) ⟨g1, by omega, by decide⟩ hT1 hT2 hT3 hT4
  rw [this, em]
  exact ⟨rfl, rfl, rfl⟩
section
variable {Bf MU U1 : Nat → Int32} {bm bs v pa pb pc pd r ft b1 : Int32}
theorem rb_feed_0 (hb : zok 400 bm) (_ : zok 400 bs) (h : bm = bs) (hx : x_X5_feed bm v = none) (e : f_X6_feed MU bs v pa pb pc pd = (r, U1, ft, b1)) : (f_X5_feed Bf bm v pa pb pc pd).2.2 = b1 := (q_feed0 hb h hx e).2.1
theorem rb_feed_1 (_ : zok 400 bm) (_ : zok 400 bs) (h : bm = bs) (hx : x_X5_feed bm v = some zIAE) (e : f_X6_feed MU bs v pa pb pc pd = (r, U1, ft, b1)) : bm = b1 := by
  unfold f_X6_feed at e
  rw [if_pos (qx_feed1 hx)] at e
  cases e
  exact h
theorem rb_feed_2 (hb : zok 400 bm) (_ : zok 400 bs) (h : bm = bs) (hx : x_X5_feed bm v = some zISE) (e : f_X6_feed MU bs v pa pb pc pd = (r, U1, ft, b1)) : bm = b1 := by
  subst h
  obtain ⟨c1, c2⟩ := qx_feed2 hb hx
  unfold f_X6_feed at e
  rw [if_neg c1, if_neg c2] at e
  cases e
  rfl
theorem qshort0 {N : Nat} {m : Int32} (hm : zok N m) : f_X3_shorten m 0 = 0 := by
  unfold f_X3_shorten
  rw [if_neg (by decide)]
  split
  · next c =>
    obtain ⟨h1, h2, h3⟩ := hm
    have o0 : (0 : Int32).toInt = 0 := rfl
    rw [Int32.le_iff_toInt_le, o0] at c
    exact Int32.toInt_inj.mp (by omega)
  · rfl
theorem rb_erase (hb : zok 400 bm) (_ : zok 400 bs) (_ : bm = bs) (e : f_X5_erase bm = (r, b1)) : b1 = 0 := by
  unfold f_X5_erase at e
  cases e
  exact qshort0 hb
end
def kS (w : BitVec 32) : BitVec 32 := (w >>> 1) ^^^ (if w.getLsbD 0 then 0x82F63B78#32 else 0#32)
theorem kS_xor (a b : BitVec 32) : kS (a ^^^ b) = kS a ^^^ kS b := by
  unfold kS
  rw [BitVec.getLsbD_xor, BitVec.ushiftRight_xor_distrib]
  generalize a >>> 1 = x
  generalize b >>> 1 = y
  generalize 0x82F63B78#32 = P
  cases a.getLsbD 0 <;> cases b.getLsbD 0 <;> (ext i hi; simp <;> cases x[i] <;> cases y[i] <;> cases P[i] <;> rfl)
theorem kS_even (w : BitVec 32) (h : w.getLsbD 0 = false) : kS w = w >>> 1 := by
  unfold kS
  rw [h]
  simp
theorem kS4_hi (w : BitVec 32) : kS (kS (kS (kS (w &&& 0xFFFFFFF0#32)))) = w >>> 4 := by
  have h0 : kS (w &&& 0xFFFFFFF0#32) = (w &&& 0xFFFFFFF0#32) >>> 1 := kS_even _ (by simp)
  have h1 : kS ((w &&& 0xFFFFFFF0#32) >>> 1) = (w &&& 0xFFFFFFF0#32) >>> 2 := by
    rw [kS_even _ (by simp), ← BitVec.shiftRight_add]
  have h2 : kS ((w &&& 0xFFFFFFF0#32) >>> 2) = (w &&& 0xFFFFFFF0#32) >>> 3 := by
    rw [kS_even _ (by simp), ← BitVec.shiftRight_add]
  have h3 : kS ((w &&& 0xFFFFFFF0#32) >>> 3) = (w &&& 0xFFFFFFF0#32) >>> 4 := by
    rw [kS_even _ (by simp), ← BitVec.shiftRight_add]
  rw [h0, h1, h2, h3, BitVec.ushiftRight_and_distrib]
  apply BitVec.eq_of_toNat_eq
  rw [BitVec.toNat_and, show (0xFFFFFFF0#32 >>> 4).toNat = 2 ^ 28 - 1 from rfl]
  apply Nat.and_two_pow_sub_one_of_lt_two_pow
  rw [BitVec.toNat_ushiftRight, Nat.shiftRight_eq_div_pow]
  have := w.isLt
  omega
theorem kS4 (w : BitVec 32) : kS (kS (kS (kS w))) = (w >>> 4) ^^^ kS (kS (kS (kS (w &&& 15#32)))) := by
  have e : w = (w &&& 0xFFFFFFF0#32) ^^^ (w &&& 15#32) := by
    have hab : ∀ i, i < 32 → (0xFFFFFFF0#32).getLsbD i = !(15#32).getLsbD i := by decide
    apply BitVec.eq_of_getLsbD_eq
    intro i hi
    rw [BitVec.getLsbD_xor, BitVec.getLsbD_and, BitVec.getLsbD_and, hab i hi]
    cases w.getLsbD i <;> cases (15#32).getLsbD i <;> rfl
  have h : kS (kS (kS (kS ((w &&& 0xFFFFFFF0#32) ^^^ (w &&& 15#32))))) = (w >>> 4) ^^^ kS (kS (kS (kS (w &&& 15#32)))) := by
    rw [kS_xor, kS_xor, kS_xor, kS_xor, kS4_hi]
  rw [← e] at h
  exact h
theorem kS_more (k w : Int32) : (b_X6_more k w).toBitVec = kS w.toBitVec := by
  unfold b_X6_more kS
  have h1 : (zUshr w 1).toBitVec = w.toBitVec >>> 1 := rfl
  have h2 : (w &&& 1 = 0) ↔ w.toBitVec.getLsbD 0 = false := by
    constructor
    · intro h
      have := congrArg Int32.toBitVec h
      have h3 : (w &&& 1).toBitVec = w.toBitVec &&& 1#32 := rfl
      rw [h3] at this
      have h4 := congrArg (fun q => BitVec.getLsbD q 0) this
      simpa using h4
    · intro h
      apply Int32.toBitVec_inj.mp
      show w.toBitVec &&& 1#32 = 0#32
      rw [BitVec.and_one_eq_setWidth_ofBool_getLsbD, h]
      rfl
  by_cases c : w &&& 1 = 0
  · rw [if_pos c, h1, h2.mp c]
    simp
  · have c' : w.toBitVec.getLsbD 0 = true := by
      cases hq : w.toBitVec.getLsbD 0 with
      | false => exact absurd (h2.mpr hq) c
      | true => rfl
    rw [if_neg c, c']
    show (zUshr w 1).toBitVec ^^^ 0x82F63B78#32 = _
    rw [h1]
    simp
theorem kT : ∀ n, n < 16 → kS (kS (kS (kS (BitVec.ofNat 32 n)))) = (zRem n).toBitVec := by decide +kernel
/-- four steps at once -/
theorem kS4_T (w : Int32) : kS (kS (kS (kS w.toBitVec))) = (zUshr w 4 ^^^ zRem (w &&& 15).toNatClampNeg).toBitVec := by
  obtain ⟨n, hn, e⟩ : ∃ n : Nat, n < 16 ∧ w &&& 15 = nI n := by
    have h := zin15 w
    rw [vp_in_iff] at h
    obtain ⟨n, hn, e, en⟩ := znI_ex (x := w &&& 15) (by omega)
    exact ⟨n, by omega, e⟩
  have e1 : w.toBitVec &&& 15#32 = BitVec.ofNat 32 n := by
    have := congrArg Int32.toBitVec e
    exact this
  have e2 : (nI n).toNatClampNeg = n := by
    have h1 := nI_toInt (n := n) (by omega)
    have h2 := zclamp (x := nI n) (by omega)
    omega
  rw [kS4, e1, kT n hn, e, e2]
  rfl
/-- a byte by two looks into the table -/
def kwb (c q : Int32) : Int32 := (zUshr ((zUshr c 4) ^^^ (zRem (((c ^^^ q) &&& 15)).toNatClampNeg)) 4) ^^^ (zRem (((((zUshr c 4) ^^^ (zRem (((c ^^^ q) &&& 15)).toNatClampNeg)) ^^^ (zUshr q 4)) &&& 15)).toNatClampNeg)
theorem kus_xor (a b : Int32) : zUshr (a ^^^ b) 4 = zUshr a 4 ^^^ zUshr b 4 := by
  apply Int32.toBitVec_inj.mp
  show (a.toBitVec ^^^ b.toBitVec) >>> 4 = (a.toBitVec >>> 4) ^^^ (b.toBitVec >>> 4)
  exact BitVec.ushiftRight_xor_distrib _ _ _
theorem kus_0 : ∀ n, n < 256 → zUshr (zUshr (nI n) 4) 4 = 0 := by decide +kernel
theorem kcrc (c x : Int32) (hx : 0 ≤ x.toInt ∧ x.toInt ≤ 255) : kwb c x = f_X6_more c x := by
  have hm : (f_X6_more c x).toBitVec = kS (kS (kS (kS (kS (kS (kS (kS (c ^^^ x).toBitVec))))))) := by
    have e : f_X6_more c x = b_X6_more (nI 7) (b_X6_more (nI 6) (b_X6_more (nI 5) (b_X6_more (nI 4) (b_X6_more (nI 3) (b_X6_more (nI 2) (b_X6_more (nI 1) (b_X6_more (nI 0) (c ^^^ x)))))))) := rfl
    rw [e]
    simp only [kS_more]
  obtain ⟨n, hn, rfl, en⟩ := znI_ex hx.1
  have h0 := kus_0 n (by omega)
  apply Int32.toBitVec_inj.mp
  rw [hm, kS4_T, kS4_T, kus_xor (zUshr (c ^^^ nI n) 4), kus_xor c, kus_xor (zUshr c 4), h0]
  unfold kwb
  congr 1
  rw [Int32.xor_zero]
  rw [kus_xor]
  rw [Int32.xor_assoc (zUshr c 4) (zUshr (nI n) 4), Int32.xor_comm (zUshr (nI n) 4), ← Int32.xor_assoc (zUshr c 4) _ (zUshr (nI n) 4)]
theorem qnar (v : Int32) : (vp_nar .byte (v.toInt8.toInt32)) &&& 255 = v &&& 255 := by
  have e : vp_nar .byte (v.toInt8.toInt32) = v.toInt8.toInt32.toInt8.toInt32 := rfl
  rw [e]
  apply Int32.toBitVec_inj.mp
  show (((v.toBitVec.signExtend 8).signExtend 32).signExtend 8).signExtend 32 &&& 255#32 = v.toBitVec &&& 255#32
  apply BitVec.eq_of_getLsbD_eq
  intro i hi
  simp only [BitVec.getLsbD_and]
  by_cases h : i < 8
  · have : (255#32).getLsbD i = true := by
      have := (by decide : ∀ i, i < 8 → (255#32).getLsbD i = true)
      exact this i h
    simp only [BitVec.getLsbD_signExtend, hi, h, decide_true, Bool.true_and, if_true]
  · have : (255#32).getLsbD i = false := by
      have := (by decide : ∀ i, i < 32 → ¬ i < 8 → (255#32).getLsbD i = false)
      exact this i hi h
    rw [this]
    simp
def qB (F MB : Nat → Int32) (m : Int32) : Prop := ∀ j : Nat, (j : Int) < m.toInt → F j &&& 255 = MB j
theorem qB_0 {F MB : Nat → Int32} : qB F MB 0 := fun j hj => by
  have o0 : (0 : Int32).toInt = 0 := rfl
  omega
theorem qB_le {F MB : Nat → Int32} {m n : Int32} (h : qB F MB m) (hn : n.toInt ≤ m.toInt) : qB F MB n := fun j hj => h j (by omega)
theorem qB_add {N : Nat} {F MB : Nat → Int32} {m v w : Int32} (h : qB F MB m) (hm : zroom N 1 m) (hv : v &&& 255 = w) : qB (f_X3_add N F m v).1 (upd MB m.toNatClampNeg w) (m + 1) := by
  obtain ⟨m1, m2, m3⟩ := hm
  have o1 : (1 : Int32).toInt = 1 := rfl
  have e : (m + 1).toInt = m.toInt + 1 := by rw [zadd] <;> rw [o1] <;> omega
  have hc := zclamp m1
  have hN : ¬ nI N ≤ m := by
    rw [Int32.le_iff_toInt_le, nI_toInt m3]
    omega
  unfold f_X3_add
  rw [if_neg hN]
  intro j hj
  show upd F m.toNatClampNeg _ j &&& 255 = upd MB m.toNatClampNeg w j
  unfold upd
  by_cases c : j = m.toNatClampNeg
  · rw [if_pos c, if_pos c, qnar, hv]
  · rw [if_neg c, if_neg c]
    exact h j (by omega)
theorem qshr (x : Int32) : (zUshr x 24 &&& 255 = (x >>> ((24 : Int32) &&& 31)) &&& 255) ∧ (zUshr x 16 &&& 255 = (x >>> ((16 : Int32) &&& 31)) &&& 255) ∧ (zUshr x 8 &&& 255 = (x >>> ((8 : Int32) &&& 31)) &&& 255) ∧ (zUshr x 0 &&& 255 = (x >>> ((0 : Int32) &&& 31)) &&& 255) := by
  have key : ∀ s : Nat, s ≤ 24 → (x.toBitVec >>> s) &&& 255#32 = (x.toBitVec.sshiftRight s) &&& 255#32 := by
    intro s hs
    apply BitVec.eq_of_getLsbD_eq
    intro i hi
    simp only [BitVec.getLsbD_and]
    by_cases h : i < 8
    · simp only [BitVec.getLsbD_ushiftRight, BitVec.getLsbD_sshiftRight]
      simp [show ¬ 32 ≤ i by omega, show s + i < 32 by omega]
    · have : (255#32).getLsbD i = false := by
        have := (by decide : ∀ i, i < 32 → ¬ i < 8 → (255#32).getLsbD i = false)
        exact this i hi h
      rw [this]
      simp
  refine ⟨?_, ?_, ?_, ?_⟩
  · exact Int32.toBitVec_inj.mp (key 24 (by decide))
  · exact Int32.toBitVec_inj.mp (key 16 (by decide))
  · exact Int32.toBitVec_inj.mp (key 8 (by decide))
  · exact Int32.toBitVec_inj.mp (key 0 (by decide))
theorem qmod4 : ∀ k, k < 16 → zMod (nI k) 4 = nI (k % 4) := by decide +kernel
theorem qsh_i (x : Int32) : ∀ i : Nat, i < 4 → zUshr x (24 - (8 * nI i)) &&& 255 = (x >>> (((24 - (8 * nI i)) : Int32) &&& 31)) &&& 255 := by
  intro i hi
  obtain ⟨h1, h2, h3, h4⟩ := qshr x
  have : i = 0 ∨ i = 1 ∨ i = 2 ∨ i = 3 := by omega
  rcases this with rfl | rfl | rfl | rfl
  · exact h1
  · exact h2
  · exact h3
  · exact h4
def qword (pa pb pc pd : Int32) (w : Nat) : Int32 := match w with | 0 => pa | 1 => pb | 2 => pc | _ => pd
theorem qbf {pa pb pc pd : Int32} {U : Nat → Int32} {m : Int32} : ∀ w i : Nat, w < 4 → i < 4 → b_X6_feed pa pb pc pd (nI (4 * w + i)) (U, m) = (upd U m.toNatClampNeg ((qword pa pb pc pd w >>> (((24 - (8 * nI i)) : Int32) &&& 31)) &&& 255), m + 1) := by
  intro w i hw hi
  have e : zMod (nI (4 * w + i)) 4 = nI i := by rw [qmod4 _ (by omega)]; congr 1; omega
  have hc : ∀ c : Nat, c < 100 → (((nI c) ≤ nI (4 * w + i)) ↔ c ≤ 4 * w + i) := by
    intro c hcc
    rw [Int32.le_iff_toInt_le, nI_toInt (by omega), nI_toInt (by omega)]
    omega
  have c4 : ((4 : Int32) ≤ nI (4 * w + i)) ↔ 4 ≤ 4 * w + i := hc 4 (by decide)
  have c8 : ((8 : Int32) ≤ nI (4 * w + i)) ↔ 8 ≤ 4 * w + i := hc 8 (by decide)
  have c12 : ((12 : Int32) ≤ nI (4 * w + i)) ↔ 12 ≤ 4 * w + i := hc 12 (by decide)
  have hw' : w = 0 ∨ w = 1 ∨ w = 2 ∨ w = 3 := by omega
  unfold b_X6_feed
  dsimp only
  rw [e]
  rcases hw' with rfl | rfl | rfl | rfl
  · rw [if_neg (fun q => absurd (c4.mp q) (by omega))]; rfl
  · rw [if_pos (c4.mpr (by omega)), if_neg (fun q => absurd (c8.mp q) (by omega))]; rfl
  · rw [if_pos (c4.mpr (by omega)), if_pos (c8.mpr (by omega)), if_neg (fun q => absurd (c12.mp q) (by omega))]; rfl
  · rw [if_pos (c4.mpr (by omega)), if_pos (c8.mpr (by omega)), if_pos (c12.mpr (by omega))]; rfl
/-- a word's bytes, class against reference -/
theorem qfw {pa pb pc pd : Int32} {MU : Nat → Int32} {bs : Int32} {w : Nat} (hw : w < 4) {F : Nat → Int32} {m : Int32} {k : Nat} (hk : k ≤ 4) (hm : m = (lp_X6_feed pa pb pc pd (MU, bs) (4 * w)).2) (hr : zroom 400 k m) (h : qB F (lp_X6_feed pa pb pc pd (MU, bs) (4 * w)).1 m) : ∀ i, i ≤ k → (lp_X5_feedFrom (qword pa pb pc pd w) (F, m) i).2 = (lp_X6_feed pa pb pc pd (MU, bs) (4 * w + i)).2 ∧ qB (lp_X5_feedFrom (qword pa pb pc pd w) (F, m) i).1 (lp_X6_feed pa pb pc pd (MU, bs) (4 * w + i)).1 (lp_X5_feedFrom (qword pa pb pc pd w) (F, m) i).2 := by
  intro i
  induction i with
  | zero => intro _; exact ⟨hm, h⟩
  | succ i ih =>
    intro hi
    obtain ⟨e1, e2⟩ := ih (by omega)
    have e0 := zff_lp (x := qword pa pb pc pd w) (F := F) hr i (by omega)
    have hr1 := zroom_nI hr (show i ≤ k by omega)
    rw [← e0] at hr1
    show (b_X5_feedFrom (qword pa pb pc pd w) (nI i) (lp_X5_feedFrom (qword pa pb pc pd w) (F, m) i)).2 = (b_X6_feed pa pb pc pd (nI (4 * w + i)) (lp_X6_feed pa pb pc pd (MU, bs) (4 * w + i))).2 ∧ qB (b_X5_feedFrom (qword pa pb pc pd w) (nI i) (lp_X5_feedFrom (qword pa pb pc pd w) (F, m) i)).1 (b_X6_feed pa pb pc pd (nI (4 * w + i)) (lp_X6_feed pa pb pc pd (MU, bs) (4 * w + i))).1 (b_X5_feedFrom (qword pa pb pc pd w) (nI i) (lp_X5_feedFrom (qword pa pb pc pd w) (F, m) i)).2
    generalize lp_X5_feedFrom (qword pa pb pc pd w) (F, m) i = T1 at e1 e2 hr1 ⊢
    generalize lp_X6_feed pa pb pc pd (MU, bs) (4 * w + i) = T2 at e1 e2 ⊢
    obtain ⟨F1, m1⟩ := T1
    obtain ⟨U1, u1⟩ := T2
    dsimp only at e1 e2 hr1
    subst e1
    rw [qbf w i hw (by omega)]
    have hr2 : zroom 400 1 m1 := zroom_le hr1 (by omega)
    have hb := qB_add (N := 400) (w := (qword pa pb pc pd w >>> (((24 - (8 * nI i)) : Int32) &&& 31)) &&& 255) e2 hr2 (qsh_i (qword pa pb pc pd w) i (by omega))
    have hm2 := zadd_m (F := F1) (v := zUshr (qword pa pb pc pd w) (24 - (8 * nI i))) hr2
    exact ⟨hm2, hm2 ▸ hb⟩
theorem qff0 {F : Nat → Int32} {m x v : Int32} (h : v.toNatClampNeg = 0) : f_X5_feedFrom F m x v = (F, m) := by
  unfold f_X5_feedFrom
  rw [h]
  rfl
theorem qff_lp {F : Nat → Int32} {m x v : Int32} : f_X5_feedFrom F m x v = lp_X5_feedFrom x (F, m) v.toNatClampNeg := by
  unfold f_X5_feedFrom
  generalize lp_X5_feedFrom x (F, m) v.toNatClampNeg = T
  obtain ⟨F1, m1⟩ := T
  rfl
theorem qcnt : ∀ k, k < 17 → (zMin (nI k) 4).toNatClampNeg = min k 4 ∧ (zMin (nI k - 4) 4).toNatClampNeg = min (k - 4) 4 ∧ (zMin (nI k - 8) 4).toNatClampNeg = min (k - 8) 4 ∧ (zMin (nI k - 12) 4).toNatClampNeg = min (k - 12) 4 := by decide +kernel
/-- one word: from min k (4 w) bytes to min k (4 (w + 1)) -/
theorem qfw1 {pa pb pc pd : Int32} {MU : Nat → Int32} {bs : Int32} {w k : Nat} (hw : w < 4) {F G : Nat → Int32} {m g v : Int32} (hv : v.toNatClampNeg = min (k - 4 * w) 4) (hr0 : zroom 400 k bs) (hm : m = (lp_X6_feed pa pb pc pd (MU, bs) (min k (4 * w))).2) (h : qB F (lp_X6_feed pa pb pc pd (MU, bs) (min k (4 * w))).1 m) (e : f_X5_feedFrom F m (qword pa pb pc pd w) v = (G, g)) : g = (lp_X6_feed pa pb pc pd (MU, bs) (min k (4 * (w + 1)))).2 ∧ qB G (lp_X6_feed pa pb pc pd (MU, bs) (min k (4 * (w + 1)))).1 g := by
  by_cases hk : k ≤ 4 * w
  · rw [qff0 (by rw [hv]; omega)] at e
    cases e
    rw [show min k (4 * (w + 1)) = min k (4 * w) by omega]
    exact ⟨hm, h⟩
  · rw [show min k (4 * w) = 4 * w by omega] at hm h
    have e4 := zmf_lp (pa := pa) (pb := pb) (pc := pc) (pd := pd) (U := MU) (m := bs) (4 * w)
    have hr : zroom 400 (k - 4 * w) m := by rw [hm, e4]; exact zroom_nI hr0 (by omega)
    rw [qff_lp, hv] at e
    have := qfw (k := min (k - 4 * w) 4) hw (by omega) hm (zroom_le hr (by omega)) h (min (k - 4 * w) 4) (Nat.le_refl _)
    rw [e] at this
    rw [show min k (4 * (w + 1)) = 4 * w + min (k - 4 * w) 4 by omega]
    exact this
theorem qB_feed {Bf MU U1 : Nat → Int32} {bm bs v pa pb pc pd r ft b1 : Int32} (hb : zok 400 bm) (h : bm = bs) (hB : qB Bf MU bm) (hx : x_X5_feed bm v = none) (e : f_X6_feed MU bs v pa pb pc pd = (r, U1, ft, b1)) : qB (f_X5_feed Bf bm v pa pb pc pd).2.1 U1 (f_X5_feed Bf bm v pa pb pc pd).2.2 := by
  subst h
  obtain ⟨h3, h4, h5, hv, hr⟩ := qx_feed0 hb hx
  obtain ⟨g1, g2, g3⟩ := hb
  have h1 : ¬ f_X6_isIn v 0 16 = 0 := qisIn1 (Int32.not_lt.mp h3) h4
  have h2 : bm + v ≤ 400 := by
    have o4 : (400 : Int32).toInt = 400 := rfl
    rw [Int32.le_iff_toInt_le, zadd (by omega) (by omega), o4]
    omega
  have hc := zclamp hv.1
  unfold f_X6_feed at e
  rw [if_neg h1, if_pos h2] at e
  unfold f_X5_feed
  rw [if_neg h3, if_pos h4, if_neg h5]
  have e0 : v = nI v.toNatClampNeg := (znI_clamp hv.1).symm
  generalize hk : v.toNatClampNeg = k at *
  subst e0
  obtain ⟨k1, k2, k3, k4⟩ := qcnt k (by omega)
  have hr0 : zroom 400 k bm := ⟨g1, by omega, by decide⟩
  generalize hT1 : f_X5_feedFrom Bf bm pa (zMin (nI k) 4) = T1
  obtain ⟨G1, m1⟩ := T1
  dsimp only
  obtain ⟨a1, b1'⟩ := qfw1 (pa := pa) (pb := pb) (pc := pc) (pd := pd) (MU := MU) (bs := bm) (w := 0) (k := k) (by decide) k1 hr0 (m := bm) (F := Bf) (by rw [show min k (4 * 0) = 0 by omega]; rfl) (by rw [show min k (4 * 0) = 0 by omega]; exact hB) hT1
  generalize hT2 : f_X5_feedFrom G1 m1 pb (zMin (nI k - 4) 4) = T2
  obtain ⟨G2, m2⟩ := T2
  dsimp only
  obtain ⟨a2, b2⟩ := qfw1 (pa := pa) (pb := pb) (pc := pc) (pd := pd) (MU := MU) (bs := bm) (w := 1) (k := k) (by decide) k2 hr0 a1 b1' hT2
  generalize hT3 : f_X5_feedFrom G2 m2 pc (zMin (nI k - 8) 4) = T3
  obtain ⟨G3, m3⟩ := T3
  dsimp only
  obtain ⟨a3, b3⟩ := qfw1 (pa := pa) (pb := pb) (pc := pc) (pd := pd) (MU := MU) (bs := bm) (w := 2) (k := k) (by decide) k3 hr0 a2 b2 hT3
  generalize hT4 : f_X5_feedFrom G3 m3 pd (zMin (nI k - 12) 4) = T4
  obtain ⟨G4, m4⟩ := T4
  dsimp only
  obtain ⟨a4, b4⟩ := qfw1 (pa := pa) (pb := pb) (pc := pc) (pd := pd) (MU := MU) (bs := bm) (w := 3) (k := k) (by decide) k4 hr0 a3 b3 hT4
  rw [show min k (4 * (3 + 1)) = k by omega] at b4
  generalize lp_X6_feed pa pb pc pd (MU, bm) k = T at e b4
  obtain ⟨U2, n2⟩ := T
  dsimp only at e
  cases e
  exact b4
theorem qat {F MB : Nat → Int32} {m : Int32} (h : qB F MB m) (h0 : 0 ≤ m.toInt) {i : Nat} (hi : (i : Int) < m.toInt) (hm : m.toInt ≤ 4096) : f_X3_at F m (nI i) = MB i := by
  have e := nI_toInt (n := i) (by omega)
  have hc := zclamp (x := nI i) (by omega)
  have o0 : (0 : Int32).toInt = 0 := rfl
  unfold f_X3_at
  rw [if_neg (by rw [Int32.lt_iff_toInt_lt, e, o0]; omega), if_neg (by rw [Int32.le_iff_toInt_le, e]; omega)]
  rw [show (nI i).toNatClampNeg = i by omega]
  exact h i hi
theorem qbyte {F MB : Nat → Int32} {m : Int32} (h : qB F MB m) {i : Nat} (hi : (i : Int) < m.toInt) : 0 ≤ (MB i).toInt ∧ (MB i).toInt ≤ 255 := by
  rw [← h i hi]
  exact zand255 _
/-- the check of a piece: class against reference -/
theorem qsum {F MU : Nat → Int32} {m q x v : Int32} (h : qB F MU m) (hm : zok 400 m) (hx : 0 ≤ x.toInt) (hv : 0 ≤ v.toInt) (hxv : x.toInt + v.toInt ≤ m.toInt) (hq : 0 ≤ q.toInt ∧ q.toInt ≤ 255) : f_X4_of F m q x v = f_X6_checkOf MU q x v := by
  obtain ⟨m1, m2, m3⟩ := id hm
  have hc := zclamp hv
  have hcx := zclamp hx
  have lp : ∀ c i, i ≤ v.toNatClampNeg → lp_X4_of F m x c i = lp_X6_checkOf MU x c i := by
    intro c i
    induction i with
    | zero => intro _; rfl
    | succ i ih =>
      intro hi
      have ih' := ih (by omega)
      show b_X4_of F m x (nI i) (lp_X4_of F m x c i) = b_X6_checkOf MU x (nI i) (lp_X6_checkOf MU x c i)
      rw [ih']
      generalize lp_X6_checkOf MU x c i = w
      have ex : x + nI i = nI (x.toNatClampNeg + i) := by rw [← nI_add, znI_clamp hx]
      have hat : f_X3_at F m (x + nI i) = MU (x.toNatClampNeg + i) := by rw [ex]; exact qat h m1 (by omega) (by omega)
      have hn : (x + nI i).toNatClampNeg = x.toNatClampNeg + i := by
        have e1 := nI_toInt (n := x.toNatClampNeg + i) (by omega)
        have e2 := zclamp (x := nI (x.toNatClampNeg + i)) (by omega)
        rw [ex]
        omega
      have hb := qbyte h (i := x.toNatClampNeg + i) (by omega)
      have k := kcrc w (MU (x.toNatClampNeg + i)) hb
      show kwb w (f_X3_at F m (x + nI i)) = f_X6_more w (MU (x + nI i).toNatClampNeg)
      rw [hat, hn]
      exact k
  have k0 := kcrc (-1) q hq
  have e : f_X4_of F m q x v = (((zUshr ((lp_X4_of F m x (kwb (-1) q) (v).toNatClampNeg) ^^^ (-1)) 15) ||| (((lp_X4_of F m x (kwb (-1) q) (v).toNatClampNeg) ^^^ (-1)) <<< ((17 : Int32) &&& 31))) + (-1568478504)) := rfl
  rw [e, k0, lp _ _ (Nat.le_refl _)]
  rfl
section
variable {Bf MU U1 : Nat → Int32} {bm bs v pa pb pc pd r ft b1 : Int32}
theorem rU_feed_0 (hb : zok 400 bm) (h : bm = bs) (hB : qB Bf MU bm) (hx : x_X5_feed bm v = none) (e : f_X6_feed MU bs v pa pb pc pd = (r, U1, ft, b1)) : qB (f_X5_feed Bf bm v pa pb pc pd).2.1 U1 (f_X5_feed Bf bm v pa pb pc pd).2.2 := qB_feed hb h hB hx e
theorem rU_feed_1 (_ : zok 400 bm) (_ : bm = bs) (hB : qB Bf MU bm) (hx : x_X5_feed bm v = some zIAE) (e : f_X6_feed MU bs v pa pb pc pd = (r, U1, ft, b1)) : qB Bf U1 bm := by
  unfold f_X6_feed at e
  rw [if_pos (qx_feed1 hx)] at e
  cases e
  exact hB
theorem rU_feed_2 (hb : zok 400 bm) (h : bm = bs) (hB : qB Bf MU bm) (hx : x_X5_feed bm v = some zISE) (e : f_X6_feed MU bs v pa pb pc pd = (r, U1, ft, b1)) : qB Bf U1 bm := by
  subst h
  obtain ⟨c1, c2⟩ := qx_feed2 hb hx
  unfold f_X6_feed at e
  rw [if_neg c1, if_neg c2] at e
  cases e
  exact hB
theorem rU_erase (hb : zok 400 bm) (_ : bm = bs) (_ : qB Bf MU bm) (e : f_X5_erase bm = (r, b1)) : qB Bf MU b1 := by
  unfold f_X5_erase at e
  cases e
  rw [qshort0 hb]
  exact qB_0
end
section
variable {Bf MU : Nat → Int32} {bm bs v r ft : Int32}
theorem qt_check_0 (_ : bm = bs) (_ : qB Bf MU bm) (_ : zok 400 bm) (hx : x_X5_check v = none) (e : f_X6_check MU bs v = (r, ft)) : ft = 0 := by
  unfold x_X5_check at hx
  split at hx
  · exact nomatch hx
  · next c =>
    have c' : ¬ f_X6_isIn v 0 255 = 0 := c
    unfold f_X6_check at e
    rw [if_neg c'] at e
    exact (congrArg Prod.snd e).symm
theorem qt_check_1 (_ : bm = bs) (_ : qB Bf MU bm) (_ : zok 400 bm) (hx : x_X5_check v = some zIAE) (e : f_X6_check MU bs v = (r, ft)) : ft = 1 := by
  unfold x_X5_check at hx
  split at hx
  · next c =>
    have c' : f_X6_isIn v 0 255 = 0 := c
    unfold f_X6_check at e
    rw [if_pos c'] at e
    exact (congrArg Prod.snd e).symm
  · exact nomatch hx
theorem qr_check (h : bm = bs) (hB : qB Bf MU bm) (hb : zok 400 bm) (hx : x_X5_check v = none) (e : f_X6_check MU bs v = (r, ft)) : f_X5_check Bf bm v = r := by
  subst h
  unfold x_X5_check at hx
  split at hx
  · exact nomatch hx
  · next c =>
    have c' : ¬ f_X6_isIn v 0 255 = 0 := c
    unfold f_X6_check at e
    rw [if_neg c'] at e
    rw [Prod.mk.injEq] at e
    obtain ⟨er, _⟩ := e
    unfold f_X5_check
    rw [if_neg c, ← er]
    exact qsum hB hb (by decide) hb.1 (by have o0 : (0 : Int32).toInt = 0 := rfl; omega) (zisIn_i c')
end
def zInv (n : Nat) (Bf : Nat → Int32) (Wf : Nat → Int32) (Yf : Nat → Int32) (Cf : Nat → Int32) (F : Nat → Int32) (MB : Nat → Int32) (MU : Nat → Int32) (MH : Nat → Int32) (MR : Nat → Int32) (MW : Nat → Int32) (MY : Nat → Int32) (bm : Int32) (rp : Int32) (hf : Int32) (pl : Int32) (bg : Int32) (lo : Int32) (fp : Int32) (fb : Int32) (dm : Int32) (da : Int32) (cm : Int32) (z : Int32) (m : Int32) (Mft : Int32) (Msz : Int32) (Mal : Int32) (Mbs : Int32) (Mpl : Int32) (Mbg : Int32) (Mlo : Int32) (Mhs : Int32) (Mhf : Int32) (Mhp : Int32) (Mrs : Int32) (Mrf : Int32) (Mto : Int32) (Mtb : Int32) (Mfr : Int32) (Mln : Int32) (Mhb : Int32) : Prop := zok 400 bm ∧ zok 4096 m ∧ zok 4096 cm ∧ zsz z ∧ zbo lo ∧ zdok (8196 * (512 - n)) dm ∧ zsz Msz ∧ zok 4096 Mal ∧ zok 400 Mbs ∧ zby 4096 MB ∧ zpl Mpl ∧ zdok (10020 * (512 - n)) Mto ∧ (0 ≤ Mhs.toInt ∧ Mhs.toInt ≤ Mpl.toInt ∧ Mhs.toInt ≤ 4096) ∧ zrs Mrs ∧ bm = Mbs ∧ qB Bf MU bm
theorem zdok_eq {k : Nat} {x y : Int32} (e : x = 0) (h : zdok k y) : zdok k x := by
  rw [e]
  exact zdok_0 h
theorem zInv_0 : zInv 0 (fun _ => 0) (fun _ => 0) (fun _ => 0) (fun _ => 0) (fun _ => 0) (fun _ => 0) (fun _ => 0) (fun _ => 0) (fun _ => 0) (fun _ => 0) (fun _ => 0) 0 (-1) 0 0 0 0 0 0 0 0 0 64 0 0 64 0 0 0 0 0 0 0 0 (-1) (-1) 0 0 0 0 0 := ⟨⟨by decide, by decide, by decide⟩, ⟨by decide, by decide, by decide⟩, ⟨by decide, by decide, by decide⟩, ⟨by decide, by decide⟩, rfl, ⟨by decide, by decide⟩, ⟨by decide, by decide⟩, ⟨by decide, by decide, by decide⟩, ⟨by decide, by decide, by decide⟩, (fun _ _ => ⟨(by show 0 ≤ (0 : Int32).toInt; decide), (by show (0 : Int32).toInt ≤ 255; decide)⟩), ⟨by decide, by decide⟩, ⟨by decide, by decide⟩, ⟨by decide, by decide, by decide⟩, ⟨by decide, by decide⟩, rfl, qB_0⟩
theorem zI_bm {n : Nat} {Bf Wf Yf Cf F MB MU MH MR MW MY : Nat → Int32} {bm rp hf pl bg lo fp fb dm da cm z m Mft Msz Mal Mbs Mpl Mbg Mlo Mhs Mhf Mhp Mrs Mrf Mto Mtb Mfr Mln Mhb : Int32} (hI : (zInv n Bf Wf Yf Cf F MB MU MH MR MW MY bm rp hf pl bg lo fp fb dm da cm z m Mft Msz Mal Mbs Mpl Mbg Mlo Mhs Mhf Mhp Mrs Mrf Mto Mtb Mfr Mln Mhb)) : zok 400 bm := by
  obtain ⟨h_b, h_m, h_c, h_z, h_l, h_d, h_Z, h_A, h_B, h_Y, h_P, h_T, h_H, h_R, h_rb, h_rU⟩ := hI
  exact h_b
theorem zI_m {n : Nat} {Bf Wf Yf Cf F MB MU MH MR MW MY : Nat → Int32} {bm rp hf pl bg lo fp fb dm da cm z m Mft Msz Mal Mbs Mpl Mbg Mlo Mhs Mhf Mhp Mrs Mrf Mto Mtb Mfr Mln Mhb : Int32} (hI : (zInv n Bf Wf Yf Cf F MB MU MH MR MW MY bm rp hf pl bg lo fp fb dm da cm z m Mft Msz Mal Mbs Mpl Mbg Mlo Mhs Mhf Mhp Mrs Mrf Mto Mtb Mfr Mln Mhb)) : zok 4096 m := by
  obtain ⟨h_b, h_m, h_c, h_z, h_l, h_d, h_Z, h_A, h_B, h_Y, h_P, h_T, h_H, h_R, h_rb, h_rU⟩ := hI
  exact h_m
theorem zI_cm {n : Nat} {Bf Wf Yf Cf F MB MU MH MR MW MY : Nat → Int32} {bm rp hf pl bg lo fp fb dm da cm z m Mft Msz Mal Mbs Mpl Mbg Mlo Mhs Mhf Mhp Mrs Mrf Mto Mtb Mfr Mln Mhb : Int32} (hI : (zInv n Bf Wf Yf Cf F MB MU MH MR MW MY bm rp hf pl bg lo fp fb dm da cm z m Mft Msz Mal Mbs Mpl Mbg Mlo Mhs Mhf Mhp Mrs Mrf Mto Mtb Mfr Mln Mhb)) : zok 4096 cm := by
  obtain ⟨h_b, h_m, h_c, h_z, h_l, h_d, h_Z, h_A, h_B, h_Y, h_P, h_T, h_H, h_R, h_rb, h_rU⟩ := hI
  exact h_c
theorem zI_z {n : Nat} {Bf Wf Yf Cf F MB MU MH MR MW MY : Nat → Int32} {bm rp hf pl bg lo fp fb dm da cm z m Mft Msz Mal Mbs Mpl Mbg Mlo Mhs Mhf Mhp Mrs Mrf Mto Mtb Mfr Mln Mhb : Int32} (hI : (zInv n Bf Wf Yf Cf F MB MU MH MR MW MY bm rp hf pl bg lo fp fb dm da cm z m Mft Msz Mal Mbs Mpl Mbg Mlo Mhs Mhf Mhp Mrs Mrf Mto Mtb Mfr Mln Mhb)) : zsz z := by
  obtain ⟨h_b, h_m, h_c, h_z, h_l, h_d, h_Z, h_A, h_B, h_Y, h_P, h_T, h_H, h_R, h_rb, h_rU⟩ := hI
  exact h_z
theorem zI_lo {n : Nat} {Bf Wf Yf Cf F MB MU MH MR MW MY : Nat → Int32} {bm rp hf pl bg lo fp fb dm da cm z m Mft Msz Mal Mbs Mpl Mbg Mlo Mhs Mhf Mhp Mrs Mrf Mto Mtb Mfr Mln Mhb : Int32} (hI : (zInv n Bf Wf Yf Cf F MB MU MH MR MW MY bm rp hf pl bg lo fp fb dm da cm z m Mft Msz Mal Mbs Mpl Mbg Mlo Mhs Mhf Mhp Mrs Mrf Mto Mtb Mfr Mln Mhb)) : zbo lo := by
  obtain ⟨h_b, h_m, h_c, h_z, h_l, h_d, h_Z, h_A, h_B, h_Y, h_P, h_T, h_H, h_R, h_rb, h_rU⟩ := hI
  exact h_l
theorem zI_Msz {n : Nat} {Bf Wf Yf Cf F MB MU MH MR MW MY : Nat → Int32} {bm rp hf pl bg lo fp fb dm da cm z m Mft Msz Mal Mbs Mpl Mbg Mlo Mhs Mhf Mhp Mrs Mrf Mto Mtb Mfr Mln Mhb : Int32} (hI : (zInv n Bf Wf Yf Cf F MB MU MH MR MW MY bm rp hf pl bg lo fp fb dm da cm z m Mft Msz Mal Mbs Mpl Mbg Mlo Mhs Mhf Mhp Mrs Mrf Mto Mtb Mfr Mln Mhb)) : zsz Msz := by
  obtain ⟨h_b, h_m, h_c, h_z, h_l, h_d, h_Z, h_A, h_B, h_Y, h_P, h_T, h_H, h_R, h_rb, h_rU⟩ := hI
  exact h_Z
theorem zI_Mal {n : Nat} {Bf Wf Yf Cf F MB MU MH MR MW MY : Nat → Int32} {bm rp hf pl bg lo fp fb dm da cm z m Mft Msz Mal Mbs Mpl Mbg Mlo Mhs Mhf Mhp Mrs Mrf Mto Mtb Mfr Mln Mhb : Int32} (hI : (zInv n Bf Wf Yf Cf F MB MU MH MR MW MY bm rp hf pl bg lo fp fb dm da cm z m Mft Msz Mal Mbs Mpl Mbg Mlo Mhs Mhf Mhp Mrs Mrf Mto Mtb Mfr Mln Mhb)) : zok 4096 Mal := by
  obtain ⟨h_b, h_m, h_c, h_z, h_l, h_d, h_Z, h_A, h_B, h_Y, h_P, h_T, h_H, h_R, h_rb, h_rU⟩ := hI
  exact h_A
theorem zI_Mbs {n : Nat} {Bf Wf Yf Cf F MB MU MH MR MW MY : Nat → Int32} {bm rp hf pl bg lo fp fb dm da cm z m Mft Msz Mal Mbs Mpl Mbg Mlo Mhs Mhf Mhp Mrs Mrf Mto Mtb Mfr Mln Mhb : Int32} (hI : (zInv n Bf Wf Yf Cf F MB MU MH MR MW MY bm rp hf pl bg lo fp fb dm da cm z m Mft Msz Mal Mbs Mpl Mbg Mlo Mhs Mhf Mhp Mrs Mrf Mto Mtb Mfr Mln Mhb)) : zok 400 Mbs := by
  obtain ⟨h_b, h_m, h_c, h_z, h_l, h_d, h_Z, h_A, h_B, h_Y, h_P, h_T, h_H, h_R, h_rb, h_rU⟩ := hI
  exact h_B
theorem zI_MB {n : Nat} {Bf Wf Yf Cf F MB MU MH MR MW MY : Nat → Int32} {bm rp hf pl bg lo fp fb dm da cm z m Mft Msz Mal Mbs Mpl Mbg Mlo Mhs Mhf Mhp Mrs Mrf Mto Mtb Mfr Mln Mhb : Int32} (hI : (zInv n Bf Wf Yf Cf F MB MU MH MR MW MY bm rp hf pl bg lo fp fb dm da cm z m Mft Msz Mal Mbs Mpl Mbg Mlo Mhs Mhf Mhp Mrs Mrf Mto Mtb Mfr Mln Mhb)) : zby 4096 MB := by
  obtain ⟨h_b, h_m, h_c, h_z, h_l, h_d, h_Z, h_A, h_B, h_Y, h_P, h_T, h_H, h_R, h_rb, h_rU⟩ := hI
  exact h_Y
theorem zI_Mpl {n : Nat} {Bf Wf Yf Cf F MB MU MH MR MW MY : Nat → Int32} {bm rp hf pl bg lo fp fb dm da cm z m Mft Msz Mal Mbs Mpl Mbg Mlo Mhs Mhf Mhp Mrs Mrf Mto Mtb Mfr Mln Mhb : Int32} (hI : (zInv n Bf Wf Yf Cf F MB MU MH MR MW MY bm rp hf pl bg lo fp fb dm da cm z m Mft Msz Mal Mbs Mpl Mbg Mlo Mhs Mhf Mhp Mrs Mrf Mto Mtb Mfr Mln Mhb)) : zpl Mpl := by
  obtain ⟨h_b, h_m, h_c, h_z, h_l, h_d, h_Z, h_A, h_B, h_Y, h_P, h_T, h_H, h_R, h_rb, h_rU⟩ := hI
  exact h_P
theorem zI_Mhs {n : Nat} {Bf Wf Yf Cf F MB MU MH MR MW MY : Nat → Int32} {bm rp hf pl bg lo fp fb dm da cm z m Mft Msz Mal Mbs Mpl Mbg Mlo Mhs Mhf Mhp Mrs Mrf Mto Mtb Mfr Mln Mhb : Int32} (hI : (zInv n Bf Wf Yf Cf F MB MU MH MR MW MY bm rp hf pl bg lo fp fb dm da cm z m Mft Msz Mal Mbs Mpl Mbg Mlo Mhs Mhf Mhp Mrs Mrf Mto Mtb Mfr Mln Mhb)) : (0 ≤ Mhs.toInt ∧ Mhs.toInt ≤ Mpl.toInt ∧ Mhs.toInt ≤ 4096) := by
  obtain ⟨h_b, h_m, h_c, h_z, h_l, h_d, h_Z, h_A, h_B, h_Y, h_P, h_T, h_H, h_R, h_rb, h_rU⟩ := hI
  exact h_H
theorem zI_Mrs {n : Nat} {Bf Wf Yf Cf F MB MU MH MR MW MY : Nat → Int32} {bm rp hf pl bg lo fp fb dm da cm z m Mft Msz Mal Mbs Mpl Mbg Mlo Mhs Mhf Mhp Mrs Mrf Mto Mtb Mfr Mln Mhb : Int32} (hI : (zInv n Bf Wf Yf Cf F MB MU MH MR MW MY bm rp hf pl bg lo fp fb dm da cm z m Mft Msz Mal Mbs Mpl Mbg Mlo Mhs Mhf Mhp Mrs Mrf Mto Mtb Mfr Mln Mhb)) : zrs Mrs := by
  obtain ⟨h_b, h_m, h_c, h_z, h_l, h_d, h_Z, h_A, h_B, h_Y, h_P, h_T, h_H, h_R, h_rb, h_rU⟩ := hI
  exact h_R
theorem zI_dm {n : Nat} (hn : n < 512) {Bf Wf Yf Cf F MB MU MH MR MW MY : Nat → Int32} {bm rp hf pl bg lo fp fb dm da cm z m Mft Msz Mal Mbs Mpl Mbg Mlo Mhs Mhf Mhp Mrs Mrf Mto Mtb Mfr Mln Mhb : Int32} (hI : (zInv n Bf Wf Yf Cf F MB MU MH MR MW MY bm rp hf pl bg lo fp fb dm da cm z m Mft Msz Mal Mbs Mpl Mbg Mlo Mhs Mhf Mhp Mrs Mrf Mto Mtb Mfr Mln Mhb)) : zdok 8196 dm := by
  obtain ⟨h_b, h_m, h_c, h_z, h_l, h_d, h_Z, h_A, h_B, h_Y, h_P, h_T, h_H, h_R, h_rb, h_rU⟩ := hI
  exact zdok_le h_d (by omega)
theorem zI_Mto {n : Nat} (hn : n < 512) {Bf Wf Yf Cf F MB MU MH MR MW MY : Nat → Int32} {bm rp hf pl bg lo fp fb dm da cm z m Mft Msz Mal Mbs Mpl Mbg Mlo Mhs Mhf Mhp Mrs Mrf Mto Mtb Mfr Mln Mhb : Int32} (hI : (zInv n Bf Wf Yf Cf F MB MU MH MR MW MY bm rp hf pl bg lo fp fb dm da cm z m Mft Msz Mal Mbs Mpl Mbg Mlo Mhs Mhf Mhp Mrs Mrf Mto Mtb Mfr Mln Mhb)) : zdok 10020 Mto := by
  obtain ⟨h_b, h_m, h_c, h_z, h_l, h_d, h_Z, h_A, h_B, h_Y, h_P, h_T, h_H, h_R, h_rb, h_rU⟩ := hI
  exact zdok_le h_T (by omega)
theorem zI_rb {n : Nat} {Bf Wf Yf Cf F MB MU MH MR MW MY : Nat → Int32} {bm rp hf pl bg lo fp fb dm da cm z m Mft Msz Mal Mbs Mpl Mbg Mlo Mhs Mhf Mhp Mrs Mrf Mto Mtb Mfr Mln Mhb : Int32} (hI : (zInv n Bf Wf Yf Cf F MB MU MH MR MW MY bm rp hf pl bg lo fp fb dm da cm z m Mft Msz Mal Mbs Mpl Mbg Mlo Mhs Mhf Mhp Mrs Mrf Mto Mtb Mfr Mln Mhb)) : bm = Mbs := by
  obtain ⟨h_b, h_m, h_c, h_z, h_l, h_d, h_Z, h_A, h_B, h_Y, h_P, h_T, h_H, h_R, h_rb, h_rU⟩ := hI
  exact h_rb
theorem zI_rU {n : Nat} {Bf Wf Yf Cf F MB MU MH MR MW MY : Nat → Int32} {bm rp hf pl bg lo fp fb dm da cm z m Mft Msz Mal Mbs Mpl Mbg Mlo Mhs Mhf Mhp Mrs Mrf Mto Mtb Mfr Mln Mhb : Int32} (hI : (zInv n Bf Wf Yf Cf F MB MU MH MR MW MY bm rp hf pl bg lo fp fb dm da cm z m Mft Msz Mal Mbs Mpl Mbg Mlo Mhs Mhf Mhp Mrs Mrf Mto Mtb Mfr Mln Mhb)) : qB Bf MU bm := by
  obtain ⟨h_b, h_m, h_c, h_z, h_l, h_d, h_Z, h_A, h_B, h_Y, h_P, h_T, h_H, h_R, h_rb, h_rU⟩ := hI
  exact h_rU
theorem ci_clear_0 {n : Nat} (hn : n < 512) {Bf Wf Yf Cf F MB MU MH MR MW MY : Nat → Int32} {bm rp hf pl bg lo fp fb dm da cm z m Mft Msz Mal Mbs Mpl Mbg Mlo Mhs Mhf Mhp Mrs Mrf Mto Mtb Mfr Mln Mhb : Int32} (hI : (zInv n Bf Wf Yf Cf F MB MU MH MR MW MY bm rp hf pl bg lo fp fb dm da cm z m Mft Msz Mal Mbs Mpl Mbg Mlo Mhs Mhf Mhp Mrs Mrf Mto Mtb Mfr Mln Mhb)) {a1 : Int32} (hx : x_X5_clear a1 = none) {Mftq1 : Int32} {Mszq1 : Int32} {Malq1 : Int32} {Mplq1 : Int32} {Mbgq1 : Int32} {Mloq1 : Int32} {Mhsq1 : Int32} {Mhfq1 : Int32} {Mrsq1 : Int32} {Mrfq1 : Int32} {Mtoq1 : Int32} {Mtbq1 : Int32} (hT1 : (f_X6_clear Msz Mal Mpl Mbg Mlo Mhs Mhf Mrs Mrf Mto Mtb a1) = (Mftq1, Mszq1, Malq1, Mplq1, Mbgq1, Mloq1, Mhsq1, Mhfq1, Mrsq1, Mrfq1, Mtoq1, Mtbq1)) : zInv (n + 1) Bf Wf Yf Cf F MB MU MH MR MW MY bm rp hf ((f_X5_clear pl bg lo dm da z m a1).1) ((f_X5_clear pl bg lo dm da z m a1).2.1) ((f_X5_clear pl bg lo dm da z m a1).2.2.1) fp fb ((f_X5_clear pl bg lo dm da z m a1).2.2.2.1) ((f_X5_clear pl bg lo dm da z m a1).2.2.2.2.1) cm ((f_X5_clear pl bg lo dm da z m a1).2.2.2.2.2.1) ((f_X5_clear pl bg lo dm da z m a1).2.2.2.2.2.2) Mftq1 Mszq1 Malq1 Mbs Mplq1 Mbgq1 Mloq1 Mhsq1 Mhfq1 Mhp Mrsq1 Mrfq1 Mtoq1 Mtbq1 Mfr Mln Mhb := by
  obtain ⟨h_b, h_m, h_c, h_z, h_l, h_d, h_Z, h_A, h_B, h_Y, h_P, h_T, h_H, h_R, h_rb, h_rU⟩ := hI
  exact ⟨h_b, (sc_clear hx h_m).2.2.2, h_c, (sc_clear hx h_m).2.2.1, (sc_clear hx h_m).1, (zdok_eq (sc_clear hx h_m).2.1 (zdok_le (j := 8196 * (512 - (n + 1))) h_d (by omega))), (sm_clear h_Z h_A h_P (zdok_le (j := 10020 * (512 - (n + 1))) h_T (by omega)) h_H h_R hT1).1, (sm_clear h_Z h_A h_P (zdok_le (j := 10020 * (512 - (n + 1))) h_T (by omega)) h_H h_R hT1).2.1, h_B, h_Y, (sm_clear h_Z h_A h_P (zdok_le (j := 10020 * (512 - (n + 1))) h_T (by omega)) h_H h_R hT1).2.2.1, (sm_clear h_Z h_A h_P (zdok_le (j := 10020 * (512 - (n + 1))) h_T (by omega)) h_H h_R hT1).2.2.2.1, (sm_clear h_Z h_A h_P (zdok_le (j := 10020 * (512 - (n + 1))) h_T (by omega)) h_H h_R hT1).2.2.2.2.1, (sm_clear h_Z h_A h_P (zdok_le (j := 10020 * (512 - (n + 1))) h_T (by omega)) h_H h_R hT1).2.2.2.2.2, h_rb, h_rU⟩
theorem ci_clear_1 {n : Nat} (hn : n < 512) {Bf Wf Yf Cf F MB MU MH MR MW MY : Nat → Int32} {bm rp hf pl bg lo fp fb dm da cm z m Mft Msz Mal Mbs Mpl Mbg Mlo Mhs Mhf Mhp Mrs Mrf Mto Mtb Mfr Mln Mhb : Int32} (hI : (zInv n Bf Wf Yf Cf F MB MU MH MR MW MY bm rp hf pl bg lo fp fb dm da cm z m Mft Msz Mal Mbs Mpl Mbg Mlo Mhs Mhf Mhp Mrs Mrf Mto Mtb Mfr Mln Mhb)) {a1 : Int32} (hx : x_X5_clear a1 = some zIAE) {Mftq2 : Int32} {Mszq2 : Int32} {Malq2 : Int32} {Mplq2 : Int32} {Mbgq2 : Int32} {Mloq2 : Int32} {Mhsq2 : Int32} {Mhfq2 : Int32} {Mrsq2 : Int32} {Mrfq2 : Int32} {Mtoq2 : Int32} {Mtbq2 : Int32} (hT2 : (f_X6_clear Msz Mal Mpl Mbg Mlo Mhs Mhf Mrs Mrf Mto Mtb a1) = (Mftq2, Mszq2, Malq2, Mplq2, Mbgq2, Mloq2, Mhsq2, Mhfq2, Mrsq2, Mrfq2, Mtoq2, Mtbq2)) : zInv (n + 1) Bf Wf Yf Cf F MB MU MH MR MW MY bm rp hf pl bg lo fp fb dm da cm z m Mftq2 Mszq2 Malq2 Mbs Mplq2 Mbgq2 Mloq2 Mhsq2 Mhfq2 Mhp Mrsq2 Mrfq2 Mtoq2 Mtbq2 Mfr Mln Mhb := by
  obtain ⟨h_b, h_m, h_c, h_z, h_l, h_d, h_Z, h_A, h_B, h_Y, h_P, h_T, h_H, h_R, h_rb, h_rU⟩ := hI
  exact ⟨h_b, h_m, h_c, h_z, h_l, (zdok_le (j := 8196 * (512 - (n + 1))) h_d (by omega)), (sm_clear h_Z h_A h_P (zdok_le (j := 10020 * (512 - (n + 1))) h_T (by omega)) h_H h_R hT2).1, (sm_clear h_Z h_A h_P (zdok_le (j := 10020 * (512 - (n + 1))) h_T (by omega)) h_H h_R hT2).2.1, h_B, h_Y, (sm_clear h_Z h_A h_P (zdok_le (j := 10020 * (512 - (n + 1))) h_T (by omega)) h_H h_R hT2).2.2.1, (sm_clear h_Z h_A h_P (zdok_le (j := 10020 * (512 - (n + 1))) h_T (by omega)) h_H h_R hT2).2.2.2.1, (sm_clear h_Z h_A h_P (zdok_le (j := 10020 * (512 - (n + 1))) h_T (by omega)) h_H h_R hT2).2.2.2.2.1, (sm_clear h_Z h_A h_P (zdok_le (j := 10020 * (512 - (n + 1))) h_T (by omega)) h_H h_R hT2).2.2.2.2.2, h_rb, h_rU⟩
theorem ci_feed_0 {n : Nat} (hn : n < 512) {Bf Wf Yf Cf F MB MU MH MR MW MY : Nat → Int32} {bm rp hf pl bg lo fp fb dm da cm z m Mft Msz Mal Mbs Mpl Mbg Mlo Mhs Mhf Mhp Mrs Mrf Mto Mtb Mfr Mln Mhb : Int32} (hI : (zInv n Bf Wf Yf Cf F MB MU MH MR MW MY bm rp hf pl bg lo fp fb dm da cm z m Mft Msz Mal Mbs Mpl Mbg Mlo Mhs Mhf Mhp Mrs Mrf Mto Mtb Mfr Mln Mhb)) {a1 a2 a3 a4 a5 : Int32} (hx : x_X5_feed bm a1 = none) {rq1 : Int32} {MUq1 : Nat → Int32} {Mftq1 : Int32} {Mbsq1 : Int32} (hT1 : (f_X6_feed MU Mbs a1 a2 a3 a4 a5) = (rq1, MUq1, Mftq1, Mbsq1)) : zInv (n + 1) ((f_X5_feed Bf bm a1 a2 a3 a4 a5).2.1) Wf Yf Cf F MB MUq1 MH MR MW MY ((f_X5_feed Bf bm a1 a2 a3 a4 a5).2.2) rp hf pl bg lo fp fb dm da cm z m Mftq1 Msz Mal Mbsq1 Mpl Mbg Mlo Mhs Mhf Mhp Mrs Mrf Mto Mtb Mfr Mln Mhb := by
  obtain ⟨h_b, h_m, h_c, h_z, h_l, h_d, h_Z, h_A, h_B, h_Y, h_P, h_T, h_H, h_R, h_rb, h_rU⟩ := hI
  exact ⟨(sc_feed h_b), h_m, h_c, h_z, h_l, (zdok_le (j := 8196 * (512 - (n + 1))) h_d (by omega)), h_Z, h_A, (sm_feed h_B hT1), h_Y, h_P, (zdok_le (j := 10020 * (512 - (n + 1))) h_T (by omega)), h_H, h_R, (rb_feed_0 h_b h_B h_rb hx hT1), (rU_feed_0 h_b h_rb h_rU hx hT1)⟩
theorem ci_feed_1 {n : Nat} (hn : n < 512) {Bf Wf Yf Cf F MB MU MH MR MW MY : Nat → Int32} {bm rp hf pl bg lo fp fb dm da cm z m Mft Msz Mal Mbs Mpl Mbg Mlo Mhs Mhf Mhp Mrs Mrf Mto Mtb Mfr Mln Mhb : Int32} (hI : (zInv n Bf Wf Yf Cf F MB MU MH MR MW MY bm rp hf pl bg lo fp fb dm da cm z m Mft Msz Mal Mbs Mpl Mbg Mlo Mhs Mhf Mhp Mrs Mrf Mto Mtb Mfr Mln Mhb)) {a1 a2 a3 a4 a5 : Int32} (hx : x_X5_feed bm a1 = some zIAE) {rq2 : Int32} {MUq2 : Nat → Int32} {Mftq2 : Int32} {Mbsq2 : Int32} (hT2 : (f_X6_feed MU Mbs a1 a2 a3 a4 a5) = (rq2, MUq2, Mftq2, Mbsq2)) : zInv (n + 1) Bf Wf Yf Cf F MB MUq2 MH MR MW MY bm rp hf pl bg lo fp fb dm da cm z m Mftq2 Msz Mal Mbsq2 Mpl Mbg Mlo Mhs Mhf Mhp Mrs Mrf Mto Mtb Mfr Mln Mhb := by
  obtain ⟨h_b, h_m, h_c, h_z, h_l, h_d, h_Z, h_A, h_B, h_Y, h_P, h_T, h_H, h_R, h_rb, h_rU⟩ := hI
  exact ⟨h_b, h_m, h_c, h_z, h_l, (zdok_le (j := 8196 * (512 - (n + 1))) h_d (by omega)), h_Z, h_A, (sm_feed h_B hT2), h_Y, h_P, (zdok_le (j := 10020 * (512 - (n + 1))) h_T (by omega)), h_H, h_R, (rb_feed_1 h_b h_B h_rb hx hT2), (rU_feed_1 h_b h_rb h_rU hx hT2)⟩
theorem ci_feed_2 {n : Nat} (hn : n < 512) {Bf Wf Yf Cf F MB MU MH MR MW MY : Nat → Int32} {bm rp hf pl bg lo fp fb dm da cm z m Mft Msz Mal Mbs Mpl Mbg Mlo Mhs Mhf Mhp Mrs Mrf Mto Mtb Mfr Mln Mhb : Int32} (hI : (zInv n Bf Wf Yf Cf F MB MU MH MR MW MY bm rp hf pl bg lo fp fb dm da cm z m Mft Msz Mal Mbs Mpl Mbg Mlo Mhs Mhf Mhp Mrs Mrf Mto Mtb Mfr Mln Mhb)) {a1 a2 a3 a4 a5 : Int32} (hx : x_X5_feed bm a1 = some zISE) {rq3 : Int32} {MUq3 : Nat → Int32} {Mftq3 : Int32} {Mbsq3 : Int32} (hT3 : (f_X6_feed MU Mbs a1 a2 a3 a4 a5) = (rq3, MUq3, Mftq3, Mbsq3)) : zInv (n + 1) Bf Wf Yf Cf F MB MUq3 MH MR MW MY bm rp hf pl bg lo fp fb dm da cm z m Mftq3 Msz Mal Mbsq3 Mpl Mbg Mlo Mhs Mhf Mhp Mrs Mrf Mto Mtb Mfr Mln Mhb := by
  obtain ⟨h_b, h_m, h_c, h_z, h_l, h_d, h_Z, h_A, h_B, h_Y, h_P, h_T, h_H, h_R, h_rb, h_rU⟩ := hI
  exact ⟨h_b, h_m, h_c, h_z, h_l, (zdok_le (j := 8196 * (512 - (n + 1))) h_d (by omega)), h_Z, h_A, (sm_feed h_B hT3), h_Y, h_P, (zdok_le (j := 10020 * (512 - (n + 1))) h_T (by omega)), h_H, h_R, (rb_feed_2 h_b h_B h_rb hx hT3), (rU_feed_2 h_b h_rb h_rU hx hT3)⟩
theorem ci_erase {n : Nat} (hn : n < 512) {Bf Wf Yf Cf F MB MU MH MR MW MY : Nat → Int32} {bm rp hf pl bg lo fp fb dm da cm z m Mft Msz Mal Mbs Mpl Mbg Mlo Mhs Mhf Mhp Mrs Mrf Mto Mtb Mfr Mln Mhb : Int32} (hI : (zInv n Bf Wf Yf Cf F MB MU MH MR MW MY bm rp hf pl bg lo fp fb dm da cm z m Mft Msz Mal Mbs Mpl Mbg Mlo Mhs Mhf Mhp Mrs Mrf Mto Mtb Mfr Mln Mhb)) {rq1 : Int32} {bmq1 : Int32} (hT1 : (f_X5_erase bm) = (rq1, bmq1)) : zInv (n + 1) Bf Wf Yf Cf F MB MU MH MR MW MY bmq1 rp hf pl bg lo fp fb dm da cm z m 0 Msz Mal 0 Mpl Mbg Mlo Mhs Mhf Mhp Mrs Mrf Mto Mtb Mfr Mln Mhb := by
  obtain ⟨h_b, h_m, h_c, h_z, h_l, h_d, h_Z, h_A, h_B, h_Y, h_P, h_T, h_H, h_R, h_rb, h_rU⟩ := hI
  exact ⟨(sc_erase h_b hT1), h_m, h_c, h_z, h_l, (zdok_le (j := 8196 * (512 - (n + 1))) h_d (by omega)), h_Z, h_A, ⟨by decide, by decide, by decide⟩, h_Y, h_P, (zdok_le (j := 10020 * (512 - (n + 1))) h_T (by omega)), h_H, h_R, (rb_erase h_b h_B h_rb hT1), (rU_erase h_b h_rb h_rU hT1)⟩
theorem ci_check_0 {n : Nat} (hn : n < 512) {Bf Wf Yf Cf F MB MU MH MR MW MY : Nat → Int32} {bm rp hf pl bg lo fp fb dm da cm z m Mft Msz Mal Mbs Mpl Mbg Mlo Mhs Mhf Mhp Mrs Mrf Mto Mtb Mfr Mln Mhb : Int32} (hI : (zInv n Bf Wf Yf Cf F MB MU MH MR MW MY bm rp hf pl bg lo fp fb dm da cm z m Mft Msz Mal Mbs Mpl Mbg Mlo Mhs Mhf Mhp Mrs Mrf Mto Mtb Mfr Mln Mhb)) {a1 : Int32} (hx : x_X5_check a1 = none) {rq1 : Int32} {Mftq1 : Int32} (hT1 : (f_X6_check MU Mbs a1) = (rq1, Mftq1)) : zInv (n + 1) Bf Wf Yf Cf F MB MU MH MR MW MY bm rp hf pl bg lo fp fb dm da cm z m Mftq1 Msz Mal Mbs Mpl Mbg Mlo Mhs Mhf Mhp Mrs Mrf Mto Mtb Mfr Mln Mhb := by
  obtain ⟨h_b, h_m, h_c, h_z, h_l, h_d, h_Z, h_A, h_B, h_Y, h_P, h_T, h_H, h_R, h_rb, h_rU⟩ := hI
  exact ⟨h_b, h_m, h_c, h_z, h_l, (zdok_le (j := 8196 * (512 - (n + 1))) h_d (by omega)), h_Z, h_A, h_B, h_Y, h_P, (zdok_le (j := 10020 * (512 - (n + 1))) h_T (by omega)), h_H, h_R, h_rb, h_rU⟩
theorem ci_check_1 {n : Nat} (hn : n < 512) {Bf Wf Yf Cf F MB MU MH MR MW MY : Nat → Int32} {bm rp hf pl bg lo fp fb dm da cm z m Mft Msz Mal Mbs Mpl Mbg Mlo Mhs Mhf Mhp Mrs Mrf Mto Mtb Mfr Mln Mhb : Int32} (hI : (zInv n Bf Wf Yf Cf F MB MU MH MR MW MY bm rp hf pl bg lo fp fb dm da cm z m Mft Msz Mal Mbs Mpl Mbg Mlo Mhs Mhf Mhp Mrs Mrf Mto Mtb Mfr Mln Mhb)) {a1 : Int32} (hx : x_X5_check a1 = some zIAE) {rq6 : Int32} {Mftq6 : Int32} (hT6 : (f_X6_check MU Mbs a1) = (rq6, Mftq6)) : zInv (n + 1) Bf Wf Yf Cf F MB MU MH MR MW MY bm rp hf pl bg lo fp fb dm da cm z m Mftq6 Msz Mal Mbs Mpl Mbg Mlo Mhs Mhf Mhp Mrs Mrf Mto Mtb Mfr Mln Mhb := by
  obtain ⟨h_b, h_m, h_c, h_z, h_l, h_d, h_Z, h_A, h_B, h_Y, h_P, h_T, h_H, h_R, h_rb, h_rU⟩ := hI
  exact ⟨h_b, h_m, h_c, h_z, h_l, (zdok_le (j := 8196 * (512 - (n + 1))) h_d (by omega)), h_Z, h_A, h_B, h_Y, h_P, (zdok_le (j := 10020 * (512 - (n + 1))) h_T (by omega)), h_H, h_R, h_rb, h_rU⟩
theorem ci_append {n : Nat} (hn : n < 512) {Bf Wf Yf Cf F MB MU MH MR MW MY : Nat → Int32} {bm rp hf pl bg lo fp fb dm da cm z m Mft Msz Mal Mbs Mpl Mbg Mlo Mhs Mhf Mhp Mrs Mrf Mto Mtb Mfr Mln Mhb : Int32} (hI : (zInv n Bf Wf Yf Cf F MB MU MH MR MW MY bm rp hf pl bg lo fp fb dm da cm z m Mft Msz Mal Mbs Mpl Mbg Mlo Mhs Mhf Mhp Mrs Mrf Mto Mtb Mfr Mln Mhb)) {rq1 : Int32} {Fq1 : Nat → Int32} {mq1 : Int32} (hT1 : (f_X5_append Bf F bm z m) = (rq1, Fq1, mq1)) {rq2 : Int32} {MBq2 : Nat → Int32} {Mftq2 : Int32} {Malq2 : Int32} {Mhbq2 : Int32} (hT2 : (f_X6_append MB MU Msz Mal Mbs Mhb) = (rq2, MBq2, Mftq2, Malq2, Mhbq2)) : zInv (n + 1) Bf Wf Yf Cf Fq1 MBq2 MU MH MR MW MY bm rp hf pl bg lo fp fb dm da cm z mq1 Mftq2 Msz Malq2 Mbs Mpl Mbg Mlo Mhs Mhf Mhp Mrs Mrf Mto Mtb Mfr Mln Mhbq2 := by
  obtain ⟨h_b, h_m, h_c, h_z, h_l, h_d, h_Z, h_A, h_B, h_Y, h_P, h_T, h_H, h_R, h_rb, h_rU⟩ := hI
  exact ⟨h_b, (sc_append h_z h_m h_b hT1), h_c, h_z, h_l, (zdok_le (j := 8196 * (512 - (n + 1))) h_d (by omega)), h_Z, (sm_append h_Z h_A h_B h_Y hT2).2, h_B, (sm_append h_Z h_A h_B h_Y hT2).1, h_P, (zdok_le (j := 10020 * (512 - (n + 1))) h_T (by omega)), h_H, h_R, h_rb, h_rU⟩
theorem ci_raw_0 {n : Nat} (hn : n < 512) {Bf Wf Yf Cf F MB MU MH MR MW MY : Nat → Int32} {bm rp hf pl bg lo fp fb dm da cm z m Mft Msz Mal Mbs Mpl Mbg Mlo Mhs Mhf Mhp Mrs Mrf Mto Mtb Mfr Mln Mhb : Int32} (hI : (zInv n Bf Wf Yf Cf F MB MU MH MR MW MY bm rp hf pl bg lo fp fb dm da cm z m Mft Msz Mal Mbs Mpl Mbg Mlo Mhs Mhf Mhp Mrs Mrf Mto Mtb Mfr Mln Mhb)) {a1 : Int32} (hx : x_X5_raw a1 = none) {rq1 : Int32} {MBq1 : Nat → Int32} {Mftq1 : Int32} {Malq1 : Int32} (hT1 : (f_X6_raw MB MU Mal Mbs a1) = (rq1, MBq1, Mftq1, Malq1)) : zInv (n + 1) Bf Wf Yf Cf ((f_X5_raw Bf F bm m a1).2.1) MBq1 MU MH MR MW MY bm rp hf pl bg lo fp fb dm da cm z ((f_X5_raw Bf F bm m a1).2.2) Mftq1 Msz Malq1 Mbs Mpl Mbg Mlo Mhs Mhf Mhp Mrs Mrf Mto Mtb Mfr Mln Mhb := by
  obtain ⟨h_b, h_m, h_c, h_z, h_l, h_d, h_Z, h_A, h_B, h_Y, h_P, h_T, h_H, h_R, h_rb, h_rU⟩ := hI
  exact ⟨h_b, (sc_raw h_m h_b), h_c, h_z, h_l, (zdok_le (j := 8196 * (512 - (n + 1))) h_d (by omega)), h_Z, (sm_raw h_A h_B h_Y hT1).2, h_B, (sm_raw h_A h_B h_Y hT1).1, h_P, (zdok_le (j := 10020 * (512 - (n + 1))) h_T (by omega)), h_H, h_R, h_rb, h_rU⟩
theorem ci_raw_1 {n : Nat} (hn : n < 512) {Bf Wf Yf Cf F MB MU MH MR MW MY : Nat → Int32} {bm rp hf pl bg lo fp fb dm da cm z m Mft Msz Mal Mbs Mpl Mbg Mlo Mhs Mhf Mhp Mrs Mrf Mto Mtb Mfr Mln Mhb : Int32} (hI : (zInv n Bf Wf Yf Cf F MB MU MH MR MW MY bm rp hf pl bg lo fp fb dm da cm z m Mft Msz Mal Mbs Mpl Mbg Mlo Mhs Mhf Mhp Mrs Mrf Mto Mtb Mfr Mln Mhb)) {a1 : Int32} (hx : x_X5_raw a1 = some zIAE) {rq2 : Int32} {MBq2 : Nat → Int32} {Mftq2 : Int32} {Malq2 : Int32} (hT2 : (f_X6_raw MB MU Mal Mbs a1) = (rq2, MBq2, Mftq2, Malq2)) : zInv (n + 1) Bf Wf Yf Cf F MBq2 MU MH MR MW MY bm rp hf pl bg lo fp fb dm da cm z m Mftq2 Msz Malq2 Mbs Mpl Mbg Mlo Mhs Mhf Mhp Mrs Mrf Mto Mtb Mfr Mln Mhb := by
  obtain ⟨h_b, h_m, h_c, h_z, h_l, h_d, h_Z, h_A, h_B, h_Y, h_P, h_T, h_H, h_R, h_rb, h_rU⟩ := hI
  exact ⟨h_b, h_m, h_c, h_z, h_l, (zdok_le (j := 8196 * (512 - (n + 1))) h_d (by omega)), h_Z, (sm_raw h_A h_B h_Y hT2).2, h_B, (sm_raw h_A h_B h_Y hT2).1, h_P, (zdok_le (j := 10020 * (512 - (n + 1))) h_T (by omega)), h_H, h_R, h_rb, h_rU⟩
theorem ci_put_0 {n : Nat} (hn : n < 512) {Bf Wf Yf Cf F MB MU MH MR MW MY : Nat → Int32} {bm rp hf pl bg lo fp fb dm da cm z m Mft Msz Mal Mbs Mpl Mbg Mlo Mhs Mhf Mhp Mrs Mrf Mto Mtb Mfr Mln Mhb : Int32} (hI : (zInv n Bf Wf Yf Cf F MB MU MH MR MW MY bm rp hf pl bg lo fp fb dm da cm z m Mft Msz Mal Mbs Mpl Mbg Mlo Mhs Mhf Mhp Mrs Mrf Mto Mtb Mfr Mln Mhb)) {a1 a2 : Int32} (hx : x_X5_put m a1 a2 = none) {rq1 : Int32} {MBq1 : Nat → Int32} {Mftq1 : Int32} (hT1 : (f_X6_put_ MB Mal a1 a2) = (rq1, MBq1, Mftq1)) : zInv (n + 1) Bf Wf Yf Cf ((f_X5_put F m a1 a2).2) MBq1 MU MH MR MW MY bm rp hf pl bg lo fp fb dm da cm z m Mftq1 Msz Mal Mbs Mpl Mbg Mlo Mhs Mhf Mhp Mrs Mrf Mto Mtb Mfr Mln Mhb := by
  obtain ⟨h_b, h_m, h_c, h_z, h_l, h_d, h_Z, h_A, h_B, h_Y, h_P, h_T, h_H, h_R, h_rb, h_rU⟩ := hI
  exact ⟨h_b, h_m, h_c, h_z, h_l, (zdok_le (j := 8196 * (512 - (n + 1))) h_d (by omega)), h_Z, h_A, h_B, (sm_put h_Y hT1), h_P, (zdok_le (j := 10020 * (512 - (n + 1))) h_T (by omega)), h_H, h_R, h_rb, h_rU⟩
theorem ci_put_1 {n : Nat} (hn : n < 512) {Bf Wf Yf Cf F MB MU MH MR MW MY : Nat → Int32} {bm rp hf pl bg lo fp fb dm da cm z m Mft Msz Mal Mbs Mpl Mbg Mlo Mhs Mhf Mhp Mrs Mrf Mto Mtb Mfr Mln Mhb : Int32} (hI : (zInv n Bf Wf Yf Cf F MB MU MH MR MW MY bm rp hf pl bg lo fp fb dm da cm z m Mft Msz Mal Mbs Mpl Mbg Mlo Mhs Mhf Mhp Mrs Mrf Mto Mtb Mfr Mln Mhb)) {a1 a2 : Int32} (hx : x_X5_put m a1 a2 = some zIOE) {rq2 : Int32} {MBq2 : Nat → Int32} {Mftq2 : Int32} (hT2 : (f_X6_put_ MB Mal a1 a2) = (rq2, MBq2, Mftq2)) : zInv (n + 1) Bf Wf Yf Cf F MBq2 MU MH MR MW MY bm rp hf pl bg lo fp fb dm da cm z m Mftq2 Msz Mal Mbs Mpl Mbg Mlo Mhs Mhf Mhp Mrs Mrf Mto Mtb Mfr Mln Mhb := by
  obtain ⟨h_b, h_m, h_c, h_z, h_l, h_d, h_Z, h_A, h_B, h_Y, h_P, h_T, h_H, h_R, h_rb, h_rU⟩ := hI
  exact ⟨h_b, h_m, h_c, h_z, h_l, (zdok_le (j := 8196 * (512 - (n + 1))) h_d (by omega)), h_Z, h_A, h_B, (sm_put h_Y hT2), h_P, (zdok_le (j := 10020 * (512 - (n + 1))) h_T (by omega)), h_H, h_R, h_rb, h_rU⟩
theorem ci_put_2 {n : Nat} (hn : n < 512) {Bf Wf Yf Cf F MB MU MH MR MW MY : Nat → Int32} {bm rp hf pl bg lo fp fb dm da cm z m Mft Msz Mal Mbs Mpl Mbg Mlo Mhs Mhf Mhp Mrs Mrf Mto Mtb Mfr Mln Mhb : Int32} (hI : (zInv n Bf Wf Yf Cf F MB MU MH MR MW MY bm rp hf pl bg lo fp fb dm da cm z m Mft Msz Mal Mbs Mpl Mbg Mlo Mhs Mhf Mhp Mrs Mrf Mto Mtb Mfr Mln Mhb)) {a1 a2 : Int32} (hx : x_X5_put m a1 a2 = some zIAE) {rq3 : Int32} {MBq3 : Nat → Int32} {Mftq3 : Int32} (hT3 : (f_X6_put_ MB Mal a1 a2) = (rq3, MBq3, Mftq3)) : zInv (n + 1) Bf Wf Yf Cf F MBq3 MU MH MR MW MY bm rp hf pl bg lo fp fb dm da cm z m Mftq3 Msz Mal Mbs Mpl Mbg Mlo Mhs Mhf Mhp Mrs Mrf Mto Mtb Mfr Mln Mhb := by
  obtain ⟨h_b, h_m, h_c, h_z, h_l, h_d, h_Z, h_A, h_B, h_Y, h_P, h_T, h_H, h_R, h_rb, h_rU⟩ := hI
  exact ⟨h_b, h_m, h_c, h_z, h_l, (zdok_le (j := 8196 * (512 - (n + 1))) h_d (by omega)), h_Z, h_A, h_B, (sm_put h_Y hT3), h_P, (zdok_le (j := 10020 * (512 - (n + 1))) h_T (by omega)), h_H, h_R, h_rb, h_rU⟩
theorem ci_cut_0 {n : Nat} (hn : n < 512) {Bf Wf Yf Cf F MB MU MH MR MW MY : Nat → Int32} {bm rp hf pl bg lo fp fb dm da cm z m Mft Msz Mal Mbs Mpl Mbg Mlo Mhs Mhf Mhp Mrs Mrf Mto Mtb Mfr Mln Mhb : Int32} (hI : (zInv n Bf Wf Yf Cf F MB MU MH MR MW MY bm rp hf pl bg lo fp fb dm da cm z m Mft Msz Mal Mbs Mpl Mbg Mlo Mhs Mhf Mhp Mrs Mrf Mto Mtb Mfr Mln Mhb)) {a1 : Int32} (hx : x_X5_cut m a1 = none) {rq1 : Int32} {Mftq1 : Int32} {Malq1 : Int32} {Mplq1 : Int32} {Mbgq1 : Int32} {Mloq1 : Int32} {Mhsq1 : Int32} {Mhfq1 : Int32} {Mrsq1 : Int32} {Mrfq1 : Int32} {Mtoq1 : Int32} {Mtbq1 : Int32} (hT1 : (f_X6_cut Msz Mal Mpl Mbg Mlo Mhs Mhf Mrs Mrf Mto Mtb a1) = (rq1, Mftq1, Malq1, Mplq1, Mbgq1, Mloq1, Mhsq1, Mhfq1, Mrsq1, Mrfq1, Mtoq1, Mtbq1)) : zInv (n + 1) Bf Wf Yf Cf F MB MU MH MR MW MY bm rp hf ((f_X5_cut pl bg lo dm da z m a1).2.1) ((f_X5_cut pl bg lo dm da z m a1).2.2.1) ((f_X5_cut pl bg lo dm da z m a1).2.2.2.1) fp fb ((f_X5_cut pl bg lo dm da z m a1).2.2.2.2.1) ((f_X5_cut pl bg lo dm da z m a1).2.2.2.2.2.1) cm z ((f_X5_cut pl bg lo dm da z m a1).2.2.2.2.2.2) Mftq1 Msz Malq1 Mbs Mplq1 Mbgq1 Mloq1 Mhsq1 Mhfq1 Mhp Mrsq1 Mrfq1 Mtoq1 Mtbq1 Mfr Mln Mhb := by
  obtain ⟨h_b, h_m, h_c, h_z, h_l, h_d, h_Z, h_A, h_B, h_Y, h_P, h_T, h_H, h_R, h_rb, h_rU⟩ := hI
  exact ⟨h_b, (sc_cut hx h_m).2.2, h_c, h_z, (sc_cut hx h_m).1, (zdok_eq (sc_cut hx h_m).2.1 (zdok_le (j := 8196 * (512 - (n + 1))) h_d (by omega))), h_Z, (sm_cut h_Z h_A h_P (zdok_le (j := 10020 * (512 - (n + 1))) h_T (by omega)) h_H h_R hT1).1, h_B, h_Y, (sm_cut h_Z h_A h_P (zdok_le (j := 10020 * (512 - (n + 1))) h_T (by omega)) h_H h_R hT1).2.1, (sm_cut h_Z h_A h_P (zdok_le (j := 10020 * (512 - (n + 1))) h_T (by omega)) h_H h_R hT1).2.2.1, (sm_cut h_Z h_A h_P (zdok_le (j := 10020 * (512 - (n + 1))) h_T (by omega)) h_H h_R hT1).2.2.2.1, (sm_cut h_Z h_A h_P (zdok_le (j := 10020 * (512 - (n + 1))) h_T (by omega)) h_H h_R hT1).2.2.2.2, h_rb, h_rU⟩
theorem ci_cut_1 {n : Nat} (hn : n < 512) {Bf Wf Yf Cf F MB MU MH MR MW MY : Nat → Int32} {bm rp hf pl bg lo fp fb dm da cm z m Mft Msz Mal Mbs Mpl Mbg Mlo Mhs Mhf Mhp Mrs Mrf Mto Mtb Mfr Mln Mhb : Int32} (hI : (zInv n Bf Wf Yf Cf F MB MU MH MR MW MY bm rp hf pl bg lo fp fb dm da cm z m Mft Msz Mal Mbs Mpl Mbg Mlo Mhs Mhf Mhp Mrs Mrf Mto Mtb Mfr Mln Mhb)) {a1 : Int32} (hx : x_X5_cut m a1 = some zIAE) {rq2 : Int32} {Mftq2 : Int32} {Malq2 : Int32} {Mplq2 : Int32} {Mbgq2 : Int32} {Mloq2 : Int32} {Mhsq2 : Int32} {Mhfq2 : Int32} {Mrsq2 : Int32} {Mrfq2 : Int32} {Mtoq2 : Int32} {Mtbq2 : Int32} (hT2 : (f_X6_cut Msz Mal Mpl Mbg Mlo Mhs Mhf Mrs Mrf Mto Mtb a1) = (rq2, Mftq2, Malq2, Mplq2, Mbgq2, Mloq2, Mhsq2, Mhfq2, Mrsq2, Mrfq2, Mtoq2, Mtbq2)) : zInv (n + 1) Bf Wf Yf Cf F MB MU MH MR MW MY bm rp hf pl bg lo fp fb dm da cm z m Mftq2 Msz Malq2 Mbs Mplq2 Mbgq2 Mloq2 Mhsq2 Mhfq2 Mhp Mrsq2 Mrfq2 Mtoq2 Mtbq2 Mfr Mln Mhb := by
  obtain ⟨h_b, h_m, h_c, h_z, h_l, h_d, h_Z, h_A, h_B, h_Y, h_P, h_T, h_H, h_R, h_rb, h_rU⟩ := hI
  exact ⟨h_b, h_m, h_c, h_z, h_l, (zdok_le (j := 8196 * (512 - (n + 1))) h_d (by omega)), h_Z, (sm_cut h_Z h_A h_P (zdok_le (j := 10020 * (512 - (n + 1))) h_T (by omega)) h_H h_R hT2).1, h_B, h_Y, (sm_cut h_Z h_A h_P (zdok_le (j := 10020 * (512 - (n + 1))) h_T (by omega)) h_H h_R hT2).2.1, (sm_cut h_Z h_A h_P (zdok_le (j := 10020 * (512 - (n + 1))) h_T (by omega)) h_H h_R hT2).2.2.1, (sm_cut h_Z h_A h_P (zdok_le (j := 10020 * (512 - (n + 1))) h_T (by omega)) h_H h_R hT2).2.2.2.1, (sm_cut h_Z h_A h_P (zdok_le (j := 10020 * (512 - (n + 1))) h_T (by omega)) h_H h_R hT2).2.2.2.2, h_rb, h_rU⟩
theorem ci_begin_0 {n : Nat} (hn : n < 512) {Bf Wf Yf Cf F MB MU MH MR MW MY : Nat → Int32} {bm rp hf pl bg lo fp fb dm da cm z m Mft Msz Mal Mbs Mpl Mbg Mlo Mhs Mhf Mhp Mrs Mrf Mto Mtb Mfr Mln Mhb : Int32} (hI : (zInv n Bf Wf Yf Cf F MB MU MH MR MW MY bm rp hf pl bg lo fp fb dm da cm z m Mft Msz Mal Mbs Mpl Mbg Mlo Mhs Mhf Mhp Mrs Mrf Mto Mtb Mfr Mln Mhb)) {a1 : Int32} (hx : x_X5_begin a1 = none) {rq1 : Int32} {Mftq1 : Int32} {Mplq1 : Int32} {Mbgq1 : Int32} {Mloq1 : Int32} {Mhsq1 : Int32} {Mhfq1 : Int32} {Mrsq1 : Int32} {Mrfq1 : Int32} {Mtoq1 : Int32} {Mtbq1 : Int32} (hT1 : (f_X6_begin Msz Mpl Mbg Mlo Mhs Mhf Mrs Mrf Mto Mtb a1) = (rq1, Mftq1, Mplq1, Mbgq1, Mloq1, Mhsq1, Mhfq1, Mrsq1, Mrfq1, Mtoq1, Mtbq1)) : zInv (n + 1) Bf Wf Yf Cf F MB MU MH MR MW MY bm rp hf ((f_X5_begin pl bg lo dm da z a1).2.1) ((f_X5_begin pl bg lo dm da z a1).2.2.1) ((f_X5_begin pl bg lo dm da z a1).2.2.2.1) fp fb ((f_X5_begin pl bg lo dm da z a1).2.2.2.2.1) ((f_X5_begin pl bg lo dm da z a1).2.2.2.2.2) cm z m Mftq1 Msz Mal Mbs Mplq1 Mbgq1 Mloq1 Mhsq1 Mhfq1 Mhp Mrsq1 Mrfq1 Mtoq1 Mtbq1 Mfr Mln Mhb := by
  obtain ⟨h_b, h_m, h_c, h_z, h_l, h_d, h_Z, h_A, h_B, h_Y, h_P, h_T, h_H, h_R, h_rb, h_rU⟩ := hI
  exact ⟨h_b, h_m, h_c, h_z, (sc_begin hx).1, (zdok_eq (sc_begin hx).2 (zdok_le (j := 8196 * (512 - (n + 1))) h_d (by omega))), h_Z, h_A, h_B, h_Y, (sm_begin h_Z h_P (zdok_le (j := 10020 * (512 - (n + 1))) h_T (by omega)) h_H h_R hT1).1, (sm_begin h_Z h_P (zdok_le (j := 10020 * (512 - (n + 1))) h_T (by omega)) h_H h_R hT1).2.1, (sm_begin h_Z h_P (zdok_le (j := 10020 * (512 - (n + 1))) h_T (by omega)) h_H h_R hT1).2.2.1, (sm_begin h_Z h_P (zdok_le (j := 10020 * (512 - (n + 1))) h_T (by omega)) h_H h_R hT1).2.2.2, h_rb, h_rU⟩
theorem ci_begin_1 {n : Nat} (hn : n < 512) {Bf Wf Yf Cf F MB MU MH MR MW MY : Nat → Int32} {bm rp hf pl bg lo fp fb dm da cm z m Mft Msz Mal Mbs Mpl Mbg Mlo Mhs Mhf Mhp Mrs Mrf Mto Mtb Mfr Mln Mhb : Int32} (hI : (zInv n Bf Wf Yf Cf F MB MU MH MR MW MY bm rp hf pl bg lo fp fb dm da cm z m Mft Msz Mal Mbs Mpl Mbg Mlo Mhs Mhf Mhp Mrs Mrf Mto Mtb Mfr Mln Mhb)) {a1 : Int32} (hx : x_X5_begin a1 = some zIAE) {rq2 : Int32} {Mftq2 : Int32} {Mplq2 : Int32} {Mbgq2 : Int32} {Mloq2 : Int32} {Mhsq2 : Int32} {Mhfq2 : Int32} {Mrsq2 : Int32} {Mrfq2 : Int32} {Mtoq2 : Int32} {Mtbq2 : Int32} (hT2 : (f_X6_begin Msz Mpl Mbg Mlo Mhs Mhf Mrs Mrf Mto Mtb a1) = (rq2, Mftq2, Mplq2, Mbgq2, Mloq2, Mhsq2, Mhfq2, Mrsq2, Mrfq2, Mtoq2, Mtbq2)) : zInv (n + 1) Bf Wf Yf Cf F MB MU MH MR MW MY bm rp hf pl bg lo fp fb dm da cm z m Mftq2 Msz Mal Mbs Mplq2 Mbgq2 Mloq2 Mhsq2 Mhfq2 Mhp Mrsq2 Mrfq2 Mtoq2 Mtbq2 Mfr Mln Mhb := by
  obtain ⟨h_b, h_m, h_c, h_z, h_l, h_d, h_Z, h_A, h_B, h_Y, h_P, h_T, h_H, h_R, h_rb, h_rU⟩ := hI
  exact ⟨h_b, h_m, h_c, h_z, h_l, (zdok_le (j := 8196 * (512 - (n + 1))) h_d (by omega)), h_Z, h_A, h_B, h_Y, (sm_begin h_Z h_P (zdok_le (j := 10020 * (512 - (n + 1))) h_T (by omega)) h_H h_R hT2).1, (sm_begin h_Z h_P (zdok_le (j := 10020 * (512 - (n + 1))) h_T (by omega)) h_H h_R hT2).2.1, (sm_begin h_Z h_P (zdok_le (j := 10020 * (512 - (n + 1))) h_T (by omega)) h_H h_R hT2).2.2.1, (sm_begin h_Z h_P (zdok_le (j := 10020 * (512 - (n + 1))) h_T (by omega)) h_H h_R hT2).2.2.2, h_rb, h_rU⟩
theorem ci_read {n : Nat} (hn : n < 512) {Bf Wf Yf Cf F MB MU MH MR MW MY : Nat → Int32} {bm rp hf pl bg lo fp fb dm da cm z m Mft Msz Mal Mbs Mpl Mbg Mlo Mhs Mhf Mhp Mrs Mrf Mto Mtb Mfr Mln Mhb : Int32} (hI : (zInv n Bf Wf Yf Cf F MB MU MH MR MW MY bm rp hf pl bg lo fp fb dm da cm z m Mft Msz Mal Mbs Mpl Mbg Mlo Mhs Mhf Mhp Mrs Mrf Mto Mtb Mfr Mln Mhb)) {rq1 : Int32} {Wfq1 : Nat → Int32} {Yfq1 : Nat → Int32} {Cfq1 : Nat → Int32} {rpq1 : Int32} {hfq1 : Int32} {plq1 : Int32} {loq1 : Int32} {fpq1 : Int32} {fbq1 : Int32} {dmq1 : Int32} {daq1 : Int32} {cmq1 : Int32} (hT1 : (f_X5_read Wf Yf Cf F pl bg lo fp fb dm da cm z m) = (rq1, Wfq1, Yfq1, Cfq1, rpq1, hfq1, plq1, loq1, fpq1, fbq1, dmq1, daq1, cmq1)) {rq2 : Int32} {MHq2 : Nat → Int32} {MRq2 : Nat → Int32} {MWq2 : Nat → Int32} {MYq2 : Nat → Int32} {Mftq2 : Int32} {Mplq2 : Int32} {Mloq2 : Int32} {Mhsq2 : Int32} {Mhfq2 : Int32} {Mhpq2 : Int32} {Mrsq2 : Int32} {Mrfq2 : Int32} {Mtoq2 : Int32} {Mtbq2 : Int32} {Mfrq2 : Int32} {Mlnq2 : Int32} (hT2 : (f_X6_read MB MH MR MW MY Msz Mal Mpl Mbg Mlo Mhs Mhf Mhp Mto Mtb Mfr Mln) = (rq2, MHq2, MRq2, MWq2, MYq2, Mftq2, Mplq2, Mloq2, Mhsq2, Mhfq2, Mhpq2, Mrsq2, Mrfq2, Mtoq2, Mtbq2, Mfrq2, Mlnq2)) : zInv (n + 1) Bf Wfq1 Yfq1 Cfq1 F MB MU MHq2 MRq2 MWq2 MYq2 bm rpq1 hfq1 plq1 bg loq1 fpq1 fbq1 dmq1 daq1 cmq1 z m Mftq2 Msz Mal Mbs Mplq2 Mbg Mloq2 Mhsq2 Mhfq2 Mhpq2 Mrsq2 Mrfq2 Mtoq2 Mtbq2 Mfrq2 Mlnq2 Mhb := by
  obtain ⟨h_b, h_m, h_c, h_z, h_l, h_d, h_Z, h_A, h_B, h_Y, h_P, h_T, h_H, h_R, h_rb, h_rU⟩ := hI
  exact ⟨h_b, h_m, (sc_read h_m h_c h_l (zdok_le h_d (show 8196 * (512 - (n + 1)) + 8196 ≤ 8196 * (512 - n) by omega)) hT1).1, h_z, (sc_read h_m h_c h_l (zdok_le h_d (show 8196 * (512 - (n + 1)) + 8196 ≤ 8196 * (512 - n) by omega)) hT1).2.1, (sc_read h_m h_c h_l (zdok_le h_d (show 8196 * (512 - (n + 1)) + 8196 ≤ 8196 * (512 - n) by omega)) hT1).2.2, h_Z, h_A, h_B, h_Y, (sm_read h_Z h_A h_Y h_P (zdok_le h_T (show 10020 * (512 - (n + 1)) + 10020 ≤ 10020 * (512 - n) by omega)) h_H hT2).1, (sm_read h_Z h_A h_Y h_P (zdok_le h_T (show 10020 * (512 - (n + 1)) + 10020 ≤ 10020 * (512 - n) by omega)) h_H hT2).2.2.2, (sm_read h_Z h_A h_Y h_P (zdok_le h_T (show 10020 * (512 - (n + 1)) + 10020 ≤ 10020 * (512 - n) by omega)) h_H hT2).2.1, (sm_read h_Z h_A h_Y h_P (zdok_le h_T (show 10020 * (512 - (n + 1)) + 10020 ≤ 10020 * (512 - n) by omega)) h_H hT2).2.2.1, h_rb, h_rU⟩
theorem ci_octet {n : Nat} (hn : n < 512) {Bf Wf Yf Cf F MB MU MH MR MW MY : Nat → Int32} {bm rp hf pl bg lo fp fb dm da cm z m Mft Msz Mal Mbs Mpl Mbg Mlo Mhs Mhf Mhp Mrs Mrf Mto Mtb Mfr Mln Mhb : Int32} (hI : (zInv n Bf Wf Yf Cf F MB MU MH MR MW MY bm rp hf pl bg lo fp fb dm da cm z m Mft Msz Mal Mbs Mpl Mbg Mlo Mhs Mhf Mhp Mrs Mrf Mto Mtb Mfr Mln Mhb)) {a1 : Int32} {rq1 : Int32} (hT1 : (f_X5_octet Cf cm a1) = rq1) {rq2 : Int32} {Mftq2 : Int32} (hT2 : (f_X6_octet MR Mrs a1) = (rq2, Mftq2)) : zInv (n + 1) Bf Wf Yf Cf F MB MU MH MR MW MY bm rp hf pl bg lo fp fb dm da cm z m Mftq2 Msz Mal Mbs Mpl Mbg Mlo Mhs Mhf Mhp Mrs Mrf Mto Mtb Mfr Mln Mhb := by
  obtain ⟨h_b, h_m, h_c, h_z, h_l, h_d, h_Z, h_A, h_B, h_Y, h_P, h_T, h_H, h_R, h_rb, h_rU⟩ := hI
  exact ⟨h_b, h_m, h_c, h_z, h_l, (zdok_le (j := 8196 * (512 - (n + 1))) h_d (by omega)), h_Z, h_A, h_B, h_Y, h_P, (zdok_le (j := 10020 * (512 - (n + 1))) h_T (by omega)), h_H, h_R, h_rb, h_rU⟩
theorem ci_first {n : Nat} (hn : n < 512) {Bf Wf Yf Cf F MB MU MH MR MW MY : Nat → Int32} {bm rp hf pl bg lo fp fb dm da cm z m Mft Msz Mal Mbs Mpl Mbg Mlo Mhs Mhf Mhp Mrs Mrf Mto Mtb Mfr Mln Mhb : Int32} (hI : (zInv n Bf Wf Yf Cf F MB MU MH MR MW MY bm rp hf pl bg lo fp fb dm da cm z m Mft Msz Mal Mbs Mpl Mbg Mlo Mhs Mhf Mhp Mrs Mrf Mto Mtb Mfr Mln Mhb)) : zInv (n + 1) Bf Wf Yf Cf F MB MU MH MR MW MY bm rp hf pl bg lo fp fb dm da cm z m 0 Msz Mal Mbs Mpl Mbg Mlo Mhs Mhf Mhp Mrs Mrf Mto Mtb Mfr Mln Mhb := by
  obtain ⟨h_b, h_m, h_c, h_z, h_l, h_d, h_Z, h_A, h_B, h_Y, h_P, h_T, h_H, h_R, h_rb, h_rU⟩ := hI
  exact ⟨h_b, h_m, h_c, h_z, h_l, (zdok_le (j := 8196 * (512 - (n + 1))) h_d (by omega)), h_Z, h_A, h_B, h_Y, h_P, (zdok_le (j := 10020 * (512 - (n + 1))) h_T (by omega)), h_H, h_R, h_rb, h_rU⟩
theorem ci_count_0 {n : Nat} (hn : n < 512) {Bf Wf Yf Cf F MB MU MH MR MW MY : Nat → Int32} {bm rp hf pl bg lo fp fb dm da cm z m Mft Msz Mal Mbs Mpl Mbg Mlo Mhs Mhf Mhp Mrs Mrf Mto Mtb Mfr Mln Mhb : Int32} (hI : (zInv n Bf Wf Yf Cf F MB MU MH MR MW MY bm rp hf pl bg lo fp fb dm da cm z m Mft Msz Mal Mbs Mpl Mbg Mlo Mhs Mhf Mhp Mrs Mrf Mto Mtb Mfr Mln Mhb)) {a1 : Int32} (hx : x_X5_count a1 = none) {rq1 : Int32} {Mftq1 : Int32} (hT1 : (f_X6_count Mal Mbs Mpl Mlo Mto Mtb a1) = (rq1, Mftq1)) : zInv (n + 1) Bf Wf Yf Cf F MB MU MH MR MW MY bm rp hf pl bg lo fp fb dm da cm z m Mftq1 Msz Mal Mbs Mpl Mbg Mlo Mhs Mhf Mhp Mrs Mrf Mto Mtb Mfr Mln Mhb := by
  obtain ⟨h_b, h_m, h_c, h_z, h_l, h_d, h_Z, h_A, h_B, h_Y, h_P, h_T, h_H, h_R, h_rb, h_rU⟩ := hI
  exact ⟨h_b, h_m, h_c, h_z, h_l, (zdok_le (j := 8196 * (512 - (n + 1))) h_d (by omega)), h_Z, h_A, h_B, h_Y, h_P, (zdok_le (j := 10020 * (512 - (n + 1))) h_T (by omega)), h_H, h_R, h_rb, h_rU⟩
theorem ci_count_1 {n : Nat} (hn : n < 512) {Bf Wf Yf Cf F MB MU MH MR MW MY : Nat → Int32} {bm rp hf pl bg lo fp fb dm da cm z m Mft Msz Mal Mbs Mpl Mbg Mlo Mhs Mhf Mhp Mrs Mrf Mto Mtb Mfr Mln Mhb : Int32} (hI : (zInv n Bf Wf Yf Cf F MB MU MH MR MW MY bm rp hf pl bg lo fp fb dm da cm z m Mft Msz Mal Mbs Mpl Mbg Mlo Mhs Mhf Mhp Mrs Mrf Mto Mtb Mfr Mln Mhb)) {a1 : Int32} (hx : x_X5_count a1 = some zIAE) {rq2 : Int32} {Mftq2 : Int32} (hT2 : (f_X6_count Mal Mbs Mpl Mlo Mto Mtb a1) = (rq2, Mftq2)) : zInv (n + 1) Bf Wf Yf Cf F MB MU MH MR MW MY bm rp hf pl bg lo fp fb dm da cm z m Mftq2 Msz Mal Mbs Mpl Mbg Mlo Mhs Mhf Mhp Mrs Mrf Mto Mtb Mfr Mln Mhb := by
  obtain ⟨h_b, h_m, h_c, h_z, h_l, h_d, h_Z, h_A, h_B, h_Y, h_P, h_T, h_H, h_R, h_rb, h_rU⟩ := hI
  exact ⟨h_b, h_m, h_c, h_z, h_l, (zdok_le (j := 8196 * (512 - (n + 1))) h_d (by omega)), h_Z, h_A, h_B, h_Y, h_P, (zdok_le (j := 10020 * (512 - (n + 1))) h_T (by omega)), h_H, h_R, h_rb, h_rU⟩
theorem ci_told_0 {n : Nat} (hn : n < 512) {Bf Wf Yf Cf F MB MU MH MR MW MY : Nat → Int32} {bm rp hf pl bg lo fp fb dm da cm z m Mft Msz Mal Mbs Mpl Mbg Mlo Mhs Mhf Mhp Mrs Mrf Mto Mtb Mfr Mln Mhb : Int32} (hI : (zInv n Bf Wf Yf Cf F MB MU MH MR MW MY bm rp hf pl bg lo fp fb dm da cm z m Mft Msz Mal Mbs Mpl Mbg Mlo Mhs Mhf Mhp Mrs Mrf Mto Mtb Mfr Mln Mhb)) {a1 a2 : Int32} (hx : x_X5_told a2 = none) {rq1 : Int32} {Mftq1 : Int32} (hT1 : (f_X6_told MW MY Mto a1 a2) = (rq1, Mftq1)) : zInv (n + 1) Bf Wf Yf Cf F MB MU MH MR MW MY bm rp hf pl bg lo fp fb dm da cm z m Mftq1 Msz Mal Mbs Mpl Mbg Mlo Mhs Mhf Mhp Mrs Mrf Mto Mtb Mfr Mln Mhb := by
  obtain ⟨h_b, h_m, h_c, h_z, h_l, h_d, h_Z, h_A, h_B, h_Y, h_P, h_T, h_H, h_R, h_rb, h_rU⟩ := hI
  exact ⟨h_b, h_m, h_c, h_z, h_l, (zdok_le (j := 8196 * (512 - (n + 1))) h_d (by omega)), h_Z, h_A, h_B, h_Y, h_P, (zdok_le (j := 10020 * (512 - (n + 1))) h_T (by omega)), h_H, h_R, h_rb, h_rU⟩
theorem ci_told_1 {n : Nat} (hn : n < 512) {Bf Wf Yf Cf F MB MU MH MR MW MY : Nat → Int32} {bm rp hf pl bg lo fp fb dm da cm z m Mft Msz Mal Mbs Mpl Mbg Mlo Mhs Mhf Mhp Mrs Mrf Mto Mtb Mfr Mln Mhb : Int32} (hI : (zInv n Bf Wf Yf Cf F MB MU MH MR MW MY bm rp hf pl bg lo fp fb dm da cm z m Mft Msz Mal Mbs Mpl Mbg Mlo Mhs Mhf Mhp Mrs Mrf Mto Mtb Mfr Mln Mhb)) {a1 a2 : Int32} (hx : x_X5_told a2 = some zIAE) {rq2 : Int32} {Mftq2 : Int32} (hT2 : (f_X6_told MW MY Mto a1 a2) = (rq2, Mftq2)) : zInv (n + 1) Bf Wf Yf Cf F MB MU MH MR MW MY bm rp hf pl bg lo fp fb dm da cm z m Mftq2 Msz Mal Mbs Mpl Mbg Mlo Mhs Mhf Mhp Mrs Mrf Mto Mtb Mfr Mln Mhb := by
  obtain ⟨h_b, h_m, h_c, h_z, h_l, h_d, h_Z, h_A, h_B, h_Y, h_P, h_T, h_H, h_R, h_rb, h_rU⟩ := hI
  exact ⟨h_b, h_m, h_c, h_z, h_l, (zdok_le (j := 8196 * (512 - (n + 1))) h_d (by omega)), h_Z, h_A, h_B, h_Y, h_P, (zdok_le (j := 10020 * (512 - (n + 1))) h_T (by omega)), h_H, h_R, h_rb, h_rU⟩
theorem ci_log {n : Nat} (hn : n < 512) {Bf Wf Yf Cf F MB MU MH MR MW MY : Nat → Int32} {bm rp hf pl bg lo fp fb dm da cm z m Mft Msz Mal Mbs Mpl Mbg Mlo Mhs Mhf Mhp Mrs Mrf Mto Mtb Mfr Mln Mhb : Int32} (hI : (zInv n Bf Wf Yf Cf F MB MU MH MR MW MY bm rp hf pl bg lo fp fb dm da cm z m Mft Msz Mal Mbs Mpl Mbg Mlo Mhs Mhf Mhp Mrs Mrf Mto Mtb Mfr Mln Mhb)) {a1 : Int32} {rq1 : Int32} (hT1 : (f_X5_log F m a1) = rq1) {rq2 : Int32} {Mftq2 : Int32} (hT2 : (f_X6_log MB Mal a1) = (rq2, Mftq2)) : zInv (n + 1) Bf Wf Yf Cf F MB MU MH MR MW MY bm rp hf pl bg lo fp fb dm da cm z m Mftq2 Msz Mal Mbs Mpl Mbg Mlo Mhs Mhf Mhp Mrs Mrf Mto Mtb Mfr Mln Mhb := by
  obtain ⟨h_b, h_m, h_c, h_z, h_l, h_d, h_Z, h_A, h_B, h_Y, h_P, h_T, h_H, h_R, h_rb, h_rU⟩ := hI
  exact ⟨h_b, h_m, h_c, h_z, h_l, (zdok_le (j := 8196 * (512 - (n + 1))) h_d (by omega)), h_Z, h_A, h_B, h_Y, h_P, (zdok_le (j := 10020 * (512 - (n + 1))) h_T (by omega)), h_H, h_R, h_rb, h_rU⟩
theorem ci_default {n : Nat} (hn : n < 512) {Bf Wf Yf Cf F MB MU MH MR MW MY : Nat → Int32} {bm rp hf pl bg lo fp fb dm da cm z m Mft Msz Mal Mbs Mpl Mbg Mlo Mhs Mhf Mhp Mrs Mrf Mto Mtb Mfr Mln Mhb : Int32} (hI : (zInv n Bf Wf Yf Cf F MB MU MH MR MW MY bm rp hf pl bg lo fp fb dm da cm z m Mft Msz Mal Mbs Mpl Mbg Mlo Mhs Mhf Mhp Mrs Mrf Mto Mtb Mfr Mln Mhb)) : zInv (n + 1) Bf Wf Yf Cf F MB MU MH MR MW MY bm rp hf pl bg lo fp fb dm da cm z m Mft Msz Mal Mbs Mpl Mbg Mlo Mhs Mhf Mhp Mrs Mrf Mto Mtb Mfr Mln Mhb := by
  obtain ⟨h_b, h_m, h_c, h_z, h_l, h_d, h_Z, h_A, h_B, h_Y, h_P, h_T, h_H, h_R, h_rb, h_rU⟩ := hI
  exact ⟨h_b, h_m, h_c, h_z, h_l, (zdok_le (j := 8196 * (512 - (n + 1))) h_d (by omega)), h_Z, h_A, h_B, h_Y, h_P, (zdok_le (j := 10020 * (512 - (n + 1))) h_T (by omega)), h_H, h_R, h_rb, h_rU⟩
theorem ct_check_0 {n : Nat} {Bf Wf Yf Cf F MB MU MH MR MW MY : Nat → Int32} {bm rp hf pl bg lo fp fb dm da cm z m Mft Msz Mal Mbs Mpl Mbg Mlo Mhs Mhf Mhp Mrs Mrf Mto Mtb Mfr Mln Mhb : Int32} (hI : (zInv n Bf Wf Yf Cf F MB MU MH MR MW MY bm rp hf pl bg lo fp fb dm da cm z m Mft Msz Mal Mbs Mpl Mbg Mlo Mhs Mhf Mhp Mrs Mrf Mto Mtb Mfr Mln Mhb)) {a1 : Int32} (hx : x_X5_check a1 = none) {rq1 : Int32} {Mftq1 : Int32} (hT1 : (f_X6_check MU Mbs a1) = (rq1, Mftq1)) : Mftq1 = 0 := by
  obtain ⟨h_b, h_m, h_c, h_z, h_l, h_d, h_Z, h_A, h_B, h_Y, h_P, h_T, h_H, h_R, h_rb, h_rU⟩ := hI
  exact qt_check_0 h_rb h_rU h_b hx hT1
theorem cr_check {n : Nat} {Bf Wf Yf Cf F MB MU MH MR MW MY : Nat → Int32} {bm rp hf pl bg lo fp fb dm da cm z m Mft Msz Mal Mbs Mpl Mbg Mlo Mhs Mhf Mhp Mrs Mrf Mto Mtb Mfr Mln Mhb : Int32} (hI : (zInv n Bf Wf Yf Cf F MB MU MH MR MW MY bm rp hf pl bg lo fp fb dm da cm z m Mft Msz Mal Mbs Mpl Mbg Mlo Mhs Mhf Mhp Mrs Mrf Mto Mtb Mfr Mln Mhb)) {J : Nat → Int64} {a1 : Int32} (hx : x_X5_check a1 = none) {rq1 : Int32} {Mftq1 : Int32} (hT1 : (f_X6_check MU Mbs a1) = (rq1, Mftq1)) : (vp_updL J (0 : Int32).toNatClampNeg ((f_X5_check Bf bm a1).toInt64)) (0 : Int32).toNatClampNeg = rq1.toInt64 := by
  obtain ⟨h_b, h_m, h_c, h_z, h_l, h_d, h_Z, h_A, h_B, h_Y, h_P, h_T, h_H, h_R, h_rb, h_rU⟩ := hI
  rw [pk_uLs, qr_check h_rb h_rU h_b hx hT1]
theorem ct_check_1 {n : Nat} {Bf Wf Yf Cf F MB MU MH MR MW MY : Nat → Int32} {bm rp hf pl bg lo fp fb dm da cm z m Mft Msz Mal Mbs Mpl Mbg Mlo Mhs Mhf Mhp Mrs Mrf Mto Mtb Mfr Mln Mhb : Int32} (hI : (zInv n Bf Wf Yf Cf F MB MU MH MR MW MY bm rp hf pl bg lo fp fb dm da cm z m Mft Msz Mal Mbs Mpl Mbg Mlo Mhs Mhf Mhp Mrs Mrf Mto Mtb Mfr Mln Mhb)) {a1 : Int32} (hx : x_X5_check a1 = some zIAE) {rq6 : Int32} {Mftq6 : Int32} (hT6 : (f_X6_check MU Mbs a1) = (rq6, Mftq6)) : Mftq6 = 1 := by
  obtain ⟨h_b, h_m, h_c, h_z, h_l, h_d, h_Z, h_A, h_B, h_Y, h_P, h_T, h_H, h_R, h_rb, h_rU⟩ := hI
  exact qt_check_1 h_rb h_rU h_b hx hT6
