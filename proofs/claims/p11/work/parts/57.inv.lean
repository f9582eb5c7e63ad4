/-! what holds before each call -/
theorem qisIn0 {v lo hi : Int32} (h : ¬ (lo ≤ v ∧ v ≤ hi)) : f_X6_isIn v lo hi = 0 := by
  unfold f_X6_isIn
  split
  · rfl
  · next c1 =>
    split
    · rfl
    · next c2 =>
      exact absurd ⟨Int32.not_lt.mp c1, Int32.not_lt.mp c2⟩ h
theorem qisIn1 {v lo hi : Int32} (h1 : lo ≤ v) (h2 : v ≤ hi) : ¬ f_X6_isIn v lo hi = 0 := by
  unfold f_X6_isIn
  rw [if_neg (Int32.not_lt.mpr h1), if_neg (Int32.not_lt.mpr h2)]
  decide
theorem qx_clear0 {v : Int32} (hx : x_X5_clear v = none) : ¬ v < 16 ∧ v ≤ 512 := by
  unfold x_X5_clear at hx
  split at hx
  · exact nomatch hx
  · next c1 =>
    split at hx
    · next c2 => exact ⟨c1, c2⟩
    · exact nomatch hx
theorem qx_clear1 {v : Int32} (hx : x_X5_clear v = some zIAE) : f_X6_isIn v 16 512 = 0 := by
  unfold x_X5_clear at hx
  split at hx
  · next c => exact qisIn0 (fun q => absurd c (Int32.not_lt.mpr q.1))
  · split at hx
    · exact nomatch hx
    · next c2 => exact qisIn0 (fun q => c2 q.2)
section
variable {z al pl bg lo hs hf rs rf to tb v r ft z1 al1 pl1 bg1 lo1 hs1 hf1 rs1 rf1 to1 tb1 Z pl0 bg0 lo0 dm da m : Int32}
theorem rz_clear_0 (_ : z = Z) (hx : x_X5_clear v = none) (e : f_X6_clear Z al pl bg lo hs hf rs rf to tb v = (ft, z1, al1, pl1, bg1, lo1, hs1, hf1, rs1, rf1, to1, tb1)) : (f_X5_clear pl0 bg0 lo0 dm da z m v).2.2.2.2.2.1 = z1 := by
  obtain ⟨c1, c2⟩ := qx_clear0 hx
  have e1 : (f_X5_clear pl0 bg0 lo0 dm da z m v).2.2.2.2.2.1 = v := by
    have hs : f_X0_startAnew m v = (v, f_X3_shorten m 0) := rfl
    unfold f_X5_clear
    rw [if_neg c1, if_pos c2, hs]
  unfold f_X6_clear at e
  rw [if_neg (qisIn1 (Int32.not_lt.mp c1) c2)] at e
  generalize f_X6_beginAt v 0 = T at e
  obtain ⟨t1, t2, t3, t4, t5, t6, t7, t8, t9⟩ := T
  dsimp only at e
  cases e
  exact e1
theorem rz_clear_1 (h : z = Z) (hx : x_X5_clear v = some zIAE) (e : f_X6_clear Z al pl bg lo hs hf rs rf to tb v = (ft, z1, al1, pl1, bg1, lo1, hs1, hf1, rs1, rf1, to1, tb1)) : z = z1 := by
  unfold f_X6_clear at e
  rw [if_pos (qx_clear1 hx)] at e
  cases e
  exact h
end
theorem qx_feed0 {bm v : Int32} (hb : zok 400 bm) (hx : x_X5_feed bm v = none) : ¬ v < 0 ∧ v ≤ 16 ∧ ¬ f_X3_hasRoomFor 400 bm v = 0 ∧ (0 ≤ v.toInt ∧ v.toInt ≤ 16) ∧ bm.toInt + v.toInt ≤ 400 := by
  unfold x_X5_feed at hx
  split at hx
  · exact nomatch hx
  · next c =>
    split at hx
    · next c2 =>
      split at hx
      · exact nomatch hx
      · next c3 =>
        have hv : 0 ≤ v.toInt ∧ v.toInt ≤ 16 := by
          simp only [Int32.lt_iff_toInt_lt, Int32.le_iff_toInt_le] at c c2
          have o0 : (0 : Int32).toInt = 0 := rfl
          have o16 : (16 : Int32).toInt = 16 := rfl
          omega
        have h := zhr_room (N := 400) hb (v := v) ⟨hv.1, by omega⟩
        exact ⟨c, c2, c3, hv, Int.not_lt.mp (fun q => c3 (h.mpr q))⟩
    · exact nomatch hx
theorem qx_feed1 {bm v : Int32} (hx : x_X5_feed bm v = some zIAE) : f_X6_isIn v 0 16 = 0 := by
  unfold x_X5_feed at hx
  split at hx
  · next c => exact qisIn0 (fun q => absurd c (Int32.not_lt.mpr q.1))
  · split at hx
    · split at hx
      · exact absurd (Option.some.inj hx) (by decide)
      · exact nomatch hx
    · next c2 => exact qisIn0 (fun q => c2 q.2)
theorem qx_feed2 {bm v : Int32} (hb : zok 400 bm) (hx : x_X5_feed bm v = some zISE) : ¬ f_X6_isIn v 0 16 = 0 ∧ ¬ bm + v ≤ 400 := by
  unfold x_X5_feed at hx
  split at hx
  · exact absurd (Option.some.inj hx) (by decide)
  · next c =>
    split at hx
    · next c2 =>
      split at hx
      · next c3 =>
        have hv : 0 ≤ v.toInt ∧ v.toInt ≤ 16 := by
          simp only [Int32.lt_iff_toInt_lt, Int32.le_iff_toInt_le] at c c2
          have o0 : (0 : Int32).toInt = 0 := rfl
          have o16 : (16 : Int32).toInt = 16 := rfl
          omega
        have h := (zhr_room (N := 400) hb (v := v) ⟨hv.1, by omega⟩).mp c3
        refine ⟨qisIn1 (Int32.not_lt.mp c) c2, fun q => ?_⟩
        obtain ⟨b1, b2, b3⟩ := hb
        have o4 : (400 : Int32).toInt = 400 := rfl
        rw [Int32.le_iff_toInt_le, zadd (by omega) (by omega), o4] at q
        omega
      · exact nomatch hx
    · exact absurd (Option.some.inj hx) (by decide)
theorem q_feed0 {Bf MU U1 : Nat → Int32} {bm bs v pa pb pc pd r ft b1 : Int32} (hb : zok 400 bm) (h : bm = bs) (hx : x_X5_feed bm v = none) (e : f_X6_feed MU bs v pa pb pc pd = (r, U1, ft, b1)) : (f_X5_feed Bf bm v pa pb pc pd).1 = r ∧ (f_X5_feed Bf bm v pa pb pc pd).2.2 = b1 ∧ ft = 0 := by
  subst h
  obtain ⟨h3, h4, h5, hv, hr⟩ := qx_feed0 hb hx
  obtain ⟨g1, g2, g3⟩ := hb
  have h1 : ¬ f_X6_isIn v 0 16 = 0 := qisIn1 (Int32.not_lt.mp h3) h4
  have h2 : bm + v ≤ 400 := by
    have o4 : (400 : Int32).toInt = 400 := rfl
    rw [Int32.le_iff_toInt_le, zadd (by omega) (by omega), o4]
    omega
  have hc := zclamp hv.1
  unfold f_X6_feed at e
  rw [if_neg h1, if_pos h2] at e
  unfold f_X5_feed
  rw [if_neg h3, if_pos h4, if_neg h5]
  have e0 : v = nI v.toNatClampNeg := (znI_clamp hv.1).symm
  have em := zmf_lp (pa := pa) (pb := pb) (pc := pc) (pd := pd) (U := MU) (m := bm) v.toNatClampNeg
  generalize hT : lp_X6_feed pa pb pc pd (MU, bm) v.toNatClampNeg = T at em e
  obtain ⟨U2, n1⟩ := T
  dsimp only at e em
  cases e
  generalize hk : v.toNatClampNeg = k at *
  subst e0
  generalize hT1 : f_X5_feedFrom Bf bm pa (zMin (nI k) 4) = T1
  obtain ⟨G1, m1⟩ := T1
  dsimp only
  generalize hT2 : f_X5_feedFrom G1 m1 pb (zMin (nI k - 4) 4) = T2
  obtain ⟨G2, m2⟩ := T2
  dsimp only
  generalize hT3 : f_X5_feedFrom G2 m2 pc (zMin (nI k - 8) 4) = T3
  obtain ⟨G3, m3⟩ := T3
  dsimp only
  generalize hT4 : f_X5_feedFrom G3 m3 pd (zMin (nI k - 12) 4) = T4
  obtain ⟨G4, m4⟩ := T4
  dsimp only
  have := zfeed_m (k := k) (by omega) ⟨g1, by omega, by decide⟩ hT1 hT2 hT3 hT4
  rw [this, em]
  exact ⟨rfl, rfl, rfl⟩
section
variable {Bf MU U1 : Nat → Int32} {bm bs v pa pb pc pd r ft b1 : Int32}
theorem rb_feed_0 (hb : zok 400 bm) (_ : zok 400 bs) (h : bm = bs) (hx : x_X5_feed bm v = none) (e : f_X6_feed MU bs v pa pb pc pd = (r, U1, ft, b1)) : (f_X5_feed Bf bm v pa pb pc pd).2.2 = b1 := (q_feed0 hb h hx e).2.1
theorem rb_feed_1 (_ : zok 400 bm) (_ : zok 400 bs) (h : bm = bs) (hx : x_X5_feed bm v = some zIAE) (e : f_X6_feed MU bs v pa pb pc pd = (r, U1, ft, b1)) : bm = b1 := by
  unfold f_X6_feed at e
  rw [if_pos (qx_feed1 hx)] at e
  cases e
  exact h
theorem rb_feed_2 (hb : zok 400 bm) (_ : zok 400 bs) (h : bm = bs) (hx : x_X5_feed bm v = some zISE) (e : f_X6_feed MU bs v pa pb pc pd = (r, U1, ft, b1)) : bm = b1 := by
  subst h
  obtain ⟨c1, c2⟩ := qx_feed2 hb hx
  unfold f_X6_feed at e
  rw [if_neg c1, if_neg c2] at e
  cases e
  rfl
theorem qshort0 {N : Nat} {m : Int32} (hm : zok N m) : f_X3_shorten m 0 = 0 := by
  unfold f_X3_shorten
  rw [if_neg (by decide)]
  split
  · next c =>
    obtain ⟨h1, h2, h3⟩ := hm
    have o0 : (0 : Int32).toInt = 0 := rfl
    rw [Int32.le_iff_toInt_le, o0] at c
    exact Int32.toInt_inj.mp (by omega)
  · rfl
theorem rb_erase (hb : zok 400 bm) (_ : zok 400 bs) (_ : bm = bs) (e : f_X5_erase bm = (r, b1)) : b1 = 0 := by
  unfold f_X5_erase at e
  cases e
  exact qshort0 hb
end
theorem qpl2' (v z : Int32) : ((v - zMod v z) + z) - v = z - zMod v z := by
  rw [Int32.sub_eq_add_neg, Int32.sub_eq_add_neg, Int32.sub_eq_add_neg, Int32.add_assoc, Int32.add_assoc, Int32.add_comm (-zMod v z) (z + -v), ← Int32.add_assoc, ← Int32.add_assoc, Int32.add_comm v z, Int32.add_assoc z v, Int32.add_right_neg, Int32.add_zero]
theorem qmin_c {x y : Int32} (h : y ≤ x) : zMin x y = y := by
  unfold zMin
  split
  · rfl
  · next c => exact Int32.le_antisymm (Int32.not_lt.mp c) h
theorem qmin_x {x y : Int32} (h : ¬ y ≤ x) : zMin x y = x := by
  unfold zMin
  rw [if_neg (fun q => h (Int32.le_of_lt q))]
/-- what a piece does behind the filling -/
def qEf (F2 : Nat → Int32) (z m2 : Int32) (n : Nat) (dn pv : Int32) (F : Nat → Int32) (b tk : Int32) : Int32 × (Nat → Int32) × Int32 :=
  if (dn + tk) = m2 then
    if pv = 0 then
      match (f_X0_addFragment F F2 b m2 (f_X0_kindOf 1 1) dn tk) with
      | (r, F1, m1) => if r = 0 then (0, F1, m1) else (1, F1, m1)
    else
      match (f_X0_addFragment F F2 b m2 (f_X0_kindOf 0 1) dn tk) with
      | (r, F1, m1) => if r = 0 then (0, F1, m1) else (1, F1, m1)
  else
    if pv = 0 then
      match (f_X0_addFragment F F2 b m2 (f_X0_kindOf 1 0) dn tk) with
      | (r, F1, m1) => if r = 0 then (0, F1, m1) else lp_X0_addPieces F2 z m2 n (dn + tk) (pv + 1) F1 m1
    else
      match (f_X0_addFragment F F2 b m2 (f_X0_kindOf 0 0) dn tk) with
      | (r, F1, m1) => if r = 0 then (0, F1, m1) else lp_X0_addPieces F2 z m2 n (dn + tk) (pv + 1) F1 m1
theorem qlp_s (F2 : Nat → Int32) (z m2 : Int32) (n : Nat) (dn pv : Int32) (F : Nat → Int32) (m : Int32) : lp_X0_addPieces F2 z m2 (n + 1) dn pv F m = if 400 < pv then (0, F, m) else (if (f_X0_fillBlock F z m).1 = 0 then (0, (f_X0_fillBlock F z m).2.1, (f_X0_fillBlock F z m).2.2) else qEf F2 z m2 n dn pv (f_X0_fillBlock F z m).2.1 (f_X0_fillBlock F z m).2.2 (zMin (m2 - dn) (((((f_X0_fillBlock F z m).2.2 - (zMod (f_X0_fillBlock F z m).2.2 z)) + z) - (f_X0_fillBlock F z m).2.2) - 7))) := by
  rw [lp_X0_addPieces]
  generalize f_X0_fillBlock F z m = T
  obtain ⟨r1, F1, m1⟩ := T
  dsimp only [qEf]
theorem qaf_0 {F F2 : Nat → Int32} {b m2 q x tk : Int32} (hb : zok 4096 b) (ht : 0 ≤ tk.toInt ∧ tk.toInt ≤ 600) (h : 4096 < b.toInt + 7 + tk.toInt) : f_X0_addFragment F F2 b m2 q x tk = (0, F, b) := by
  have o7 : (7 : Int32).toInt = 7 := rfl
  have e : (7 + tk).toInt = 7 + tk.toInt := by rw [zadd] <;> rw [o7] <;> omega
  have hr : f_X3_hasRoomFor 4096 b (7 + tk) = 0 := (zhr_room hb ⟨by omega, by omega⟩).mpr (by rw [e]; omega)
  unfold f_X0_addFragment
  rw [if_pos hr]
theorem qE0 {F2 F : Nat → Int32} {z m2 dn pv b tk : Int32} {n : Nat} (hb : zok 4096 b) (ht : 0 ≤ tk.toInt ∧ tk.toInt ≤ 600) (h : 4096 < b.toInt + 7 + tk.toInt) : qEf F2 z m2 n dn pv F b tk = (0, F, b) := by
  unfold qEf
  split <;> split <;> (rw [qaf_0 hb ht h]; rfl)
theorem qroom {b tk : Int32} (hb : zok 4096 b) (ht : 0 ≤ tk.toInt ∧ tk.toInt ≤ 600) (h : ¬ 4096 < b.toInt + 7 + tk.toInt) : zroom 4096 (7 + tk.toNatClampNeg) b := by
  have := zclamp ht.1
  exact ⟨hb.1, by omega, by decide⟩
theorem qE1 {F2 F : Nat → Int32} {z m2 dn pv b tk : Int32} {n : Nat} (hb : zok 4096 b) (ht : 0 ≤ tk.toInt ∧ tk.toInt ≤ 600) (h : ¬ 4096 < b.toInt + 7 + tk.toInt) (he : dn + tk = m2) : (qEf F2 z m2 n dn pv F b tk).1 = 1 ∧ (qEf F2 z m2 n dn pv F b tk).2.2 = (b + 7) + tk := by
  unfold qEf
  rw [if_pos he]
  split
  · obtain ⟨G, e⟩ := zaf_1 (F := F) (F2 := F2) (m := b) (m2 := m2) (q := f_X0_kindOf 1 1) (x := dn) (v := tk) (qroom hb ht h) ht.1
    rw [e]
    exact ⟨rfl, rfl⟩
  · obtain ⟨G, e⟩ := zaf_1 (F := F) (F2 := F2) (m := b) (m2 := m2) (q := f_X0_kindOf 0 1) (x := dn) (v := tk) (qroom hb ht h) ht.1
    rw [e]
    exact ⟨rfl, rfl⟩
theorem qE2 {F2 F : Nat → Int32} {z m2 dn pv b tk : Int32} {n : Nat} (hb : zok 4096 b) (ht : 0 ≤ tk.toInt ∧ tk.toInt ≤ 600) (h : ¬ 4096 < b.toInt + 7 + tk.toInt) (he : ¬ dn + tk = m2) : ∃ G : Nat → Int32, qEf F2 z m2 n dn pv F b tk = lp_X0_addPieces F2 z m2 n (dn + tk) (pv + 1) G ((b + 7) + tk) := by
  unfold qEf
  rw [if_neg he]
  split
  · obtain ⟨G, e⟩ := zaf_1 (F := F) (F2 := F2) (m := b) (m2 := m2) (q := f_X0_kindOf 1 0) (x := dn) (v := tk) (qroom hb ht h) ht.1
    rw [e]
    exact ⟨G, rfl⟩
  · obtain ⟨G, e⟩ := zaf_1 (F := F) (F2 := F2) (m := b) (m2 := m2) (q := f_X0_kindOf 0 0) (x := dn) (v := tk) (qroom hb ht h) ht.1
    rw [e]
    exact ⟨G, rfl⟩
def qpv (z : Int32) (n : Nat) (pv m lf : Int32) : Prop := pv.toInt + n = 402 ∧ 0 ≤ pv.toInt ∧ ((pv.toInt = 0 ∧ lf.toInt ≤ 400) ∨ (1 ≤ pv.toInt ∧ 1 ≤ lf.toInt ∧ lf.toInt ≤ 401 - pv.toInt ∧ m.toInt % z.toInt = 0))
def qPc (A : Int32) (m : Int32) (R : Int32 × (Nat → Int32) × Int32) : Prop := (A.toInt ≤ 4096 → R.1 = 1 ∧ R.2.2 = A) ∧ (¬ A.toInt ≤ 4096 → R.1 = 0 ∧ m.toInt ≤ R.2.2.toInt)
/-- a piece, whatever the block's room -/
theorem qpiece {F2 F : Nat → Int32} {z m2 dn pv b tk m A : Int32} {n k : Nat} (hz : zsz z) (hb : zok 4096 b) (hmb : m.toInt ≤ b.toInt) (ht : 0 ≤ tk.toInt ∧ tk.toInt ≤ 600)
    (hA1 : dn + tk = m2 → A = (b + 7) + tk) (hA2 : ¬ dn + tk = m2 → A = lp_X6_appendedSize z k ((b + 7) + tk) (m2 - (dn + tk)) 1 ∧ zap z k ((b + 7) + tk) (m2 - (dn + tk)) 1)
    (ih : ¬ dn + tk = m2 → zok 4096 ((b + 7) + tk) → ∀ G : Nat → Int32, qPc (lp_X6_appendedSize z k ((b + 7) + tk) (m2 - (dn + tk)) 1) ((b + 7) + tk) (lp_X0_addPieces F2 z m2 n (dn + tk) (pv + 1) G ((b + 7) + tk))) :
    qPc A m (qEf F2 z m2 n dn pv F b tk) := by
  obtain ⟨b1, b2, b3⟩ := id hb
  have o7 : (7 : Int32).toInt = 7 := rfl
  have e7 : (b + 7).toInt = b.toInt + 7 := by rw [zadd] <;> rw [o7] <;> omega
  have e8 : ((b + 7) + tk).toInt = b.toInt + 7 + tk.toInt := by rw [zadd (by omega) (by omega), e7]
  by_cases h : 4096 < b.toInt + 7 + tk.toInt
  · rw [qE0 hb ht h]
    refine ⟨fun q => ?_, fun _ => ⟨rfl, hmb⟩⟩
    by_cases he : dn + tk = m2
    · rw [hA1 he] at q; omega
    · obtain ⟨a1, a2⟩ := hA2 he
      have := zap_ge hz _ _ _ _ a2
      rw [a1] at q
      omega
  · by_cases he : dn + tk = m2
    · obtain ⟨q1, q2⟩ := qE1 (F2 := F2) (F := F) (z := z) (pv := pv) (n := n) hb ht h he
      refine ⟨fun _ => ⟨q1, by rw [q2, hA1 he]⟩, fun q => ?_⟩
      rw [hA1 he] at q
      omega
    · obtain ⟨G, e⟩ := qE2 (F2 := F2) (F := F) (z := z) (pv := pv) (n := n) hb ht h he
      obtain ⟨a1, a2⟩ := hA2 he
      have hi := ih he ⟨by omega, by omega, by decide⟩ G
      rw [e, a1]
      exact ⟨hi.1, fun q => ⟨(hi.2 q).1, by have := (hi.2 q).2; omega⟩⟩
theorem qsubz {x y w : Int32} : x - (y + w) = (x - y) - w := zsub_add x y w
theorem qend {m2 dn tk : Int32} (h2 : zok 400 m2) (hd : 0 ≤ dn.toInt ∧ dn.toInt ≤ m2.toInt) (ht : 0 ≤ tk.toInt) (htl : tk.toInt ≤ m2.toInt - dn.toInt) : ((m2 - dn).toInt = m2.toInt - dn.toInt) ∧ ((m2 - dn) - tk).toInt = m2.toInt - dn.toInt - tk.toInt ∧ (dn + tk).toInt = dn.toInt + tk.toInt ∧ (dn + tk = m2 ↔ ((m2 - dn) - tk) ≤ 0) := by
  obtain ⟨a1, a2, a3⟩ := h2
  have e1 : (m2 - dn).toInt = m2.toInt - dn.toInt := by rw [zsub] <;> omega
  have e2 : ((m2 - dn) - tk).toInt = m2.toInt - dn.toInt - tk.toInt := by rw [zsub (by omega) (by omega), e1]
  have e3 : (dn + tk).toInt = dn.toInt + tk.toInt := by rw [zadd] <;> omega
  refine ⟨e1, e2, e3, ?_⟩
  have o0 : (0 : Int32).toInt = 0 := rfl
  rw [Int32.le_iff_toInt_le, e2, o0]
  constructor
  · intro h; have := congrArg Int32.toInt h; omega
  · intro h; exact Int32.toInt_inj.mp (by omega)
theorem qpieces {F2 : Nat → Int32} {z m2 : Int32} (hz : zsz z) (h2 : zok 400 m2) : ∀ (n k : Nat) (dn pv : Int32) (F : Nat → Int32) (m : Int32), zok 4096 m → 0 ≤ dn.toInt ∧ dn.toInt ≤ m2.toInt → zap z k m (m2 - dn) 1 → qpv z n pv m (m2 - dn) → qPc (lp_X6_appendedSize z k m (m2 - dn) 1) m (lp_X0_addPieces F2 z m2 n dn pv F m) := by
  intro n
  induction n with
  | zero =>
    intro k dn pv F m hm hd hp hv
    obtain ⟨v1, v2, v3⟩ := hv
    omega
  | succ n ih =>
    intro k dn pv F m hm hd hp hv
    cases k with
    | zero => exact absurd (zap_z hp) id
    | succ k =>
    have c0 : ¬ (1 : Int32) = 0 := by decide
    obtain ⟨p1, p2, p3, p4, p5, p6, p7, p8, p9, p10, p11, p12, p13⟩ := zap_pl hz hp c0
    obtain ⟨z1, z2⟩ := id hz
    obtain ⟨m1, m2', m3⟩ := id hm
    obtain ⟨v1, v2, v3⟩ := hv
    have o7 : (7 : Int32).toInt = 7 := rfl
    have o1 : (1 : Int32).toInt = 1 := rfl
    have e1 : (m2 - dn).toInt = m2.toInt - dn.toInt := by have := h2.2.1; rw [zsub] <;> omega
    have hpv : (pv + 1).toInt = pv.toInt + 1 := by rw [zadd] <;> rw [o1] <;> omega
    have hg : ¬ 400 < pv := by
      have o4 : (400 : Int32).toInt = 400 := rfl
      rw [Int32.lt_iff_toInt_lt, o4]
      omega
    rw [qlp_s, if_neg hg]
    by_cases c1 : 7 ≤ (z - zMod m z)
    · have c1' := c1
      rw [Int32.le_iff_toInt_le, o7] at c1'
      have hf : f_X0_fillBlock F z m = (1, F, m) := by
        unfold f_X0_fillBlock
        rw [qpl2', if_neg (Int32.not_lt.mpr c1)]
      rw [hf]
      dsimp only
      rw [if_neg c0, qpl2']
      by_cases c2 : ((z - zMod m z) - 7) ≤ (m2 - dn)
      · have c2' := c2
        rw [Int32.le_iff_toInt_le] at c2'
        rw [qmin_c c2]
        obtain ⟨_, e2, e3, e4⟩ := qend (tk := (z - zMod m z) - 7) h2 hd (by omega) (by omega)
        refine qpiece (k := k) hz hm (Int.le_refl _) ⟨by omega, by omega⟩ (fun he => ?_) (fun he => ?_) (fun he hok G => ?_)
        · rw [lp_X6_appendedSize, if_neg c0, if_pos c1, if_pos c2, if_pos (e4.mp he)]
          exact zap_0 (zap_e hp c0) rfl
        · rw [lp_X6_appendedSize, if_neg c0, if_pos c1, if_pos c2, if_neg (fun q => he (e4.mpr q)), zsub_add]
          exact ⟨rfl, zap_a hz hp c0 c1 c2 (fun q => he (e4.mpr q))⟩
        · have he' : ¬ ((m2 - dn) - ((z - zMod m z) - 7)).toInt ≤ 0 := fun q => he (e4.mpr (Int32.le_iff_toInt_le.mpr q))
          refine ih k _ _ G _ hok ⟨by omega, by omega⟩ (by rw [zsub_add]; exact zap_a hz hp c0 c1 c2 (fun q => he (e4.mpr q))) ⟨by omega, by omega, Or.inr ⟨by omega, by rw [zsub_add]; omega, ?_, ?_⟩⟩
          · rw [zsub_add, e2, hpv]
            rcases v3 with ⟨w1, w2⟩ | ⟨w1, w2, w3, w4⟩
            · omega
            · omega
          · rw [p10]; exact zmod_fill _ _
      · have c2' := c2
        rw [Int32.le_iff_toInt_le] at c2'
        rw [qmin_x c2]
        obtain ⟨_, e2, e3, e4⟩ := qend (tk := m2 - dn) h2 hd (by omega) (by omega)
        have he0 : dn + (m2 - dn) = m2 := e4.mpr (by rw [zsub_self]; decide)
        refine qpiece (k := k) hz hm (Int.le_refl _) ⟨by omega, by omega⟩ (fun he => ?_) (fun he => absurd he0 he) (fun he => absurd he0 he)
        rw [lp_X6_appendedSize, if_neg c0, if_pos c1, if_neg c2, if_pos (by rw [zsub_self]; decide)]
        exact zap_0 (zap_e hp c0) rfl
    · have c1' := c1
      rw [Int32.le_iff_toInt_le, o7] at c1'
      have hrl : 0 ≤ (z - zMod m z).toInt := by omega
      have hrk := zclamp hrl
      have q4 : (m + (z - zMod m z)).toInt = m.toInt + (z.toInt - m.toInt % z.toInt) := by rw [zadd] <;> rw [p5] <;> omega
      by_cases hr : f_X3_hasRoomFor 4096 m (z - zMod m z) = 0
      · have hr' := (zhr_room hm ⟨hrl, by omega⟩).mp hr
        have hf : f_X0_fillBlock F z m = (0, F, m) := by
          unfold f_X0_fillBlock
          rw [qpl2', if_pos (Int32.not_le.mp c1), if_pos hr]
        rw [hf]
        dsimp only
        rw [if_pos rfl]
        refine ⟨fun q => ?_, fun _ => ⟨rfl, Int.le_refl _⟩⟩
        have hl := (zap_le hz hp q c0)
        obtain ⟨-, -, l3, l4⟩ := hl
        by_cases c2 : (z - 7) ≤ (m2 - dn)
        · have := l3 c1 c2; omega
        · have := l4 c1 c2; omega
      · have hr' : ¬ (4096 : Int) < m.toInt + (z - zMod m z).toInt := fun q => hr ((zhr_room hm ⟨hrl, by omega⟩).mpr q)
        have hal := zalf (N := 4096) (x := 0) (b := z - zMod m z) (F := F) (m := m) ⟨m1, by omega, by decide⟩ hrl
        generalize hT : f_X3_addLowestFirst 4096 F m 0 (z - zMod m z) = T at hal
        obtain ⟨G0, b0⟩ := T
        have hb0 : b0 = m + (z - zMod m z) := hal
        have hf : f_X0_fillBlock F z m = (1, G0, b0) := by
          unfold f_X0_fillBlock
          rw [qpl2', if_pos (Int32.not_le.mp c1), if_neg hr, hT]
        have hok0 : zok 4096 b0 := ⟨by rw [hb0]; omega, by rw [hb0]; omega, by decide⟩
        have hmod : zMod b0 z = 0 := by
          have := zmodI hok0.1 hz
          rw [hb0, q4, zmod_fill] at this
          rw [hb0]
          exact Int32.toInt_inj.mp this
        rw [hf]
        dsimp only
        rw [if_neg c0, qpl2', hmod, Int32.sub_zero]
        by_cases c2 : (z - 7) ≤ (m2 - dn)
        · have c2' := c2
          rw [Int32.le_iff_toInt_le] at c2'
          rw [qmin_c c2]
          obtain ⟨_, e2, e3, e4⟩ := qend (tk := z - 7) h2 hd (by omega) (by omega)
          refine qpiece (k := k) hz hok0 (by rw [hb0]; omega) ⟨by omega, by omega⟩ (fun he => ?_) (fun he => ?_) (fun he hok G => ?_)
          · rw [lp_X6_appendedSize, if_neg c0, if_neg c1, if_pos c2, if_pos (e4.mp he), hb0]
            exact zap_0 (zap_e hp c0) rfl
          · rw [lp_X6_appendedSize, if_neg c0, if_neg c1, if_pos c2, if_neg (fun q => he (e4.mpr q)), zsub_add, hb0]
            exact ⟨rfl, zap_b hz hp c0 c1 c2 (fun q => he (e4.mpr q))⟩
          · have he' : ¬ ((m2 - dn) - (z - 7)).toInt ≤ 0 := fun q => he (e4.mpr (Int32.le_iff_toInt_le.mpr q))
            refine ih k _ _ G _ hok ⟨by omega, by omega⟩ (by rw [zsub_add, hb0]; exact zap_b hz hp c0 c1 c2 (fun q => he (e4.mpr q))) ⟨by omega, by omega, Or.inr ⟨by omega, by rw [zsub_add]; omega, ?_, ?_⟩⟩
            · rw [zsub_add, e2, hpv]
              rcases v3 with ⟨w1, w2⟩ | ⟨w1, w2, w3, w4⟩
              · omega
              · omega
            · rw [hb0, p12, Int.add_emod_right]; exact zmod_fill _ _
        · have c2' := c2
          rw [Int32.le_iff_toInt_le] at c2'
          rw [qmin_x c2]
          obtain ⟨_, e2, e3, e4⟩ := qend (tk := m2 - dn) h2 hd (by omega) (by omega)
          have he0 : dn + (m2 - dn) = m2 := e4.mpr (by rw [zsub_self]; decide)
          refine qpiece (k := k) hz hok0 (by rw [hb0]; omega) ⟨by omega, by omega⟩ (fun he => ?_) (fun he => absurd he0 he) (fun he => absurd he0 he)
          rw [lp_X6_appendedSize, if_neg c0, if_neg c1, if_neg c2, if_pos (by rw [zsub_self]; decide), hb0]
          exact zap_0 (zap_e hp c0) rfl
theorem zapp_sz_lp {MU : Nat → Int32} {z bs : Int32} (hz : zsz z) (hu : zok 400 bs) : ∀ (n : Nat) (bq mo : Int32) (MB : Nat → Int32) (al hb : Int32), zap z n al (bs - bq) mo → (lp_X6_appendedSize z n al (bs - bq) mo).toInt ≤ 4096 → 0 ≤ bq.toInt ∧ bq.toInt ≤ bs.toInt → (lp_X6_append MU z bs n bq mo MB al hb).1 = lp_X6_appendedSize z n al (bs - bq) mo ∧ (lp_X6_append MU z bs n bq mo MB al hb).2.2.2.1 = lp_X6_appendedSize z n al (bs - bq) mo := by
  intro n
  induction n with
  | zero => intro bq mo MB al hb hp; exact absurd (zap_z hp) id
  | succ n ih =>
    intro bq mo MB al hb hp hq hb_
    by_cases c0 : mo = 0
    · rw [zap_0 hp c0]
      unfold lp_X6_append
      rw [if_pos c0]
      exact ⟨rfl, rfl⟩
    obtain ⟨p1, p2, p3, p4, p5, p6, p7, p8, p9, p10, p11, p12, p13⟩ := zap_pl hz hp c0
    obtain ⟨z1, z2⟩ := id hz
    unfold lp_X6_append
    rw [if_neg c0]
    by_cases c1 : 7 ≤ (z - zMod al z)
    · rw [if_pos c1]
      by_cases c2 : ((z - zMod al z) - 7) ≤ (bs - bq)
      · rw [if_pos c2]
        by_cases c3 : ((z - zMod al z) - 7) = (bs - bq)
        · rw [if_pos c3]
          by_cases c4 : bq = 0
          · rw [if_pos c4]
            by_cases c5 : hb = 0
            · rw [if_pos c5]
              generalize hT : f_X6_putFragment MB MU al 1 bq ((z - zMod al z) - 7) = T
              obtain ⟨B1, a1⟩ := T
              have hi := ih _ _ B1 _ 1 (zap_e hp c0) (zapp_q0_at hz hp hq c0 c1 c2 hT) (zapp_b_at hz hu hp hb_ c0 c1 c2)
              rw [zsub_add, zpf_al (zapp_seg_at hz hu hp hb_ c0 c1 c2).2.1 hT] at hi
              rw [lp_X6_appendedSize, if_neg c0, if_pos c1, if_pos c2, if_pos (show (bs - bq) - ((z - zMod al z) - 7) ≤ 0 by rw [← c3, zsub_self]; decide), zpf_al (zapp_seg_at hz hu hp hb_ c0 c1 c2).2.1 hT]
              exact hi
            · rw [if_neg c5]
              generalize hT : f_X6_putFragment MB MU al 4 bq ((z - zMod al z) - 7) = T
              obtain ⟨B1, a1⟩ := T
              have hi := ih _ _ B1 _ 1 (zap_e hp c0) (zapp_q0_at hz hp hq c0 c1 c2 hT) (zapp_b_at hz hu hp hb_ c0 c1 c2)
              rw [zsub_add, zpf_al (zapp_seg_at hz hu hp hb_ c0 c1 c2).2.1 hT] at hi
              rw [lp_X6_appendedSize, if_neg c0, if_pos c1, if_pos c2, if_pos (show (bs - bq) - ((z - zMod al z) - 7) ≤ 0 by rw [← c3, zsub_self]; decide), zpf_al (zapp_seg_at hz hu hp hb_ c0 c1 c2).2.1 hT]
              exact hi
          · rw [if_neg c4]
            generalize hT : f_X6_putFragment MB MU al 4 bq ((z - zMod al z) - 7) = T
            obtain ⟨B1, a1⟩ := T
            have hi := ih _ _ B1 _ 1 (zap_e hp c0) (zapp_q0_at hz hp hq c0 c1 c2 hT) (zapp_b_at hz hu hp hb_ c0 c1 c2)
            rw [zsub_add, zpf_al (zapp_seg_at hz hu hp hb_ c0 c1 c2).2.1 hT] at hi
            rw [lp_X6_appendedSize, if_neg c0, if_pos c1, if_pos c2, if_pos (show (bs - bq) - ((z - zMod al z) - 7) ≤ 0 by rw [← c3, zsub_self]; decide), zpf_al (zapp_seg_at hz hu hp hb_ c0 c1 c2).2.1 hT]
            exact hi
        · rw [if_neg c3]
          by_cases c4 : bq = 0
          · rw [if_pos c4]
            by_cases c5 : hb = 0
            · rw [if_pos c5]
              generalize hT : f_X6_putFragment MB MU al 2 bq ((z - zMod al z) - 7) = T
              obtain ⟨B1, a1⟩ := T
              have hi := ih _ _ B1 _ 1 (zapp_p1_at hz hp hq c0 c1 c2 c3 hT) (zapp_q1_at hz hp hq c0 c1 c2 c3 hT) (zapp_b_at hz hu hp hb_ c0 c1 c2)
              rw [zsub_add, zpf_al (zapp_seg_at hz hu hp hb_ c0 c1 c2).2.1 hT] at hi
              rw [lp_X6_appendedSize, if_neg c0, if_pos c1, if_pos c2, if_neg (zapp_c3 ⟨(zapp_seg_at hz hu hp hb_ c0 c1 c2).2.1, by have := (zapp_seg_at hz hu hp hb_ c0 c1 c2).2.2.1; have := (zapp_seg_at hz hu hp hb_ c0 c1 c2).1; omega⟩ ⟨p2, by omega⟩ c2 c3), zpf_al (zapp_seg_at hz hu hp hb_ c0 c1 c2).2.1 hT]
              exact hi
            · rw [if_neg c5]
              generalize hT : f_X6_putFragment MB MU al 3 bq ((z - zMod al z) - 7) = T
              obtain ⟨B1, a1⟩ := T
              have hi := ih _ _ B1 _ 1 (zapp_p1_at hz hp hq c0 c1 c2 c3 hT) (zapp_q1_at hz hp hq c0 c1 c2 c3 hT) (zapp_b_at hz hu hp hb_ c0 c1 c2)
              rw [zsub_add, zpf_al (zapp_seg_at hz hu hp hb_ c0 c1 c2).2.1 hT] at hi
              rw [lp_X6_appendedSize, if_neg c0, if_pos c1, if_pos c2, if_neg (zapp_c3 ⟨(zapp_seg_at hz hu hp hb_ c0 c1 c2).2.1, by have := (zapp_seg_at hz hu hp hb_ c0 c1 c2).2.2.1; have := (zapp_seg_at hz hu hp hb_ c0 c1 c2).1; omega⟩ ⟨p2, by omega⟩ c2 c3), zpf_al (zapp_seg_at hz hu hp hb_ c0 c1 c2).2.1 hT]
              exact hi
          · rw [if_neg c4]
            generalize hT : f_X6_putFragment MB MU al 3 bq ((z - zMod al z) - 7) = T
            obtain ⟨B1, a1⟩ := T
            have hi := ih _ _ B1 _ 1 (zapp_p1_at hz hp hq c0 c1 c2 c3 hT) (zapp_q1_at hz hp hq c0 c1 c2 c3 hT) (zapp_b_at hz hu hp hb_ c0 c1 c2)
            rw [zsub_add, zpf_al (zapp_seg_at hz hu hp hb_ c0 c1 c2).2.1 hT] at hi
            rw [lp_X6_appendedSize, if_neg c0, if_pos c1, if_pos c2, if_neg (zapp_c3 ⟨(zapp_seg_at hz hu hp hb_ c0 c1 c2).2.1, by have := (zapp_seg_at hz hu hp hb_ c0 c1 c2).2.2.1; have := (zapp_seg_at hz hu hp hb_ c0 c1 c2).1; omega⟩ ⟨p2, by omega⟩ c2 c3), zpf_al (zapp_seg_at hz hu hp hb_ c0 c1 c2).2.1 hT]
            exact hi
      · rw [if_neg c2]
        by_cases c4 : bq = 0
        · rw [if_pos c4]
          by_cases c5 : hb = 0
          · rw [if_pos c5]
            generalize hT : f_X6_putFragment MB MU al 1 bq (bs - bq) = T
            obtain ⟨B1, a1⟩ := T
            have hi := ih _ _ B1 _ 1 (zap_e hp c0) (zapp_q0_af hz hp hq c0 c1 c2 hT) (zapp_b_af hz hu hp hb_ c0 c1 c2)
            rw [zsub_add, zpf_al (zapp_seg_af hz hu hp hb_ c0 c1 c2).2.1 hT] at hi
            rw [lp_X6_appendedSize, if_neg c0, if_pos c1, if_neg c2, if_pos (show (bs - bq) - (bs - bq) ≤ 0 by rw [zsub_self]; decide), zpf_al (zapp_seg_af hz hu hp hb_ c0 c1 c2).2.1 hT]
            exact hi
          · rw [if_neg c5]
            generalize hT : f_X6_putFragment MB MU al 4 bq (bs - bq) = T
            obtain ⟨B1, a1⟩ := T
            have hi := ih _ _ B1 _ 1 (zap_e hp c0) (zapp_q0_af hz hp hq c0 c1 c2 hT) (zapp_b_af hz hu hp hb_ c0 c1 c2)
            rw [zsub_add, zpf_al (zapp_seg_af hz hu hp hb_ c0 c1 c2).2.1 hT] at hi
            rw [lp_X6_appendedSize, if_neg c0, if_pos c1, if_neg c2, if_pos (show (bs - bq) - (bs - bq) ≤ 0 by rw [zsub_self]; decide), zpf_al (zapp_seg_af hz hu hp hb_ c0 c1 c2).2.1 hT]
            exact hi
        · rw [if_neg c4]
          generalize hT : f_X6_putFragment MB MU al 4 bq (bs - bq) = T
          obtain ⟨B1, a1⟩ := T
          have hi := ih _ _ B1 _ 1 (zap_e hp c0) (zapp_q0_af hz hp hq c0 c1 c2 hT) (zapp_b_af hz hu hp hb_ c0 c1 c2)
          rw [zsub_add, zpf_al (zapp_seg_af hz hu hp hb_ c0 c1 c2).2.1 hT] at hi
          rw [lp_X6_appendedSize, if_neg c0, if_pos c1, if_neg c2, if_pos (show (bs - bq) - (bs - bq) ≤ 0 by rw [zsub_self]; decide), zpf_al (zapp_seg_af hz hu hp hb_ c0 c1 c2).2.1 hT]
          exact hi
    · rw [if_neg c1]
      have hm0 := zlpp_al (MB := MB) (a := al) (z - zMod al z).toNatClampNeg
      generalize hTp : lpp_X6_append (MB, al) (z - zMod al z).toNatClampNeg = Tp at hm0 ⊢
      obtain ⟨Bp, ap⟩ := Tp
      have hm : ap = al + nI (z - zMod al z).toNatClampNeg := hm0
      have hap := zapp_al hz hp c0 hm rfl
      dsimp only
      by_cases c2 : (z - 7) ≤ (bs - bq)
      · rw [if_pos c2]
        by_cases c3 : (z - 7) = (bs - bq)
        · rw [if_pos c3]
          by_cases c4 : bq = 0
          · rw [if_pos c4]
            by_cases c5 : hb = 0
            · rw [if_pos c5]
              generalize hT : f_X6_putFragment Bp MU ap 1 bq (z - 7) = T
              obtain ⟨B1, a1⟩ := T
              have hi := ih _ _ B1 _ 1 (zap_e hp c0) (zapp_q0_bt hz hp hq c0 c1 c2 hm rfl hT) (zapp_b_bt hz hu hp hb_ c0 c1 c2)
              rw [zsub_add, zpf_al (zapp_seg_bt hz hu hp hb_ c0 c1 c2).2.1 hT, hap] at hi
              rw [lp_X6_appendedSize, if_neg c0, if_neg c1, if_pos c2, if_pos (show (bs - bq) - (z - 7) ≤ 0 by rw [← c3, zsub_self]; decide), zpf_al (zapp_seg_bt hz hu hp hb_ c0 c1 c2).2.1 hT, hap]
              exact hi
            · rw [if_neg c5]
              generalize hT : f_X6_putFragment Bp MU ap 4 bq (z - 7) = T
              obtain ⟨B1, a1⟩ := T
              have hi := ih _ _ B1 _ 1 (zap_e hp c0) (zapp_q0_bt hz hp hq c0 c1 c2 hm rfl hT) (zapp_b_bt hz hu hp hb_ c0 c1 c2)
              rw [zsub_add, zpf_al (zapp_seg_bt hz hu hp hb_ c0 c1 c2).2.1 hT, hap] at hi
              rw [lp_X6_appendedSize, if_neg c0, if_neg c1, if_pos c2, if_pos (show (bs - bq) - (z - 7) ≤ 0 by rw [← c3, zsub_self]; decide), zpf_al (zapp_seg_bt hz hu hp hb_ c0 c1 c2).2.1 hT, hap]
              exact hi
          · rw [if_neg c4]
            generalize hT : f_X6_putFragment Bp MU ap 4 bq (z - 7) = T
            obtain ⟨B1, a1⟩ := T
            have hi := ih _ _ B1 _ 1 (zap_e hp c0) (zapp_q0_bt hz hp hq c0 c1 c2 hm rfl hT) (zapp_b_bt hz hu hp hb_ c0 c1 c2)
            rw [zsub_add, zpf_al (zapp_seg_bt hz hu hp hb_ c0 c1 c2).2.1 hT, hap] at hi
            rw [lp_X6_appendedSize, if_neg c0, if_neg c1, if_pos c2, if_pos (show (bs - bq) - (z - 7) ≤ 0 by rw [← c3, zsub_self]; decide), zpf_al (zapp_seg_bt hz hu hp hb_ c0 c1 c2).2.1 hT, hap]
            exact hi
        · rw [if_neg c3]
          by_cases c4 : bq = 0
          · rw [if_pos c4]
            by_cases c5 : hb = 0
            · rw [if_pos c5]
              generalize hT : f_X6_putFragment Bp MU ap 2 bq (z - 7) = T
              obtain ⟨B1, a1⟩ := T
              have hi := ih _ _ B1 _ 1 (zapp_p1_bt hz hp hq c0 c1 c2 c3 hm rfl hT) (zapp_q1_bt hz hp hq c0 c1 c2 c3 hm rfl hT) (zapp_b_bt hz hu hp hb_ c0 c1 c2)
              rw [zsub_add, zpf_al (zapp_seg_bt hz hu hp hb_ c0 c1 c2).2.1 hT, hap] at hi
              rw [lp_X6_appendedSize, if_neg c0, if_neg c1, if_pos c2, if_neg (zapp_c3 ⟨(zapp_seg_bt hz hu hp hb_ c0 c1 c2).2.1, by have := (zapp_seg_bt hz hu hp hb_ c0 c1 c2).2.2.1; have := (zapp_seg_bt hz hu hp hb_ c0 c1 c2).1; omega⟩ ⟨p2, by omega⟩ c2 c3), zpf_al (zapp_seg_bt hz hu hp hb_ c0 c1 c2).2.1 hT, hap]
              exact hi
            · rw [if_neg c5]
              generalize hT : f_X6_putFragment Bp MU ap 3 bq (z - 7) = T
              obtain ⟨B1, a1⟩ := T
              have hi := ih _ _ B1 _ 1 (zapp_p1_bt hz hp hq c0 c1 c2 c3 hm rfl hT) (zapp_q1_bt hz hp hq c0 c1 c2 c3 hm rfl hT) (zapp_b_bt hz hu hp hb_ c0 c1 c2)
              rw [zsub_add, zpf_al (zapp_seg_bt hz hu hp hb_ c0 c1 c2).2.1 hT, hap] at hi
              rw [lp_X6_appendedSize, if_neg c0, if_neg c1, if_pos c2, if_neg (zapp_c3 ⟨(zapp_seg_bt hz hu hp hb_ c0 c1 c2).2.1, by have := (zapp_seg_bt hz hu hp hb_ c0 c1 c2).2.2.1; have := (zapp_seg_bt hz hu hp hb_ c0 c1 c2).1; omega⟩ ⟨p2, by omega⟩ c2 c3), zpf_al (zapp_seg_bt hz hu hp hb_ c0 c1 c2).2.1 hT, hap]
              exact hi
          · rw [if_neg c4]
            generalize hT : f_X6_putFragment Bp MU ap 3 bq (z - 7) = T
            obtain ⟨B1, a1⟩ := T
            have hi := ih _ _ B1 _ 1 (zapp_p1_bt hz hp hq c0 c1 c2 c3 hm rfl hT) (zapp_q1_bt hz hp hq c0 c1 c2 c3 hm rfl hT) (zapp_b_bt hz hu hp hb_ c0 c1 c2)
            rw [zsub_add, zpf_al (zapp_seg_bt hz hu hp hb_ c0 c1 c2).2.1 hT, hap] at hi
            rw [lp_X6_appendedSize, if_neg c0, if_neg c1, if_pos c2, if_neg (zapp_c3 ⟨(zapp_seg_bt hz hu hp hb_ c0 c1 c2).2.1, by have := (zapp_seg_bt hz hu hp hb_ c0 c1 c2).2.2.1; have := (zapp_seg_bt hz hu hp hb_ c0 c1 c2).1; omega⟩ ⟨p2, by omega⟩ c2 c3), zpf_al (zapp_seg_bt hz hu hp hb_ c0 c1 c2).2.1 hT, hap]
            exact hi
      · rw [if_neg c2]
        by_cases c4 : bq = 0
        · rw [if_pos c4]
          by_cases c5 : hb = 0
          · rw [if_pos c5]
            generalize hT : f_X6_putFragment Bp MU ap 1 bq (bs - bq) = T
            obtain ⟨B1, a1⟩ := T
            have hi := ih _ _ B1 _ 1 (zap_e hp c0) (zapp_q0_bf hz hp hq c0 c1 c2 hm rfl hT) (zapp_b_bf hz hu hp hb_ c0 c1 c2)
            rw [zsub_add, zpf_al (zapp_seg_bf hz hu hp hb_ c0 c1 c2).2.1 hT, hap] at hi
            rw [lp_X6_appendedSize, if_neg c0, if_neg c1, if_neg c2, if_pos (show (bs - bq) - (bs - bq) ≤ 0 by rw [zsub_self]; decide), zpf_al (zapp_seg_bf hz hu hp hb_ c0 c1 c2).2.1 hT, hap]
            exact hi
          · rw [if_neg c5]
            generalize hT : f_X6_putFragment Bp MU ap 4 bq (bs - bq) = T
            obtain ⟨B1, a1⟩ := T
            have hi := ih _ _ B1 _ 1 (zap_e hp c0) (zapp_q0_bf hz hp hq c0 c1 c2 hm rfl hT) (zapp_b_bf hz hu hp hb_ c0 c1 c2)
            rw [zsub_add, zpf_al (zapp_seg_bf hz hu hp hb_ c0 c1 c2).2.1 hT, hap] at hi
            rw [lp_X6_appendedSize, if_neg c0, if_neg c1, if_neg c2, if_pos (show (bs - bq) - (bs - bq) ≤ 0 by rw [zsub_self]; decide), zpf_al (zapp_seg_bf hz hu hp hb_ c0 c1 c2).2.1 hT, hap]
            exact hi
        · rw [if_neg c4]
          generalize hT : f_X6_putFragment Bp MU ap 4 bq (bs - bq) = T
          obtain ⟨B1, a1⟩ := T
          have hi := ih _ _ B1 _ 1 (zap_e hp c0) (zapp_q0_bf hz hp hq c0 c1 c2 hm rfl hT) (zapp_b_bf hz hu hp hb_ c0 c1 c2)
          rw [zsub_add, zpf_al (zapp_seg_bf hz hu hp hb_ c0 c1 c2).2.1 hT, hap] at hi
          rw [lp_X6_appendedSize, if_neg c0, if_neg c1, if_neg c2, if_pos (show (bs - bq) - (bs - bq) ≤ 0 by rw [zsub_self]; decide), zpf_al (zapp_seg_bf hz hu hp hb_ c0 c1 c2).2.1 hT, hap]
          exact hi
theorem qshort {m m0 : Int32} (h0 : 0 ≤ m0.toInt) (h : m0.toInt ≤ m.toInt) : f_X3_shorten m m0 = m0 := by
  unfold f_X3_shorten
  have o0 : (0 : Int32).toInt = 0 := rfl
  rw [if_neg (by rw [Int32.lt_iff_toInt_lt, o0]; omega)]
  split
  · next c => rw [Int32.le_iff_toInt_le] at c; exact Int32.toInt_inj.mp (by omega)
  · rfl
theorem q_append {Bf F F1 MB MU B1 : Nat → Int32} {bm z m bs Z al r1 m1 hb r2 ft a1 h1 : Int32} (hz : zsz z) (hm : zok 4096 m) (hu : zok 400 bm) (ez : z = Z) (eb : bm = bs) (em : m = al) (e1 : f_X5_append Bf F bm z m = (r1, F1, m1)) (e2 : f_X6_append MB MU Z al bs hb = (r2, B1, ft, a1, h1)) : r1 = r2 ∧ m1 = a1 := by
  subst ez; subst eb; subst em
  have hz0 : bm - 0 = bm := Int32.sub_zero bm
  have hp : zap z 1000 m (bm - 0) 1 := by rw [hz0]; exact zap_i hz hm hu
  have hP := qpieces (F2 := Bf) hz hu 402 1000 0 0 F m hm ⟨by decide, hu.1⟩ hp ⟨by decide, by decide, Or.inl ⟨by decide, by rw [hz0]; exact hu.2.1⟩⟩
  unfold f_X6_append at e2
  unfold f_X5_append f_X0_addRecord f_X0_addPieces at e1
  generalize lp_X0_addPieces Bf z bm 402 0 0 F m = T at e1 hP
  obtain ⟨r3, F3, m3⟩ := T
  by_cases c : f_X6_appendedSize z m bm ≤ 4096
  · have c' : (lp_X6_appendedSize z 1000 m (bm - 0) 1).toInt ≤ 4096 := by rw [hz0]; exact zapp_i rfl c
    rw [if_pos c] at e2
    have hS := zapp_sz_lp (MU := MU) hz hu 1000 0 1 MB m hb hp c' ⟨by decide, hu.1⟩
    rw [e2] at hS
    obtain ⟨q1, q2⟩ := hP.1 c'
    dsimp only at q1 q2 hS
    subst q1
    have e1' : (m3, F3, m3) = (r1, F1, m1) := e1
    cases e1'
    exact ⟨q2.trans hS.1.symm, q2.trans hS.2.symm⟩
  · have c' : ¬ (lp_X6_appendedSize z 1000 m (bm - 0) 1).toInt ≤ 4096 := fun q => c (by rw [hz0] at q; exact Int32.le_iff_toInt_le.mpr q)
    rw [if_neg c] at e2
    obtain ⟨q1, q2⟩ := hP.2 c'
    dsimp only at q1 q2
    subst q1
    have e1' : ((-2 : Int32), F3, f_X3_shorten m3 m) = (r1, F1, m1) := e1
    cases e1'
    cases e2
    exact ⟨rfl, qshort hm.1 q2⟩
section
variable {z al pl bg lo hs hf rs rf to tb v r ft z1 al1 pl1 bg1 lo1 hs1 hf1 rs1 rf1 to1 tb1 Z pl0 bg0 lo0 dm da m bm bs hb h1 r1 m1 a1 r2 : Int32} {Bf F F1 MB MU B1 : Nat → Int32}
theorem rm_append (hm : zok 4096 m) (_ : zok 4096 al) (hz : zsz z) (hu : zok 400 bm) (ez : z = Z) (eb : bm = bs) (em : m = al) (e1 : f_X5_append Bf F bm z m = (r1, F1, m1)) (e2 : f_X6_append MB MU Z al bs hb = (r2, B1, ft, a1, h1)) : m1 = a1 := (q_append hz hm hu ez eb em e1 e2).2
theorem qd_append (ez : z = Z) (eb : bm = bs) (em : m = al) (hz : zsz z) (hm : zok 4096 m) (hu : zok 400 bm) (_ : zsz Z) (_ : zok 4096 al) (_ : zok 400 bs) (e1 : f_X5_append Bf F bm z m = (r1, F1, m1)) (e2 : f_X6_append MB MU Z al bs hb = (r2, B1, ft, a1, h1)) : r1 = r2 := (q_append hz hm hu ez eb em e1 e2).1
theorem qx_raw0 (hx : x_X5_raw v = none) : ¬ f_X5_isByte v = 0 ∧ ¬ f_X6_isIn v 0 255 = 0 := by
  unfold x_X5_raw at hx
  split at hx
  · exact nomatch hx
  · next c => exact ⟨c, c⟩
theorem qx_raw1 (hx : x_X5_raw v = some zIAE) : f_X6_isIn v 0 255 = 0 := by
  unfold x_X5_raw at hx
  split at hx
  · next c => exact c
  · exact nomatch hx
theorem q_raw (hm : zok 4096 m) (hu : zok 400 bm) (eb : bm = bs) (em : m = al) (hx : x_X5_raw v = none) (e : f_X6_raw MB MU al bs v = (r, B1, ft, a1)) : (f_X5_raw Bf F bm m v).1 = r ∧ (f_X5_raw Bf F bm m v).2.2 = a1 ∧ ft = 0 := by
  subst eb; subst em
  obtain ⟨c1, c2⟩ := qx_raw0 hx
  obtain ⟨u1, u2, u3⟩ := id hu
  obtain ⟨m1', m2', m3'⟩ := id hm
  have o7 : (7 : Int32).toInt = 7 := rfl
  have o4 : (4096 : Int32).toInt = 4096 := rfl
  have e7 : (m + 7).toInt = m.toInt + 7 := by rw [zadd] <;> rw [o7] <;> omega
  have e8 : ((m + 7) + bm).toInt = m.toInt + 7 + bm.toInt := by rw [zadd (by omega) (by omega), e7]
  unfold f_X6_raw at e
  rw [if_neg c2] at e
  unfold f_X5_raw
  rw [if_neg c1]
  by_cases c : ((m + 7) + bm) ≤ 4096
  · rw [if_pos c] at e
    generalize hT : f_X6_putFragment MB MU m v 0 bm = T at e
    obtain ⟨B2, a2⟩ := T
    have ha := zpf_al u1 hT
    dsimp only at e
    cases e
    obtain ⟨G, eg⟩ := zaf_1 (F := F) (F2 := Bf) (m := m) (m2 := bm) (q := v) (x := 0) (v := bm) (zraw_room hm hu c) u1
    rw [eg, ha]
    exact ⟨rfl, rfl, rfl⟩
  · rw [if_neg c] at e
    rw [Int32.le_iff_toInt_le, e8, o4] at c
    cases e
    rw [qaf_0 hm ⟨u1, by omega⟩ (by omega)]
    exact ⟨rfl, rfl, rfl⟩
theorem rm_raw_0 (hm : zok 4096 m) (_ : zok 4096 al) (_ : zsz z) (hu : zok 400 bm) (_ : z = Z) (eb : bm = bs) (em : m = al) (hx : x_X5_raw v = none) (e : f_X6_raw MB MU al bs v = (r, B1, ft, a1)) : (f_X5_raw Bf F bm m v).2.2 = a1 := (q_raw hm hu eb em hx e).2.1
theorem rm_raw_1 (_ : zok 4096 m) (_ : zok 4096 al) (_ : zsz z) (_ : zok 400 bm) (_ : z = Z) (_ : bm = bs) (em : m = al) (hx : x_X5_raw v = some zIAE) (e : f_X6_raw MB MU al bs v = (r, B1, ft, a1)) : m = a1 := by
  unfold f_X6_raw at e
  rw [if_pos (qx_raw1 hx)] at e
  cases e
  exact em
theorem rm_clear_0 (hm : zok 4096 m) (_ : zok 4096 al) (_ : zsz z) (_ : zok 400 bm) (_ : z = Z) (_ : bm = bs) (_ : m = al) (hx : x_X5_clear v = none) (e : f_X6_clear Z al pl bg lo hs hf rs rf to tb v = (ft, z1, al1, pl1, bg1, lo1, hs1, hf1, rs1, rf1, to1, tb1)) : (f_X5_clear pl0 bg0 lo0 dm da z m v).2.2.2.2.2.2 = al1 := by
  obtain ⟨c1, c2⟩ := qx_clear0 hx
  have e1 : (f_X5_clear pl0 bg0 lo0 dm da z m v).2.2.2.2.2.2 = f_X3_shorten m 0 := by
    have hs : f_X0_startAnew m v = (v, f_X3_shorten m 0) := rfl
    unfold f_X5_clear
    rw [if_neg c1, if_pos c2, hs]
  unfold f_X6_clear at e
  rw [if_neg (qisIn1 (Int32.not_lt.mp c1) c2)] at e
  generalize f_X6_beginAt v 0 = T at e
  obtain ⟨t1, t2, t3, t4, t5, t6, t7, t8, t9⟩ := T
  dsimp only at e
  cases e
  rw [e1]
  exact qshort (by decide) hm.1
theorem rm_clear_1 (_ : zok 4096 m) (_ : zok 4096 al) (_ : zsz z) (_ : zok 400 bm) (_ : z = Z) (_ : bm = bs) (em : m = al) (hx : x_X5_clear v = some zIAE) (e : f_X6_clear Z al pl bg lo hs hf rs rf to tb v = (ft, z1, al1, pl1, bg1, lo1, hs1, hf1, rs1, rf1, to1, tb1)) : m = al1 := by
  unfold f_X6_clear at e
  rw [if_pos (qx_clear1 hx)] at e
  cases e
  exact em
theorem qx_cut0 (hx : x_X5_cut m v = none) : ¬ v < 0 ∧ v ≤ m := by
  unfold x_X5_cut at hx
  split at hx
  · exact nomatch hx
  · next c1 =>
    split at hx
    · next c2 => exact ⟨c1, c2⟩
    · exact nomatch hx
theorem qx_cut1 (hx : x_X5_cut m v = some zIAE) : f_X6_isIn v 0 m = 0 := by
  unfold x_X5_cut at hx
  split at hx
  · next c => exact qisIn0 (fun q => absurd c (Int32.not_lt.mpr q.1))
  · split at hx
    · exact nomatch hx
    · next c2 => exact qisIn0 (fun q => c2 q.2)
theorem q_cut (em : m = al) (hx : x_X5_cut m v = none) (e : f_X6_cut Z al pl bg lo hs hf rs rf to tb v = (r, ft, al1, pl1, bg1, lo1, hs1, hf1, rs1, rf1, to1, tb1)) : (f_X5_cut pl0 bg0 lo0 dm da z m v).1 = r ∧ (f_X5_cut pl0 bg0 lo0 dm da z m v).2.2.2.2.2.2 = al1 ∧ ft = 0 := by
  subst em
  obtain ⟨c1, c2⟩ := qx_cut0 hx
  have s1 : f_X3_shorten m v = v := qshort (by rw [Int32.lt_iff_toInt_lt] at c1; have o0 : (0 : Int32).toInt = 0 := rfl; omega) (Int32.le_iff_toInt_le.mp c2)
  unfold f_X6_cut at e
  rw [if_neg (qisIn1 (Int32.not_lt.mp c1) c2)] at e
  generalize f_X6_beginAt Z 0 = T at e
  obtain ⟨t1, t2, t3, t4, t5, t6, t7, t8, t9⟩ := T
  dsimp only at e
  cases e
  unfold f_X5_cut
  rw [if_neg c1, if_pos c2, s1]
  exact ⟨rfl, rfl, rfl⟩
theorem rm_cut_0 (_ : zok 4096 m) (_ : zok 4096 al) (_ : zsz z) (_ : zok 400 bm) (_ : z = Z) (_ : bm = bs) (em : m = al) (hx : x_X5_cut m v = none) (e : f_X6_cut Z al pl bg lo hs hf rs rf to tb v = (r, ft, al1, pl1, bg1, lo1, hs1, hf1, rs1, rf1, to1, tb1)) : (f_X5_cut pl0 bg0 lo0 dm da z m v).2.2.2.2.2.2 = al1 := (q_cut em hx e).2.1
theorem rm_cut_1 (_ : zok 4096 m) (_ : zok 4096 al) (_ : zsz z) (_ : zok 400 bm) (_ : z = Z) (_ : bm = bs) (em : m = al) (hx : x_X5_cut m v = some zIAE) (e : f_X6_cut Z al pl bg lo hs hf rs rf to tb v = (r, ft, al1, pl1, bg1, lo1, hs1, hf1, rs1, rf1, to1, tb1)) : m = al1 := by
  subst em
  unfold f_X6_cut at e
  rw [if_pos (qx_cut1 hx)] at e
  cases e
  rfl
theorem qt_cut_0 (_ : z = Z) (_ : bm = bs) (em : m = al) (hx : x_X5_cut m v = none) (e : f_X6_cut Z al pl bg lo hs hf rs rf to tb v = (r, ft, al1, pl1, bg1, lo1, hs1, hf1, rs1, rf1, to1, tb1)) : ft = 0 := (q_cut (pl0 := 0) (bg0 := 0) (lo0 := 0) (dm := 0) (da := 0) (z := 0) em hx e).2.2
theorem qt_cut_1 (_ : z = Z) (_ : bm = bs) (em : m = al) (hx : x_X5_cut m v = some zIAE) (e : f_X6_cut Z al pl bg lo hs hf rs rf to tb v = (r, ft, al1, pl1, bg1, lo1, hs1, hf1, rs1, rf1, to1, tb1)) : ft = 1 := by
  subst em
  unfold f_X6_cut at e
  rw [if_pos (qx_cut1 hx)] at e
  cases e
  rfl
theorem qr_cut (_ : z = Z) (_ : bm = bs) (em : m = al) (hx : x_X5_cut m v = none) (e : f_X6_cut Z al pl bg lo hs hf rs rf to tb v = (r, ft, al1, pl1, bg1, lo1, hs1, hf1, rs1, rf1, to1, tb1)) : (f_X5_cut pl0 bg0 lo0 dm da z m v).1 = r := (q_cut em hx e).1
theorem qt_raw_0 (_ : z = Z) (eb : bm = bs) (em : m = al) (hm : zok 4096 m) (hu : zok 400 bm) (hx : x_X5_raw v = none) (e : f_X6_raw MB MU al bs v = (r, B1, ft, a1)) : ft = 0 := (q_raw (Bf := MU) (F := MU) hm hu eb em hx e).2.2
theorem qt_raw_1 (_ : z = Z) (_ : bm = bs) (_ : m = al) (_ : zok 4096 m) (_ : zok 400 bm) (hx : x_X5_raw v = some zIAE) (e : f_X6_raw MB MU al bs v = (r, B1, ft, a1)) : ft = 1 := by
  unfold f_X6_raw at e
  rw [if_pos (qx_raw1 hx)] at e
  cases e
  rfl
theorem qr_raw (_ : z = Z) (eb : bm = bs) (em : m = al) (hm : zok 4096 m) (hu : zok 400 bm) (hx : x_X5_raw v = none) (e : f_X6_raw MB MU al bs v = (r, B1, ft, a1)) : (f_X5_raw Bf F bm m v).1 = r := (q_raw hm hu eb em hx e).1
end
def kS (w : BitVec 32) : BitVec 32 := (w >>> 1) ^^^ (if w.getLsbD 0 then 0x82F63B78#32 else 0#32)
theorem kS_xor (a b : BitVec 32) : kS (a ^^^ b) = kS a ^^^ kS b := by
  unfold kS
  rw [BitVec.getLsbD_xor, BitVec.ushiftRight_xor_distrib]
  generalize a >>> 1 = x
  generalize b >>> 1 = y
  generalize 0x82F63B78#32 = P
  cases a.getLsbD 0 <;> cases b.getLsbD 0 <;> (ext i hi; simp <;> cases x[i] <;> cases y[i] <;> cases P[i] <;> rfl)
theorem kS_even (w : BitVec 32) (h : w.getLsbD 0 = false) : kS w = w >>> 1 := by
  unfold kS
  rw [h]
  simp
theorem kS4_hi (w : BitVec 32) : kS (kS (kS (kS (w &&& 0xFFFFFFF0#32)))) = w >>> 4 := by
  have h0 : kS (w &&& 0xFFFFFFF0#32) = (w &&& 0xFFFFFFF0#32) >>> 1 := kS_even _ (by simp)
  have h1 : kS ((w &&& 0xFFFFFFF0#32) >>> 1) = (w &&& 0xFFFFFFF0#32) >>> 2 := by
    rw [kS_even _ (by simp), ← BitVec.shiftRight_add]
  have h2 : kS ((w &&& 0xFFFFFFF0#32) >>> 2) = (w &&& 0xFFFFFFF0#32) >>> 3 := by
    rw [kS_even _ (by simp), ← BitVec.shiftRight_add]
  have h3 : kS ((w &&& 0xFFFFFFF0#32) >>> 3) = (w &&& 0xFFFFFFF0#32) >>> 4 := by
    rw [kS_even _ (by simp), ← BitVec.shiftRight_add]
  rw [h0, h1, h2, h3, BitVec.ushiftRight_and_distrib]
  apply BitVec.eq_of_toNat_eq
  rw [BitVec.toNat_and, show (0xFFFFFFF0#32 >>> 4).toNat = 2 ^ 28 - 1 from rfl]
  apply Nat.and_two_pow_sub_one_of_lt_two_pow
  rw [BitVec.toNat_ushiftRight, Nat.shiftRight_eq_div_pow]
  have := w.isLt
  omega
theorem kS4 (w : BitVec 32) : kS (kS (kS (kS w))) = (w >>> 4) ^^^ kS (kS (kS (kS (w &&& 15#32)))) := by
  have e : w = (w &&& 0xFFFFFFF0#32) ^^^ (w &&& 15#32) := by
    have hab : ∀ i, i < 32 → (0xFFFFFFF0#32).getLsbD i = !(15#32).getLsbD i := by decide
    apply BitVec.eq_of_getLsbD_eq
    intro i hi
    rw [BitVec.getLsbD_xor, BitVec.getLsbD_and, BitVec.getLsbD_and, hab i hi]
    cases w.getLsbD i <;> cases (15#32).getLsbD i <;> rfl
  have h : kS (kS (kS (kS ((w &&& 0xFFFFFFF0#32) ^^^ (w &&& 15#32))))) = (w >>> 4) ^^^ kS (kS (kS (kS (w &&& 15#32)))) := by
    rw [kS_xor, kS_xor, kS_xor, kS_xor, kS4_hi]
  rw [← e] at h
  exact h
theorem kS_more (k w : Int32) : (b_X6_more k w).toBitVec = kS w.toBitVec := by
  unfold b_X6_more kS
  have h1 : (zUshr w 1).toBitVec = w.toBitVec >>> 1 := rfl
  have h2 : (w &&& 1 = 0) ↔ w.toBitVec.getLsbD 0 = false := by
    constructor
    · intro h
      have := congrArg Int32.toBitVec h
      have h3 : (w &&& 1).toBitVec = w.toBitVec &&& 1#32 := rfl
      rw [h3] at this
      have h4 := congrArg (fun q => BitVec.getLsbD q 0) this
      simpa using h4
    · intro h
      apply Int32.toBitVec_inj.mp
      show w.toBitVec &&& 1#32 = 0#32
      rw [BitVec.and_one_eq_setWidth_ofBool_getLsbD, h]
      rfl
  by_cases c : w &&& 1 = 0
  · rw [if_pos c, h1, h2.mp c]
    simp
  · have c' : w.toBitVec.getLsbD 0 = true := by
      cases hq : w.toBitVec.getLsbD 0 with
      | false => exact absurd (h2.mpr hq) c
      | true => rfl
    rw [if_neg c, c']
    show (zUshr w 1).toBitVec ^^^ 0x82F63B78#32 = _
    rw [h1]
    simp
theorem kT : ∀ n, n < 16 → kS (kS (kS (kS (BitVec.ofNat 32 n)))) = (zRem n).toBitVec := by decide +kernel
/-- four steps at once -/
theorem kS4_T (w : Int32) : kS (kS (kS (kS w.toBitVec))) = (zUshr w 4 ^^^ zRem (w &&& 15).toNatClampNeg).toBitVec := by
  obtain ⟨n, hn, e⟩ : ∃ n : Nat, n < 16 ∧ w &&& 15 = nI n := by
    have h := zin15 w
    rw [vp_in_iff] at h
    obtain ⟨n, hn, e, en⟩ := znI_ex (x := w &&& 15) (by omega)
    exact ⟨n, by omega, e⟩
  have e1 : w.toBitVec &&& 15#32 = BitVec.ofNat 32 n := by
    have := congrArg Int32.toBitVec e
    exact this
  have e2 : (nI n).toNatClampNeg = n := by
    have h1 := nI_toInt (n := n) (by omega)
    have h2 := zclamp (x := nI n) (by omega)
    omega
  rw [kS4, e1, kT n hn, e, e2]
  rfl
/-- a byte by two looks into the table -/
def kwb (c q : Int32) : Int32 := (zUshr ((zUshr c 4) ^^^ (zRem (((c ^^^ q) &&& 15)).toNatClampNeg)) 4) ^^^ (zRem (((((zUshr c 4) ^^^ (zRem (((c ^^^ q) &&& 15)).toNatClampNeg)) ^^^ (zUshr q 4)) &&& 15)).toNatClampNeg)
theorem kus_xor (a b : Int32) : zUshr (a ^^^ b) 4 = zUshr a 4 ^^^ zUshr b 4 := by
  apply Int32.toBitVec_inj.mp
  show (a.toBitVec ^^^ b.toBitVec) >>> 4 = (a.toBitVec >>> 4) ^^^ (b.toBitVec >>> 4)
  exact BitVec.ushiftRight_xor_distrib _ _ _
theorem kus_0 : ∀ n, n < 256 → zUshr (zUshr (nI n) 4) 4 = 0 := by decide +kernel
theorem kcrc (c x : Int32) (hx : 0 ≤ x.toInt ∧ x.toInt ≤ 255) : kwb c x = f_X6_more c x := by
  have hm : (f_X6_more c x).toBitVec = kS (kS (kS (kS (kS (kS (kS (kS (c ^^^ x).toBitVec))))))) := by
    have e : f_X6_more c x = b_X6_more (nI 7) (b_X6_more (nI 6) (b_X6_more (nI 5) (b_X6_more (nI 4) (b_X6_more (nI 3) (b_X6_more (nI 2) (b_X6_more (nI 1) (b_X6_more (nI 0) (c ^^^ x)))))))) := rfl
    rw [e]
    simp only [kS_more]
  obtain ⟨n, hn, rfl, en⟩ := znI_ex hx.1
  have h0 := kus_0 n (by omega)
  apply Int32.toBitVec_inj.mp
  rw [hm, kS4_T, kS4_T, kus_xor (zUshr (c ^^^ nI n) 4), kus_xor c, kus_xor (zUshr c 4), h0]
  unfold kwb
  congr 1
  rw [Int32.xor_zero]
  rw [kus_xor]
  rw [Int32.xor_assoc (zUshr c 4) (zUshr (nI n) 4), Int32.xor_comm (zUshr (nI n) 4), ← Int32.xor_assoc (zUshr c 4) _ (zUshr (nI n) 4)]
theorem qnar (v : Int32) : (vp_nar .byte (v.toInt8.toInt32)) &&& 255 = v &&& 255 := by
  have e : vp_nar .byte (v.toInt8.toInt32) = v.toInt8.toInt32.toInt8.toInt32 := rfl
  rw [e]
  apply Int32.toBitVec_inj.mp
  show (((v.toBitVec.signExtend 8).signExtend 32).signExtend 8).signExtend 32 &&& 255#32 = v.toBitVec &&& 255#32
  apply BitVec.eq_of_getLsbD_eq
  intro i hi
  simp only [BitVec.getLsbD_and]
  by_cases h : i < 8
  · have : (255#32).getLsbD i = true := by
      have := (by decide : ∀ i, i < 8 → (255#32).getLsbD i = true)
      exact this i h
    simp only [BitVec.getLsbD_signExtend, hi, h, decide_true, Bool.true_and, if_true]
  · have : (255#32).getLsbD i = false := by
      have := (by decide : ∀ i, i < 32 → ¬ i < 8 → (255#32).getLsbD i = false)
      exact this i hi h
    rw [this]
    simp
def qB (F MB : Nat → Int32) (m : Int32) : Prop := ∀ j : Nat, (j : Int) < m.toInt → F j &&& 255 = MB j
theorem qB_0 {F MB : Nat → Int32} : qB F MB 0 := fun j hj => by
  have o0 : (0 : Int32).toInt = 0 := rfl
  omega
theorem qB_le {F MB : Nat → Int32} {m n : Int32} (h : qB F MB m) (hn : n.toInt ≤ m.toInt) : qB F MB n := fun j hj => h j (by omega)
theorem qB_add {N : Nat} {F MB : Nat → Int32} {m v w : Int32} (h : qB F MB m) (hm : zroom N 1 m) (hv : v &&& 255 = w) : qB (f_X3_add N F m v).1 (upd MB m.toNatClampNeg w) (m + 1) := by
  obtain ⟨m1, m2, m3⟩ := hm
  have o1 : (1 : Int32).toInt = 1 := rfl
  have e : (m + 1).toInt = m.toInt + 1 := by rw [zadd] <;> rw [o1] <;> omega
  have hc := zclamp m1
  have hN : ¬ nI N ≤ m := by
    rw [Int32.le_iff_toInt_le, nI_toInt m3]
    omega
  unfold f_X3_add
  rw [if_neg hN]
  intro j hj
  show upd F m.toNatClampNeg _ j &&& 255 = upd MB m.toNatClampNeg w j
  unfold upd
  by_cases c : j = m.toNatClampNeg
  · rw [if_pos c, if_pos c, qnar, hv]
  · rw [if_neg c, if_neg c]
    exact h j (by omega)
theorem qshr (x : Int32) : (zUshr x 24 &&& 255 = (x >>> ((24 : Int32) &&& 31)) &&& 255) ∧ (zUshr x 16 &&& 255 = (x >>> ((16 : Int32) &&& 31)) &&& 255) ∧ (zUshr x 8 &&& 255 = (x >>> ((8 : Int32) &&& 31)) &&& 255) ∧ (zUshr x 0 &&& 255 = (x >>> ((0 : Int32) &&& 31)) &&& 255) := by
  have key : ∀ s : Nat, s ≤ 24 → (x.toBitVec >>> s) &&& 255#32 = (x.toBitVec.sshiftRight s) &&& 255#32 := by
    intro s hs
    apply BitVec.eq_of_getLsbD_eq
    intro i hi
    simp only [BitVec.getLsbD_and]
    by_cases h : i < 8
    · simp only [BitVec.getLsbD_ushiftRight, BitVec.getLsbD_sshiftRight]
      simp [show ¬ 32 ≤ i by omega, show s + i < 32 by omega]
    · have : (255#32).getLsbD i = false := by
        have := (by decide : ∀ i, i < 32 → ¬ i < 8 → (255#32).getLsbD i = false)
        exact this i hi h
      rw [this]
      simp
  refine ⟨?_, ?_, ?_, ?_⟩
  · exact Int32.toBitVec_inj.mp (key 24 (by decide))
  · exact Int32.toBitVec_inj.mp (key 16 (by decide))
  · exact Int32.toBitVec_inj.mp (key 8 (by decide))
  · exact Int32.toBitVec_inj.mp (key 0 (by decide))
theorem qmod4 : ∀ k, k < 16 → zMod (nI k) 4 = nI (k % 4) := by decide +kernel
theorem qsh_i (x : Int32) : ∀ i : Nat, i < 4 → zUshr x (24 - (8 * nI i)) &&& 255 = (x >>> (((24 - (8 * nI i)) : Int32) &&& 31)) &&& 255 := by
  intro i hi
  obtain ⟨h1, h2, h3, h4⟩ := qshr x
  have : i = 0 ∨ i = 1 ∨ i = 2 ∨ i = 3 := by omega
  rcases this with rfl | rfl | rfl | rfl
  · exact h1
  · exact h2
  · exact h3
  · exact h4
def qword (pa pb pc pd : Int32) (w : Nat) : Int32 := match w with | 0 => pa | 1 => pb | 2 => pc | _ => pd
theorem qbf {pa pb pc pd : Int32} {U : Nat → Int32} {m : Int32} : ∀ w i : Nat, w < 4 → i < 4 → b_X6_feed pa pb pc pd (nI (4 * w + i)) (U, m) = (upd U m.toNatClampNeg ((qword pa pb pc pd w >>> (((24 - (8 * nI i)) : Int32) &&& 31)) &&& 255), m + 1) := by
  intro w i hw hi
  have e : zMod (nI (4 * w + i)) 4 = nI i := by rw [qmod4 _ (by omega)]; congr 1; omega
  have hc : ∀ c : Nat, c < 100 → (((nI c) ≤ nI (4 * w + i)) ↔ c ≤ 4 * w + i) := by
    intro c hcc
    rw [Int32.le_iff_toInt_le, nI_toInt (by omega), nI_toInt (by omega)]
    omega
  have c4 : ((4 : Int32) ≤ nI (4 * w + i)) ↔ 4 ≤ 4 * w + i := hc 4 (by decide)
  have c8 : ((8 : Int32) ≤ nI (4 * w + i)) ↔ 8 ≤ 4 * w + i := hc 8 (by decide)
  have c12 : ((12 : Int32) ≤ nI (4 * w + i)) ↔ 12 ≤ 4 * w + i := hc 12 (by decide)
  have hw' : w = 0 ∨ w = 1 ∨ w = 2 ∨ w = 3 := by omega
  unfold b_X6_feed
  dsimp only
  rw [e]
  rcases hw' with rfl | rfl | rfl | rfl
  · rw [if_neg (fun q => absurd (c4.mp q) (by omega))]; rfl
  · rw [if_pos (c4.mpr (by omega)), if_neg (fun q => absurd (c8.mp q) (by omega))]; rfl
  · rw [if_pos (c4.mpr (by omega)), if_pos (c8.mpr (by omega)), if_neg (fun q => absurd (c12.mp q) (by omega))]; rfl
  · rw [if_pos (c4.mpr (by omega)), if_pos (c8.mpr (by omega)), if_pos (c12.mpr (by omega))]; rfl
/-- a word's bytes, class against reference -/
theorem qfw {pa pb pc pd : Int32} {MU : Nat → Int32} {bs : Int32} {w : Nat} (hw : w < 4) {F : Nat → Int32} {m : Int32} {k : Nat} (hk : k ≤ 4) (hm : m = (lp_X6_feed pa pb pc pd (MU, bs) (4 * w)).2) (hr : zroom 400 k m) (h : qB F (lp_X6_feed pa pb pc pd (MU, bs) (4 * w)).1 m) : ∀ i, i ≤ k → (lp_X5_feedFrom (qword pa pb pc pd w) (F, m) i).2 = (lp_X6_feed pa pb pc pd (MU, bs) (4 * w + i)).2 ∧ qB (lp_X5_feedFrom (qword pa pb pc pd w) (F, m) i).1 (lp_X6_feed pa pb pc pd (MU, bs) (4 * w + i)).1 (lp_X5_feedFrom (qword pa pb pc pd w) (F, m) i).2 := by
  intro i
  induction i with
  | zero => intro _; exact ⟨hm, h⟩
  | succ i ih =>
    intro hi
    obtain ⟨e1, e2⟩ := ih (by omega)
    have e0 := zff_lp (x := qword pa pb pc pd w) (F := F) hr i (by omega)
    have hr1 := zroom_nI hr (show i ≤ k by omega)
    rw [← e0] at hr1
    show (b_X5_feedFrom (qword pa pb pc pd w) (nI i) (lp_X5_feedFrom (qword pa pb pc pd w) (F, m) i)).2 = (b_X6_feed pa pb pc pd (nI (4 * w + i)) (lp_X6_feed pa pb pc pd (MU, bs) (4 * w + i))).2 ∧ qB (b_X5_feedFrom (qword pa pb pc pd w) (nI i) (lp_X5_feedFrom (qword pa pb pc pd w) (F, m) i)).1 (b_X6_feed pa pb pc pd (nI (4 * w + i)) (lp_X6_feed pa pb pc pd (MU, bs) (4 * w + i))).1 (b_X5_feedFrom (qword pa pb pc pd w) (nI i) (lp_X5_feedFrom (qword pa pb pc pd w) (F, m) i)).2
    generalize lp_X5_feedFrom (qword pa pb pc pd w) (F, m) i = T1 at e1 e2 hr1 ⊢
    generalize lp_X6_feed pa pb pc pd (MU, bs) (4 * w + i) = T2 at e1 e2 ⊢
    obtain ⟨F1, m1⟩ := T1
    obtain ⟨U1, u1⟩ := T2
    dsimp only at e1 e2 hr1
    subst e1
    rw [qbf w i hw (by omega)]
    have hr2 : zroom 400 1 m1 := zroom_le hr1 (by omega)
    have hb := qB_add (N := 400) (w := (qword pa pb pc pd w >>> (((24 - (8 * nI i)) : Int32) &&& 31)) &&& 255) e2 hr2 (qsh_i (qword pa pb pc pd w) i (by omega))
    have hm2 := zadd_m (F := F1) (v := zUshr (qword pa pb pc pd w) (24 - (8 * nI i))) hr2
    exact ⟨hm2, hm2 ▸ hb⟩
theorem qff0 {F : Nat → Int32} {m x v : Int32} (h : v.toNatClampNeg = 0) : f_X5_feedFrom F m x v = (F, m) := by
  unfold f_X5_feedFrom
  rw [h]
  rfl
theorem qff_lp {F : Nat → Int32} {m x v : Int32} : f_X5_feedFrom F m x v = lp_X5_feedFrom x (F, m) v.toNatClampNeg := by
  unfold f_X5_feedFrom
  generalize lp_X5_feedFrom x (F, m) v.toNatClampNeg = T
  obtain ⟨F1, m1⟩ := T
  rfl
theorem qcnt : ∀ k, k < 17 → (zMin (nI k) 4).toNatClampNeg = min k 4 ∧ (zMin (nI k - 4) 4).toNatClampNeg = min (k - 4) 4 ∧ (zMin (nI k - 8) 4).toNatClampNeg = min (k - 8) 4 ∧ (zMin (nI k - 12) 4).toNatClampNeg = min (k - 12) 4 := by decide +kernel
/-- one word: from min k (4 w) bytes to min k (4 (w + 1)) -/
theorem qfw1 {pa pb pc pd : Int32} {MU : Nat → Int32} {bs : Int32} {w k : Nat} (hw : w < 4) {F G : Nat → Int32} {m g v : Int32} (hv : v.toNatClampNeg = min (k - 4 * w) 4) (hr0 : zroom 400 k bs) (hm : m = (lp_X6_feed pa pb pc pd (MU, bs) (min k (4 * w))).2) (h : qB F (lp_X6_feed pa pb pc pd (MU, bs) (min k (4 * w))).1 m) (e : f_X5_feedFrom F m (qword pa pb pc pd w) v = (G, g)) : g = (lp_X6_feed pa pb pc pd (MU, bs) (min k (4 * (w + 1)))).2 ∧ qB G (lp_X6_feed pa pb pc pd (MU, bs) (min k (4 * (w + 1)))).1 g := by
  by_cases hk : k ≤ 4 * w
  · rw [qff0 (by rw [hv]; omega)] at e
    cases e
    rw [show min k (4 * (w + 1)) = min k (4 * w) by omega]
    exact ⟨hm, h⟩
  · rw [show min k (4 * w) = 4 * w by omega] at hm h
    have e4 := zmf_lp (pa := pa) (pb := pb) (pc := pc) (pd := pd) (U := MU) (m := bs) (4 * w)
    have hr : zroom 400 (k - 4 * w) m := by rw [hm, e4]; exact zroom_nI hr0 (by omega)
    rw [qff_lp, hv] at e
    have := qfw (k := min (k - 4 * w) 4) hw (by omega) hm (zroom_le hr (by omega)) h (min (k - 4 * w) 4) (Nat.le_refl _)
    rw [e] at this
    rw [show min k (4 * (w + 1)) = 4 * w + min (k - 4 * w) 4 by omega]
    exact this
theorem qB_feed {Bf MU U1 : Nat → Int32} {bm bs v pa pb pc pd r ft b1 : Int32} (hb : zok 400 bm) (h : bm = bs) (hB : qB Bf MU bm) (hx : x_X5_feed bm v = none) (e : f_X6_feed MU bs v pa pb pc pd = (r, U1, ft, b1)) : qB (f_X5_feed Bf bm v pa pb pc pd).2.1 U1 (f_X5_feed Bf bm v pa pb pc pd).2.2 := by
  subst h
  obtain ⟨h3, h4, h5, hv, hr⟩ := qx_feed0 hb hx
  obtain ⟨g1, g2, g3⟩ := hb
  have h1 : ¬ f_X6_isIn v 0 16 = 0 := qisIn1 (Int32.not_lt.mp h3) h4
  have h2 : bm + v ≤ 400 := by
    have o4 : (400 : Int32).toInt = 400 := rfl
    rw [Int32.le_iff_toInt_le, zadd (by omega) (by omega), o4]
    omega
  have hc := zclamp hv.1
  unfold f_X6_feed at e
  rw [if_neg h1, if_pos h2] at e
  unfold f_X5_feed
  rw [if_neg h3, if_pos h4, if_neg h5]
  have e0 : v = nI v.toNatClampNeg := (znI_clamp hv.1).symm
  generalize hk : v.toNatClampNeg = k at *
  subst e0
  obtain ⟨k1, k2, k3, k4⟩ := qcnt k (by omega)
  have hr0 : zroom 400 k bm := ⟨g1, by omega, by decide⟩
  generalize hT1 : f_X5_feedFrom Bf bm pa (zMin (nI k) 4) = T1
  obtain ⟨G1, m1⟩ := T1
  dsimp only
  obtain ⟨a1, b1'⟩ := qfw1 (pa := pa) (pb := pb) (pc := pc) (pd := pd) (MU := MU) (bs := bm) (w := 0) (k := k) (by decide) k1 hr0 (m := bm) (F := Bf) (by rw [show min k (4 * 0) = 0 by omega]; rfl) (by rw [show min k (4 * 0) = 0 by omega]; exact hB) hT1
  generalize hT2 : f_X5_feedFrom G1 m1 pb (zMin (nI k - 4) 4) = T2
  obtain ⟨G2, m2⟩ := T2
  dsimp only
  obtain ⟨a2, b2⟩ := qfw1 (pa := pa) (pb := pb) (pc := pc) (pd := pd) (MU := MU) (bs := bm) (w := 1) (k := k) (by decide) k2 hr0 a1 b1' hT2
  generalize hT3 : f_X5_feedFrom G2 m2 pc (zMin (nI k - 8) 4) = T3
  obtain ⟨G3, m3⟩ := T3
  dsimp only
  obtain ⟨a3, b3⟩ := qfw1 (pa := pa) (pb := pb) (pc := pc) (pd := pd) (MU := MU) (bs := bm) (w := 2) (k := k) (by decide) k3 hr0 a2 b2 hT3
  generalize hT4 : f_X5_feedFrom G3 m3 pd (zMin (nI k - 12) 4) = T4
  obtain ⟨G4, m4⟩ := T4
  dsimp only
  obtain ⟨a4, b4⟩ := qfw1 (pa := pa) (pb := pb) (pc := pc) (pd := pd) (MU := MU) (bs := bm) (w := 3) (k := k) (by decide) k4 hr0 a3 b3 hT4
  rw [show min k (4 * (3 + 1)) = k by omega] at b4
  generalize lp_X6_feed pa pb pc pd (MU, bm) k = T at e b4
  obtain ⟨U2, n2⟩ := T
  dsimp only at e
  cases e
  exact b4
theorem qat {F MB : Nat → Int32} {m : Int32} (h : qB F MB m) (h0 : 0 ≤ m.toInt) {i : Nat} (hi : (i : Int) < m.toInt) (hm : m.toInt ≤ 4096) : f_X3_at F m (nI i) = MB i := by
  have e := nI_toInt (n := i) (by omega)
  have hc := zclamp (x := nI i) (by omega)
  have o0 : (0 : Int32).toInt = 0 := rfl
  unfold f_X3_at
  rw [if_neg (by rw [Int32.lt_iff_toInt_lt, e, o0]; omega), if_neg (by rw [Int32.le_iff_toInt_le, e]; omega)]
  rw [show (nI i).toNatClampNeg = i by omega]
  exact h i hi
theorem qbyte {F MB : Nat → Int32} {m : Int32} (h : qB F MB m) {i : Nat} (hi : (i : Int) < m.toInt) : 0 ≤ (MB i).toInt ∧ (MB i).toInt ≤ 255 := by
  rw [← h i hi]
  exact zand255 _
/-- the check of a piece: class against reference -/
theorem qsum {F MU : Nat → Int32} {m q x v : Int32} (h : qB F MU m) (hm : zok 400 m) (hx : 0 ≤ x.toInt) (hv : 0 ≤ v.toInt) (hxv : x.toInt + v.toInt ≤ m.toInt) (hq : 0 ≤ q.toInt ∧ q.toInt ≤ 255) : f_X4_of F m q x v = f_X6_checkOf MU q x v := by
  obtain ⟨m1, m2, m3⟩ := id hm
  have hc := zclamp hv
  have hcx := zclamp hx
  have lp : ∀ c i, i ≤ v.toNatClampNeg → lp_X4_of F m x c i = lp_X6_checkOf MU x c i := by
    intro c i
    induction i with
    | zero => intro _; rfl
    | succ i ih =>
      intro hi
      have ih' := ih (by omega)
      show b_X4_of F m x (nI i) (lp_X4_of F m x c i) = b_X6_checkOf MU x (nI i) (lp_X6_checkOf MU x c i)
      rw [ih']
      generalize lp_X6_checkOf MU x c i = w
      have ex : x + nI i = nI (x.toNatClampNeg + i) := by rw [← nI_add, znI_clamp hx]
      have hat : f_X3_at F m (x + nI i) = MU (x.toNatClampNeg + i) := by rw [ex]; exact qat h m1 (by omega) (by omega)
      have hn : (x + nI i).toNatClampNeg = x.toNatClampNeg + i := by
        have e1 := nI_toInt (n := x.toNatClampNeg + i) (by omega)
        have e2 := zclamp (x := nI (x.toNatClampNeg + i)) (by omega)
        rw [ex]
        omega
      have hb := qbyte h (i := x.toNatClampNeg + i) (by omega)
      have k := kcrc w (MU (x.toNatClampNeg + i)) hb
      show kwb w (f_X3_at F m (x + nI i)) = f_X6_more w (MU (x + nI i).toNatClampNeg)
      rw [hat, hn]
      exact k
  have k0 := kcrc (-1) q hq
  have e : f_X4_of F m q x v = (((zUshr ((lp_X4_of F m x (kwb (-1) q) (v).toNatClampNeg) ^^^ (-1)) 15) ||| (((lp_X4_of F m x (kwb (-1) q) (v).toNatClampNeg) ^^^ (-1)) <<< ((17 : Int32) &&& 31))) + (-1568478504)) := rfl
  rw [e, k0, lp _ _ (Nat.le_refl _)]
  rfl
section
variable {Bf MU U1 : Nat → Int32} {bm bs v pa pb pc pd r ft b1 : Int32}
theorem rU_feed_0 (hb : zok 400 bm) (h : bm = bs) (hB : qB Bf MU bm) (hx : x_X5_feed bm v = none) (e : f_X6_feed MU bs v pa pb pc pd = (r, U1, ft, b1)) : qB (f_X5_feed Bf bm v pa pb pc pd).2.1 U1 (f_X5_feed Bf bm v pa pb pc pd).2.2 := qB_feed hb h hB hx e
theorem rU_feed_1 (_ : zok 400 bm) (_ : bm = bs) (hB : qB Bf MU bm) (hx : x_X5_feed bm v = some zIAE) (e : f_X6_feed MU bs v pa pb pc pd = (r, U1, ft, b1)) : qB Bf U1 bm := by
  unfold f_X6_feed at e
  rw [if_pos (qx_feed1 hx)] at e
  cases e
  exact hB
theorem rU_feed_2 (hb : zok 400 bm) (h : bm = bs) (hB : qB Bf MU bm) (hx : x_X5_feed bm v = some zISE) (e : f_X6_feed MU bs v pa pb pc pd = (r, U1, ft, b1)) : qB Bf U1 bm := by
  subst h
  obtain ⟨c1, c2⟩ := qx_feed2 hb hx
  unfold f_X6_feed at e
  rw [if_neg c1, if_neg c2] at e
  cases e
  exact hB
theorem rU_erase (hb : zok 400 bm) (_ : bm = bs) (_ : qB Bf MU bm) (e : f_X5_erase bm = (r, b1)) : qB Bf MU b1 := by
  unfold f_X5_erase at e
  cases e
  rw [qshort0 hb]
  exact qB_0
end
/-- two loops that put a byte at a time, class against reference -/
theorem qB_loop {N k : Nat} {F MB : Nat → Int32} {m : Int32} (L1 L2 : Nat → (Nat → Int32) × Int32) (v w : Nat → Int32) (a1 : L1 0 = (F, m)) (a2 : L2 0 = (MB, m))
    (s1 : ∀ i, L1 (i + 1) = f_X3_add N (L1 i).1 (L1 i).2 (v i)) (s2 : ∀ i, L2 (i + 1) = (upd (L2 i).1 (L2 i).2.toNatClampNeg (w i), (L2 i).2 + 1))
    (hr : zroom N k m) (hv : ∀ i, i < k → v i &&& 255 = w i) (h : qB F MB m) : ∀ i, i ≤ k → (L1 i).2 = m + nI i ∧ (L2 i).2 = m + nI i ∧ qB (L1 i).1 (L2 i).1 (m + nI i) := by
  intro i
  induction i with
  | zero =>
    intro _
    rw [a1, a2, show m + nI 0 = m from Int32.add_zero m]
    exact ⟨rfl, rfl, h⟩
  | succ i ih =>
    intro hi
    obtain ⟨e1, e2, e3⟩ := ih (by omega)
    have hr1 := zroom_le (zroom_nI hr (show i ≤ k by omega)) (show 1 ≤ k - i by omega)
    have en : m + nI (i + 1) = (m + nI i) + 1 := by
      rw [← nI_add, ← Int32.add_assoc]
      rfl
    rw [s1, s2, e1, e2, en]
    exact ⟨zadd_m hr1, rfl, qB_add e3 hr1 (hv i (by omega))⟩
theorem qsh8 (x : Int32) : ∀ i : Nat, i < 4 → zUshr x (8 * nI i) &&& 255 = (x >>> (((8 * nI i) : Int32) &&& 31)) &&& 255 := by
  intro i hi
  obtain ⟨h1, h2, h3, h4⟩ := qshr x
  have : i = 0 ∨ i = 1 ∨ i = 2 ∨ i = 3 := by omega
  rcases this with rfl | rfl | rfl | rfl
  · exact h4
  · exact h3
  · exact h2
  · exact h1
theorem qsh0 (x : Int32) : (x >>> ((0 : Int32) &&& 31)) = x := Int32.toBitVec_inj.mp (show x.toBitVec.sshiftRight 0 = x.toBitVec by simp)
theorem qush0 (y : Int32) : zUshr 0 y = 0 := by
  unfold zUshr
  have : ((0 : Int32).toUInt32 >>> (y.toUInt32 &&& Int32.toUInt32 31)) = 0 := by
    rw [show (0 : Int32).toUInt32 = 0 from rfl]
    simp
  rw [this]
  rfl
section
variable {F F2 MB MU : Nat → Int32} {m m2 x v q : Int32} {k : Nat}
theorem qB_lf (hk : k ≤ 4) (hr : zroom 4096 k m) (h : qB F MB m) : (lp_X3_addLowestFirst 4096 x (F, m) k).2 = m + nI k ∧ (lpa_X6_putFragment x (MB, m) k).2 = m + nI k ∧ qB (lp_X3_addLowestFirst 4096 x (F, m) k).1 (lpa_X6_putFragment x (MB, m) k).1 (m + nI k) :=
  qB_loop (fun i => lp_X3_addLowestFirst 4096 x (F, m) i) (fun i => lpa_X6_putFragment x (MB, m) i) (fun i => zUshr x (8 * nI i)) (fun i => (x >>> (((8 * nI i) : Int32) &&& 31)) &&& 255) rfl rfl (fun _ => rfl) (fun _ => rfl) hr (fun i hi => qsh8 x i (by omega)) h k (Nat.le_refl _)
theorem qB_fill (hr : zroom 4096 k m) (h : qB F MB m) : (lp_X3_addLowestFirst 4096 0 (F, m) k).2 = m + nI k ∧ (lpp_X6_append (MB, m) k).2 = m + nI k ∧ qB (lp_X3_addLowestFirst 4096 0 (F, m) k).1 (lpp_X6_append (MB, m) k).1 (m + nI k) :=
  qB_loop (fun i => lp_X3_addLowestFirst 4096 0 (F, m) i) (fun i => lpp_X6_append (MB, m) i) (fun i => zUshr 0 (8 * nI i)) (fun _ => 0 &&& 255) rfl rfl (fun _ => rfl) (fun _ => rfl) hr (fun i _ => by rw [qush0]) h k (Nat.le_refl _)
theorem qat2 (hU : qB F2 MU m2) (h2 : zok 400 m2) (hx : 0 ≤ x.toInt) {i : Nat} (hi : x.toInt + i < m2.toInt) : f_X3_at F2 m2 (x + nI i) = MU (x + nI i).toNatClampNeg := by
  obtain ⟨a1, a2, a3⟩ := id h2
  have hcx := zclamp hx
  have ex : x + nI i = nI (x.toNatClampNeg + i) := by rw [← nI_add, znI_clamp hx]
  have hn : (x + nI i).toNatClampNeg = x.toNatClampNeg + i := by
    have e1 := nI_toInt (n := x.toNatClampNeg + i) (by omega)
    have e2 := zclamp (x := nI (x.toNatClampNeg + i)) (by omega)
    rw [ex]
    omega
  rw [hn, ex]
  exact qat hU a1 (by omega) (by omega)
theorem qB_part (hU : qB F2 MU m2) (h2 : zok 400 m2) (hx : 0 ≤ x.toInt) (hv : 0 ≤ v.toInt) (hxv : x.toInt + v.toInt ≤ m2.toInt) (hr : zroom 4096 v.toNatClampNeg m) (h : qB F MB m) : (lp_X3_addPart 4096 F2 m2 x (F, m) v.toNatClampNeg).2 = m + nI v.toNatClampNeg ∧ (lpb_X6_putFragment MU x (MB, m) v.toNatClampNeg).2 = m + nI v.toNatClampNeg ∧ qB (lp_X3_addPart 4096 F2 m2 x (F, m) v.toNatClampNeg).1 (lpb_X6_putFragment MU x (MB, m) v.toNatClampNeg).1 (m + nI v.toNatClampNeg) :=
  qB_loop (fun i => lp_X3_addPart 4096 F2 m2 x (F, m) i) (fun i => lpb_X6_putFragment MU x (MB, m) i) (fun i => f_X3_at F2 m2 (x + nI i)) (fun i => MU (x + nI i).toNatClampNeg &&& 255) rfl rfl (fun _ => rfl) (fun _ => rfl) hr (fun i hi => by
    have hc := zclamp hv
    rw [qat2 hU h2 hx (by omega)]) h v.toNatClampNeg (Nat.le_refl _)
/-- a fragment's bytes, class against reference -/
theorem qB_frag (hU : qB F2 MU m2) (h2 : zok 400 m2) (hx : 0 ≤ x.toInt) (hv : 0 ≤ v.toInt) (hxv : x.toInt + v.toInt ≤ m2.toInt) (hq : 0 ≤ q.toInt ∧ q.toInt ≤ 255) (hr : zroom 4096 (7 + v.toNatClampNeg) m) (h : qB F MB m) : qB (f_X0_addFragment F F2 m m2 q x v).2.1 (f_X6_putFragment MB MU m q x v).1 ((m + 7) + v) := by
  have hc := zclamp hv
  obtain ⟨a, b, d⟩ := id hr
  have o7 : (7 : Int32).toInt = 7 := rfl
  have e7 : (7 + v).toInt = 7 + v.toInt := by rw [zadd] <;> rw [o7] <;> omega
  have hroom : ¬ f_X3_hasRoomFor 4096 m (7 + v) = 0 := fun e => by
    have := (zhr_room (zroom_ok hr) ⟨by omega, by omega⟩).mp e
    omega
  have e8 : m + nI 4 + 1 + 1 + 1 = m + 7 := by
    rw [Int32.add_assoc m, Int32.add_assoc m, Int32.add_assoc m]
    rfl
  unfold f_X0_addFragment f_X6_putFragment
  rw [if_neg hroom, qsum hU h2 hx hv hxv hq, show ((4 : Int32)).toNatClampNeg = 4 from rfl]
  generalize f_X6_checkOf MU q x v = ck
  have A := qB_lf (x := ck) (k := 4) (by decide) (zroom_le hr (by omega)) h
  have ea : f_X3_addLowestFirst 4096 F m ck 4 = lp_X3_addLowestFirst 4096 ck (F, m) 4 := rfl
  rw [ea]
  generalize lp_X3_addLowestFirst 4096 ck (F, m) 4 = T1 at A ⊢
  generalize lpa_X6_putFragment ck (MB, m) 4 = T2 at A ⊢
  obtain ⟨F1, m1⟩ := T1
  obtain ⟨B1, n1⟩ := T2
  dsimp only at A ⊢
  obtain ⟨a1, a2, a3⟩ := A
  subst a1
  subst a2
  have hr1 : zroom 4096 (3 + v.toNatClampNeg) (m + nI 4) := zroom_le (zroom_nI hr (show 4 ≤ _ by omega)) (by omega)
  have hr2 : zroom 4096 (1 + v.toNatClampNeg) (m + nI 4 + nI 2) := zroom_le (zroom_nI hr1 (show 2 ≤ _ by omega)) (by omega)
  have hr3 : zroom 4096 v.toNatClampNeg (m + nI 4 + nI 2 + nI 1) := zroom_le (zroom_nI hr2 (show 1 ≤ _ by omega)) (by omega)
  have B := qB_lf (x := v) (k := 2) (by decide) (zroom_le hr1 (by omega)) a3
  have eb : f_X3_addLowestFirst 4096 F1 (m + nI 4) v 2 = lp_X3_addLowestFirst 4096 v (F1, m + nI 4) 2 := rfl
  have ec : lpa_X6_putFragment v (B1, m + nI 4) 2 = (upd (upd B1 (m + nI 4).toNatClampNeg (v &&& 255)) (m + nI 4 + 1).toNatClampNeg ((v >>> ((8 : Int32) &&& 31)) &&& 255), m + nI 4 + 1 + 1) := by
    show (upd (upd B1 (m + nI 4).toNatClampNeg ((v >>> ((0 : Int32) &&& 31)) &&& 255)) (m + nI 4 + 1).toNatClampNeg ((v >>> ((8 : Int32) &&& 31)) &&& 255), m + nI 4 + 1 + 1) = _
    rw [qsh0]
  have en : m + nI 4 + nI 2 = m + nI 4 + 1 + 1 := by
    rw [Int32.add_assoc (m + nI 4) 1 1]
    rfl
  rw [ec] at B
  rw [eb]
  rw [en] at B hr2 hr3
  generalize lp_X3_addLowestFirst 4096 v (F1, m + nI 4) 2 = T3 at B ⊢
  obtain ⟨F3, m3⟩ := T3
  dsimp only at B ⊢
  obtain ⟨b1, b2, b3⟩ := B
  subst b1
  have C := qB_add (v := q) (w := q &&& 255) b3 (zroom_le hr2 (by omega)) rfl
  have cm := zadd_m (F := F3) (v := q) (zroom_le hr2 (show 1 ≤ _ by omega))
  generalize f_X3_add 4096 F3 (m + nI 4 + 1 + 1) q = T4 at C cm ⊢
  obtain ⟨F4, m4⟩ := T4
  dsimp only at C cm ⊢
  subst cm
  have D := qB_part (m := m + nI 4 + 1 + 1 + 1) hU h2 hx hv hxv hr3 C
  have ed : f_X3_addPart 4096 F4 F2 (m + nI 4 + 1 + 1 + 1) m2 x v = lp_X3_addPart 4096 F2 m2 x (F4, m + nI 4 + 1 + 1 + 1) v.toNatClampNeg := rfl
  rw [ed]
  rw [znI_clamp hv] at D
  generalize lp_X3_addPart 4096 F2 m2 x (F4, m + nI 4 + 1 + 1 + 1) v.toNatClampNeg = T5 at D ⊢
  generalize lpb_X6_putFragment MU x _ v.toNatClampNeg = T6 at D ⊢
  obtain ⟨F5, m5⟩ := T5
  obtain ⟨B5, n5⟩ := T6
  have D3 := D.2.2
  rw [e8] at D3
  exact D3
end
/-- a piece of the reference's append -/
def qMk (bq hb tk lf : Int32) : Int32 := if tk = lf then (if bq = 0 then (if hb = 0 then 1 else 4) else 4) else (if bq = 0 then (if hb = 0 then 2 else 3) else 3)
def qMs (MU : Nat → Int32) (z bs : Int32) (n : Nat) (bq tk : Int32) (MB : Nat → Int32) (al hb : Int32) : Int32 × (Nat → Int32) × Int32 × Int32 × Int32 :=
  match f_X6_putFragment MB MU al (qMk bq hb tk (bs - bq)) bq tk with
  | (B, a) => lp_X6_append MU z bs n (bq + tk) (if tk = bs - bq then 0 else 1) B a 1
theorem qMs_t {MU MB : Nat → Int32} {z bs bq tk al hb : Int32} {n : Nat} (c : tk = bs - bq) : qMs MU z bs n bq tk MB al hb = if bq = 0 then (if hb = 0 then (match f_X6_putFragment MB MU al 1 bq tk with | (B, a) => lp_X6_append MU z bs n (bq + tk) 0 B a 1) else (match f_X6_putFragment MB MU al 4 bq tk with | (B, a) => lp_X6_append MU z bs n (bq + tk) 0 B a 1)) else (match f_X6_putFragment MB MU al 4 bq tk with | (B, a) => lp_X6_append MU z bs n (bq + tk) 0 B a 1) := by
  unfold qMs qMk
  rw [if_pos c, if_pos c]
  by_cases c4 : bq = 0
  · rw [if_pos c4, if_pos c4]
    by_cases c5 : hb = 0
    · rw [if_pos c5, if_pos c5]
    · rw [if_neg c5, if_neg c5]
  · rw [if_neg c4, if_neg c4]
theorem qMs_f {MU MB : Nat → Int32} {z bs bq tk al hb : Int32} {n : Nat} (c : ¬ tk = bs - bq) : qMs MU z bs n bq tk MB al hb = if bq = 0 then (if hb = 0 then (match f_X6_putFragment MB MU al 2 bq tk with | (B, a) => lp_X6_append MU z bs n (bq + tk) 1 B a 1) else (match f_X6_putFragment MB MU al 3 bq tk with | (B, a) => lp_X6_append MU z bs n (bq + tk) 1 B a 1)) else (match f_X6_putFragment MB MU al 3 bq tk with | (B, a) => lp_X6_append MU z bs n (bq + tk) 1 B a 1) := by
  unfold qMs qMk
  rw [if_neg c, if_neg c]
  by_cases c4 : bq = 0
  · rw [if_pos c4, if_pos c4]
    by_cases c5 : hb = 0
    · rw [if_pos c5, if_pos c5]
    · rw [if_neg c5, if_neg c5]
  · rw [if_neg c4, if_neg c4]
theorem qma_a {MU MB : Nat → Int32} {z bs bq al hb : Int32} {n : Nat} (c1 : 7 ≤ (z - zMod al z)) : lp_X6_append MU z bs (n + 1) bq 1 MB al hb = qMs MU z bs n bq (zMin (bs - bq) ((z - zMod al z) - 7)) MB al hb := by
  rw [lp_X6_append, if_neg (show ¬ (1 : Int32) = 0 by decide), if_pos c1]
  by_cases c2 : ((z - zMod al z) - 7) ≤ (bs - bq)
  · rw [if_pos c2, qmin_c c2]
    by_cases c3 : ((z - zMod al z) - 7) = (bs - bq)
    · rw [if_pos c3, qMs_t c3]
    · rw [if_neg c3, qMs_f c3]
  · rw [if_neg c2, qmin_x c2, qMs_t rfl]
theorem qma_b {MU MB Bp : Nat → Int32} {z bs bq al hb ap : Int32} {n : Nat} (c1 : ¬ 7 ≤ (z - zMod al z)) (hp : lpp_X6_append (MB, al) (z - zMod al z).toNatClampNeg = (Bp, ap)) : lp_X6_append MU z bs (n + 1) bq 1 MB al hb = qMs MU z bs n bq (zMin (bs - bq) (z - 7)) Bp ap hb := by
  rw [lp_X6_append, if_neg (show ¬ (1 : Int32) = 0 by decide), if_neg c1, hp]
  dsimp only
  by_cases c2 : (z - 7) ≤ (bs - bq)
  · rw [if_pos c2, qmin_c c2]
    by_cases c3 : (z - 7) = (bs - bq)
    · rw [if_pos c3, qMs_t c3]
    · rw [if_neg c3, qMs_f c3]
  · rw [if_neg c2, qmin_x c2, qMs_t rfl]
section
variable {F2 MU : Nat → Int32} {z m2 : Int32}
theorem qfr {F MB : Nat → Int32} {b q dn tk : Int32} (hU : qB F2 MU m2) (h2 : zok 400 m2) (hd : 0 ≤ dn.toInt) (ht : 0 ≤ tk.toInt) (hdt : dn.toInt + tk.toInt ≤ m2.toInt) (hq : 0 ≤ q.toInt ∧ q.toInt ≤ 255) (hr : zroom 4096 (7 + tk.toNatClampNeg) b) (h : qB F MB b) : ∃ G B : Nat → Int32, f_X0_addFragment F F2 b m2 q dn tk = (1, G, (b + 7) + tk) ∧ f_X6_putFragment MB MU b q dn tk = (B, (b + 7) + tk) ∧ qB G B ((b + 7) + tk) := by
  obtain ⟨G, e1⟩ := zaf_1 (F := F) (F2 := F2) (m2 := m2) (q := q) (x := dn) hr ht
  have hf := qB_frag hU h2 hd ht hdt hq hr h
  generalize hT : f_X6_putFragment MB MU b q dn tk = T at hf
  obtain ⟨B, a⟩ := T
  have ha := zpf_al ht hT
  rw [e1] at hf
  subst ha
  exact ⟨G, B, e1, rfl, hf⟩
def qP (R : Int32 × (Nat → Int32) × Int32) (S : Int32 × (Nat → Int32) × Int32 × Int32 × Int32) : Prop := qB R.2.1 S.2.1 R.2.2
theorem qm0 {MB : Nat → Int32} {bs bq a h : Int32} {k : Nat} (hk : 1 ≤ k) : lp_X6_append MU z bs k bq 0 MB a h = (a, MB, 0, a, 0) := by
  cases k with
  | zero => omega
  | succ k => rw [lp_X6_append, if_pos rfl]
/-- a piece, class against reference -/
theorem qpB {F MB : Nat → Int32} {dn pv hb b tk : Int32} {n k : Nat} (hU : qB F2 MU m2) (h2 : zok 400 m2) (hb_ : zok 4096 b) (hd : 0 ≤ dn.toInt ∧ dn.toInt ≤ m2.toInt) (ht : 0 ≤ tk.toInt) (htl : tk.toInt ≤ m2.toInt - dn.toInt) (hr : b.toInt + 7 + tk.toInt ≤ 4096) (hk : 1 ≤ k)
    (hh : (pv = 0 ∧ dn = 0 ∧ hb = 0) ∨ (¬ pv = 0 ∧ ¬ hb = 0)) (h : qB F MB b)
    (ih : ¬ dn + tk = m2 → ∀ G B : Nat → Int32, qB G B ((b + 7) + tk) → qP (lp_X0_addPieces F2 z m2 n (dn + tk) (pv + 1) G ((b + 7) + tk)) (lp_X6_append MU z m2 k (dn + tk) 1 B ((b + 7) + tk) 1)) :
    qP (qEf F2 z m2 n dn pv F b tk) (qMs MU z m2 k dn tk MB b hb) := by
  obtain ⟨e1, e2, e3, e4⟩ := qend h2 hd ht htl
  have hc := zclamp ht
  have hrr : zroom 4096 (7 + tk.toNatClampNeg) b := ⟨hb_.1, by omega, by decide⟩
  have e5 : dn + tk = m2 ↔ tk = m2 - dn := by
    constructor
    · intro q; exact Int32.toInt_inj.mp (by have := congrArg Int32.toInt q; omega)
    · intro q; exact Int32.toInt_inj.mp (by have := congrArg Int32.toInt q; omega)
  have c10 : ¬ (1 : Int32) = 0 := by decide
  have fr := fun (q : Int32) (hq : 0 ≤ q.toInt ∧ q.toInt ≤ 255) => qfr (q := q) hU h2 hd.1 ht (by omega) hq hrr h
  unfold qEf
  by_cases he : dn + tk = m2
  · rw [if_pos he, qMs_t (e5.mp he)]
    rcases hh with ⟨p1, p2, p3⟩ | ⟨p1, p3⟩
    · obtain ⟨G, B, f1, f2, f3⟩ := fr 1 (by decide)
      rw [if_pos p1, if_pos p2, if_pos p3, show f_X0_kindOf 1 1 = 1 from rfl, f1, f2]
      dsimp only
      rw [if_neg c10, qm0 hk]
      exact f3
    · obtain ⟨G, B, f1, f2, f3⟩ := fr 4 (by decide)
      rw [if_neg p1, show f_X0_kindOf 0 1 = 4 from rfl, if_neg p3, ite_self, f1, f2]
      dsimp only
      rw [if_neg c10, qm0 hk]
      exact f3
  · rw [if_neg he, qMs_f (fun q => he (e5.mpr q))]
    rcases hh with ⟨p1, p2, p3⟩ | ⟨p1, p3⟩
    · obtain ⟨G, B, f1, f2, f3⟩ := fr 2 (by decide)
      rw [if_pos p1, if_pos p2, if_pos p3, show f_X0_kindOf 1 0 = 2 from rfl, f1, f2]
      dsimp only
      rw [if_neg c10]
      exact ih he G B f3
    · obtain ⟨G, B, f1, f2, f3⟩ := fr 3 (by decide)
      rw [if_neg p1, show f_X0_kindOf 0 0 = 3 from rfl, f1, f2]
      dsimp only
      rw [if_neg c10, if_neg p3, ite_self]
      exact ih he G B f3
theorem qbp (hz : zsz z) (h2 : zok 400 m2) (hU : qB F2 MU m2) : ∀ (n k : Nat) (dn pv : Int32) (F MB : Nat → Int32) (m hb : Int32), zok 4096 m → 0 ≤ dn.toInt ∧ dn.toInt ≤ m2.toInt → zap z k m (m2 - dn) 1 → qpv z n pv m (m2 - dn) → (lp_X6_appendedSize z k m (m2 - dn) 1).toInt ≤ 4096 → ((pv = 0 ∧ dn = 0 ∧ hb = 0) ∨ (¬ pv = 0 ∧ ¬ hb = 0)) → qB F MB m →
    qP (lp_X0_addPieces F2 z m2 n dn pv F m) (lp_X6_append MU z m2 k dn 1 MB m hb) := by
  intro n
  induction n with
  | zero =>
    intro k dn pv F MB m hb hm hd hp hv
    obtain ⟨v1, v2, v3⟩ := hv
    omega
  | succ n ih =>
    intro k dn pv F MB m hb hm hd hp hv hq hh h
    cases k with
    | zero => exact absurd (zap_z hp) id
    | succ k =>
    have c0 : ¬ (1 : Int32) = 0 := by decide
    obtain ⟨p1, p2, p3, p4, p5, p6, p7, p8, p9, p10, p11, p12, p13⟩ := zap_pl hz hp c0
    obtain ⟨l1, l2, l3, l4⟩ := zap_le hz hp hq c0
    have hk : 1 ≤ k := by
      have := zap_e (nn' := 0) (lf' := 0) hp c0
      cases k with
      | zero => exact absurd (zap_z this) id
      | succ k => omega
    obtain ⟨z1, z2⟩ := id hz
    obtain ⟨m1, m2', m3⟩ := id hm
    obtain ⟨v1, v2, v3⟩ := hv
    have o7 : (7 : Int32).toInt = 7 := rfl
    have o1 : (1 : Int32).toInt = 1 := rfl
    have o0 : (0 : Int32).toInt = 0 := rfl
    have e1 : (m2 - dn).toInt = m2.toInt - dn.toInt := by have := h2.2.1; rw [zsub] <;> omega
    have hpv : (pv + 1).toInt = pv.toInt + 1 := by rw [zadd] <;> rw [o1] <;> omega
    have hpn : ¬ (pv + 1) = 0 := fun q => by
      have := congrArg Int32.toInt q
      omega
    have hg : ¬ 400 < pv := by
      have o4 : (400 : Int32).toInt = 400 := rfl
      rw [Int32.lt_iff_toInt_lt, o4]
      omega
    rw [qlp_s, if_neg hg]
    by_cases c1 : 7 ≤ (z - zMod m z)
    · have c1' := c1
      rw [Int32.le_iff_toInt_le, o7] at c1'
      have hf : f_X0_fillBlock F z m = (1, F, m) := by
        unfold f_X0_fillBlock
        rw [qpl2', if_neg (Int32.not_lt.mpr c1)]
      rw [hf, qma_a c1]
      dsimp only
      rw [if_neg c0, qpl2']
      by_cases c2 : ((z - zMod m z) - 7) ≤ (m2 - dn)
      · have c2' := c2
        rw [Int32.le_iff_toInt_le] at c2'
        have l1' := l1 c1 c2
        rw [qmin_c c2]
        obtain ⟨_, e2, e3, e4⟩ := qend (tk := (z - zMod m z) - 7) h2 hd (by omega) (by omega)
        refine qpB hU h2 hm hd (by omega) (by omega) (by omega) hk hh h (fun he G B hGB => ?_)
        have he' : ¬ ((m2 - dn) - ((z - zMod m z) - 7)).toInt ≤ 0 := fun q => he (e4.mpr (Int32.le_iff_toInt_le.mpr q))
        rw [lp_X6_appendedSize, if_neg c0, if_pos c1, if_pos c2, if_neg (fun q => he (e4.mpr q)), ← zsub_add m2 dn ((z - zMod m z) - 7)] at hq
        refine ih k _ _ G B _ 1 ⟨by omega, by omega, by decide⟩ ⟨by omega, by omega⟩ (by rw [zsub_add]; exact zap_a hz hp c0 c1 c2 (fun q => he (e4.mpr q))) ⟨by omega, by omega, Or.inr ⟨by omega, by rw [zsub_add]; omega, ?_, ?_⟩⟩ hq (Or.inr ⟨hpn, c0⟩) hGB
        · rw [zsub_add, e2, hpv]
          rcases v3 with ⟨w1, w2⟩ | ⟨w1, w2, w3, w4⟩
          · omega
          · omega
        · rw [p10]; exact zmod_fill _ _
      · have c2' := c2
        rw [Int32.le_iff_toInt_le] at c2'
        have l2' := l2 c1 c2
        rw [qmin_x c2]
        obtain ⟨_, e2, e3, e4⟩ := qend (tk := m2 - dn) h2 hd (by omega) (by omega)
        have he0 : dn + (m2 - dn) = m2 := e4.mpr (by rw [zsub_self]; decide)
        exact qpB hU h2 hm hd (by omega) (by omega) (by omega) hk hh h (fun he => absurd he0 he)
    · have c1' := c1
      rw [Int32.le_iff_toInt_le, o7] at c1'
      have hrl : 0 ≤ (z - zMod m z).toInt := by omega
      have hrk := zclamp hrl
      have q4 : (m + (z - zMod m z)).toInt = m.toInt + (z.toInt - m.toInt % z.toInt) := by rw [zadd] <;> rw [p5] <;> omega
      have hle : m.toInt + (z.toInt - m.toInt % z.toInt) + 7 ≤ 4096 := by
        by_cases c2 : (z - 7) ≤ (m2 - dn)
        · have := l3 c1 c2; omega
        · have := l4 c1 c2; omega
      have hr : ¬ f_X3_hasRoomFor 4096 m (z - zMod m z) = 0 := fun q => by
        have := (zhr_room hm ⟨hrl, by omega⟩).mp q
        omega
      have A := qB_fill (k := (z - zMod m z).toNatClampNeg) ⟨m1, by omega, by decide⟩ h
      rw [znI_clamp hrl] at A
      have ea : f_X3_addLowestFirst 4096 F m 0 (z - zMod m z) = lp_X3_addLowestFirst 4096 0 (F, m) (z - zMod m z).toNatClampNeg := rfl
      generalize hT : lp_X3_addLowestFirst 4096 0 (F, m) (z - zMod m z).toNatClampNeg = T at A ea
      obtain ⟨G0, b0⟩ := T
      generalize hT2 : lpp_X6_append (MB, m) (z - zMod m z).toNatClampNeg = T2 at A
      obtain ⟨Bp, ap⟩ := T2
      obtain ⟨hb0, hap, hB0⟩ := A
      dsimp only at hb0 hap hB0
      have hf : f_X0_fillBlock F z m = (1, G0, b0) := by
        unfold f_X0_fillBlock
        rw [qpl2', if_pos (Int32.not_le.mp c1), if_neg hr, ea]
      have hok0 : zok 4096 b0 := ⟨by rw [hb0]; omega, by rw [hb0]; omega, by decide⟩
      have hmod : zMod b0 z = 0 := by
        have := zmodI hok0.1 hz
        rw [hb0, q4, zmod_fill] at this
        rw [hb0]
        exact Int32.toInt_inj.mp this
      rw [hf, qma_b c1 hT2]
      dsimp only
      rw [if_neg c0, qpl2', hmod, Int32.sub_zero]
      rw [hap, ← hb0]
      rw [← hb0] at hB0
      have hb0' : b0.toInt = m.toInt + (z.toInt - m.toInt % z.toInt) := by rw [hb0]; exact q4
      by_cases c2 : (z - 7) ≤ (m2 - dn)
      · have c2' := c2
        rw [Int32.le_iff_toInt_le] at c2'
        have l3' := l3 c1 c2
        rw [qmin_c c2]
        obtain ⟨_, e2, e3, e4⟩ := qend (tk := z - 7) h2 hd (by omega) (by omega)
        refine qpB hU h2 hok0 hd (by omega) (by omega) (by omega) hk hh hB0 (fun he G B hGB => ?_)
        have he' : ¬ ((m2 - dn) - (z - 7)).toInt ≤ 0 := fun q => he (e4.mpr (Int32.le_iff_toInt_le.mpr q))
        rw [lp_X6_appendedSize, if_neg c0, if_neg c1, if_pos c2, if_neg (fun q => he (e4.mpr q)), ← zsub_add m2 dn (z - 7), ← hb0] at hq
        rw [← hb0] at p12
        refine ih k _ _ G B _ 1 ⟨by omega, by omega, by decide⟩ ⟨by omega, by omega⟩ (by rw [zsub_add, hb0]; exact zap_b hz hp c0 c1 c2 (fun q => he (e4.mpr q))) ⟨by omega, by omega, Or.inr ⟨by omega, by rw [zsub_add]; omega, ?_, ?_⟩⟩ hq (Or.inr ⟨hpn, c0⟩) hGB
        · rw [zsub_add, e2, hpv]
          rcases v3 with ⟨w1, w2⟩ | ⟨w1, w2, w3, w4⟩
          · omega
          · omega
        · rw [p12, Int.add_emod_right]; exact zmod_fill _ _
      · have c2' := c2
        rw [Int32.le_iff_toInt_le] at c2'
        have l4' := l4 c1 c2
        rw [qmin_x c2]
        obtain ⟨_, e2, e3, e4⟩ := qend (tk := m2 - dn) h2 hd (by omega) (by omega)
        have he0 : dn + (m2 - dn) = m2 := e4.mpr (by rw [zsub_self]; decide)
        exact qpB hU h2 hok0 hd (by omega) (by omega) (by omega) hk hh hB0 (fun he => absurd he0 he)
end
/-- what lies below m0 is kept -/
def qK (F0 : Nat → Int32) (m0 : Int32) (R : (Nat → Int32) × Int32) : Prop := m0.toInt ≤ R.2.toInt ∧ R.2.toInt ≤ 4096 ∧ ∀ j : Nat, (j : Int) < m0.toInt → R.1 j = F0 j
section
variable {F0 F2 : Nat → Int32} {m0 m2 z : Int32}
theorem qK_add {R : (Nat → Int32) × Int32} {v : Int32} (h0 : 0 ≤ m0.toInt) (h : qK F0 m0 R) : qK F0 m0 (f_X3_add 4096 R.1 R.2 v) := by
  obtain ⟨F, m⟩ := R
  obtain ⟨h1, h2, h3⟩ := id h
  dsimp only at h1 h2 h3 ⊢
  unfold f_X3_add
  split
  · exact h
  · next c =>
    rw [Int32.le_iff_toInt_le, nI_toInt (by decide)] at c
    have o1 : (1 : Int32).toInt = 1 := rfl
    have e : (m + 1).toInt = m.toInt + 1 := by rw [zadd] <;> rw [o1] <;> omega
    have hc := zclamp (x := m) (by omega)
    refine ⟨by show m0.toInt ≤ (m + 1).toInt; omega, by show (m + 1).toInt ≤ 4096; omega, fun j hj => ?_⟩
    show upd F m.toNatClampNeg _ j = F0 j
    unfold upd
    rw [if_neg (by omega)]
    exact h3 j hj
theorem qK_lf {R : (Nat → Int32) × Int32} {x b : Int32} (h0 : 0 ≤ m0.toInt) (h : qK F0 m0 R) : qK F0 m0 (f_X3_addLowestFirst 4096 R.1 R.2 x b) := by
  have key : ∀ i, qK F0 m0 (lp_X3_addLowestFirst 4096 x (R.1, R.2) i) := by
    intro i
    induction i with
    | zero => exact h
    | succ i ih => exact qK_add h0 ih
  exact key b.toNatClampNeg
theorem qK_part {R : (Nat → Int32) × Int32} {x b : Int32} (h0 : 0 ≤ m0.toInt) (h : qK F0 m0 R) : qK F0 m0 (f_X3_addPart 4096 R.1 F2 R.2 m2 x b) := by
  have key : ∀ i, qK F0 m0 (lp_X3_addPart 4096 F2 m2 x (R.1, R.2) i) := by
    intro i
    induction i with
    | zero => exact h
    | succ i ih => exact qK_add h0 ih
  exact key b.toNatClampNeg
theorem qK_frag {F : Nat → Int32} {m q x v : Int32} (h0 : 0 ≤ m0.toInt) (h : qK F0 m0 (F, m)) : qK F0 m0 (f_X0_addFragment F F2 m m2 q x v).2 := by
  unfold f_X0_addFragment
  split
  · exact h
  · have h1 := qK_lf (x := f_X4_of F2 m2 q x v) (b := 4) h0 h
    dsimp only at h1
    generalize f_X3_addLowestFirst 4096 F m (f_X4_of F2 m2 q x v) 4 = T1 at h1
    obtain ⟨F1, m1⟩ := T1
    have h2 := qK_lf (x := v) (b := 2) h0 h1
    dsimp only at h2 ⊢
    generalize f_X3_addLowestFirst 4096 F1 m1 v 2 = T2 at h2
    obtain ⟨F2', m2'⟩ := T2
    have h3 := qK_add (v := q) h0 h2
    dsimp only at h3 ⊢
    generalize f_X3_add 4096 F2' m2' q = T3 at h3
    obtain ⟨F3, m3⟩ := T3
    exact qK_part h0 h3
theorem qK_fill {F : Nat → Int32} {m : Int32} (h0 : 0 ≤ m0.toInt) (h : qK F0 m0 (F, m)) : qK F0 m0 (f_X0_fillBlock F z m).2 := by
  unfold f_X0_fillBlock
  split
  · split
    · exact h
    · exact qK_lf (R := (F, m)) h0 h
  · exact h
theorem qK_piece {F : Nat → Int32} {m dn pv tk : Int32} {n : Nat} (h0 : 0 ≤ m0.toInt) (h : qK F0 m0 (F, m)) (ih : ∀ (G : Nat → Int32) (g : Int32), qK F0 m0 (G, g) → qK F0 m0 (lp_X0_addPieces F2 z m2 n (dn + tk) (pv + 1) G g).2) : qK F0 m0 (qEf F2 z m2 n dn pv F m tk).2 := by
  have fr := fun q : Int32 => qK_frag (F2 := F2) (m2 := m2) (q := q) (x := dn) (v := tk) h0 h
  unfold qEf
  by_cases he : dn + tk = m2
  · rw [if_pos he]
    by_cases hp : pv = 0
    · rw [if_pos hp]
      have f1 := fr (f_X0_kindOf 1 1)
      generalize f_X0_addFragment F F2 m m2 (f_X0_kindOf 1 1) dn tk = T at f1
      obtain ⟨r, G, g⟩ := T
      dsimp only
      split <;> exact f1
    · rw [if_neg hp]
      have f1 := fr (f_X0_kindOf 0 1)
      generalize f_X0_addFragment F F2 m m2 (f_X0_kindOf 0 1) dn tk = T at f1
      obtain ⟨r, G, g⟩ := T
      dsimp only
      split <;> exact f1
  · rw [if_neg he]
    by_cases hp : pv = 0
    · rw [if_pos hp]
      have f1 := fr (f_X0_kindOf 1 0)
      generalize f_X0_addFragment F F2 m m2 (f_X0_kindOf 1 0) dn tk = T at f1
      obtain ⟨r, G, g⟩ := T
      dsimp only
      split
      · exact f1
      · exact ih G g f1
    · rw [if_neg hp]
      have f1 := fr (f_X0_kindOf 0 0)
      generalize f_X0_addFragment F F2 m m2 (f_X0_kindOf 0 0) dn tk = T at f1
      obtain ⟨r, G, g⟩ := T
      dsimp only
      split
      · exact f1
      · exact ih G g f1
theorem qK_pieces (h0 : 0 ≤ m0.toInt) : ∀ (n : Nat) (dn pv : Int32) (F : Nat → Int32) (m : Int32), pv.toInt + n = 402 → 0 ≤ pv.toInt → pv.toInt ≤ 401 → qK F0 m0 (F, m) → qK F0 m0 (lp_X0_addPieces F2 z m2 n dn pv F m).2 := by
  intro n
  induction n with
  | zero => intro dn pv F m h1 h2 h3; omega
  | succ n ih =>
    intro dn pv F m h1 h2 h3 h
    have o1 : (1 : Int32).toInt = 1 := rfl
    have o4 : (400 : Int32).toInt = 400 := rfl
    have hpv : (pv + 1).toInt = pv.toInt + 1 := by rw [zadd] <;> rw [o1] <;> omega
    rw [qlp_s]
    split
    · exact h
    · next c =>
      rw [Int32.lt_iff_toInt_lt, o4] at c
      have f1 := qK_fill (z := z) h0 h
      generalize f_X0_fillBlock F z m = T at f1
      obtain ⟨r, G, g⟩ := T
      dsimp only
      split
      · exact f1
      · exact qK_piece h0 f1 (fun G g hg => ih _ _ G g (by omega) (by omega) (by omega) hg)
end
theorem qB_K {F G MB : Nat → Int32} {m0 g : Int32} (h : qB F MB m0) (hk : qK F m0 (G, g)) : qB G MB m0 := fun j hj => by
  have e : G j = F j := hk.2.2 j hj
  rw [e]
  exact h j hj
section
variable {z al pl bg lo hs hf rs rf to tb v x r ft z1 al1 pl1 bg1 lo1 hs1 hf1 rs1 rf1 to1 tb1 Z pl0 bg0 lo0 dm da m bm bs hb h1 r1 m1 a1 r2 : Int32} {Bf F F1 MB MU B1 : Nat → Int32}
theorem qB_append (hz : zsz z) (hm : zok 4096 m) (hu : zok 400 bm) (ez : z = Z) (eb : bm = bs) (em : m = al) (hU : qB Bf MU bm) (hh : hb = 0) (hF : qB F MB m) (e1 : f_X5_append Bf F bm z m = (r1, F1, m1)) (e2 : f_X6_append MB MU Z al bs hb = (r2, B1, ft, a1, h1)) : qB F1 B1 m1 := by
  subst ez; subst eb; subst em
  have hz0 : bm - 0 = bm := Int32.sub_zero bm
  have hp : zap z 1000 m (bm - 0) 1 := by rw [hz0]; exact zap_i hz hm hu
  have hv : qpv z 402 0 m (bm - 0) := ⟨by decide, by decide, Or.inl ⟨by decide, by rw [hz0]; exact hu.2.1⟩⟩
  have hP := qpieces (F2 := Bf) hz hu 402 1000 0 0 F m hm ⟨by decide, hu.1⟩ hp hv
  unfold f_X6_append at e2
  unfold f_X5_append f_X0_addRecord f_X0_addPieces at e1
  by_cases c : f_X6_appendedSize z m bm ≤ 4096
  · have c' : (lp_X6_appendedSize z 1000 m (bm - 0) 1).toInt ≤ 4096 := by rw [hz0]; exact zapp_i rfl c
    rw [if_pos c] at e2
    have hB := qbp hz hu hU 402 1000 0 0 F MB m hb hm ⟨by decide, hu.1⟩ hp hv c' (Or.inl ⟨rfl, rfl, hh⟩) hF
    rw [e2] at hB
    generalize lp_X0_addPieces Bf z bm 402 0 0 F m = T at e1 hP hB
    obtain ⟨r3, F3, m3⟩ := T
    obtain ⟨q1, q2⟩ := hP.1 c'
    dsimp only at q1
    subst q1
    have e1' : (m3, F3, m3) = (r1, F1, m1) := e1
    cases e1'
    exact hB
  · have c' : ¬ (lp_X6_appendedSize z 1000 m (bm - 0) 1).toInt ≤ 4096 := fun q => c (by rw [hz0] at q; exact Int32.le_iff_toInt_le.mpr q)
    rw [if_neg c] at e2
    have hK := qK_pieces (F0 := F) (m0 := m) (F2 := Bf) (m2 := bm) (z := z) hm.1 402 0 0 F m (by decide) (by decide) (by decide) ⟨Int.le_refl _, hm.2.1, fun _ _ => rfl⟩
    generalize lp_X0_addPieces Bf z bm 402 0 0 F m = T at e1 hP hK
    obtain ⟨r3, F3, m3⟩ := T
    obtain ⟨q1, q2⟩ := hP.2 c'
    dsimp only at q1 q2
    subst q1
    have e1' : ((-2 : Int32), F3, f_X3_shorten m3 m) = (r1, F1, m1) := e1
    cases e1'
    cases e2
    rw [qshort hm.1 q2]
    exact qB_K hF hK
theorem rh_append (hh : hb = 0) (_ : f_X5_append Bf F bm z m = (r1, F1, m1)) (e2 : f_X6_append MB MU Z al bs hb = (r2, B1, ft, a1, h1)) : h1 = 0 := by
  have key : ∀ (n : Nat) (bq mo : Int32) (MB : Nat → Int32) (al hb : Int32), (lp_X6_append MU Z bs n bq mo MB al hb).2.2.2.2 = 0 := by
    intro n
    induction n with
    | zero => intro bq mo MB al hb; rfl
    | succ n ih =>
      intro bq mo MB al hb
      by_cases c0 : mo = 0
      · rw [lp_X6_append, if_pos c0]
      · rw [lp_X6_append, if_neg c0]
        repeat' split
        all_goals exact ih _ _ _ _ _
  unfold f_X6_append at e2
  split at e2
  · have := key 1000 0 1 MB al hb
    rw [e2] at this
    exact this
  · cases e2
    exact hh
theorem rF_append (hm : zok 4096 m) (_ : zok 4096 al) (hz : zsz z) (hu : zok 400 bm) (ez : z = Z) (eb : bm = bs) (em : m = al) (hU : qB Bf MU bm) (hh : hb = 0) (hF : qB F MB m) (e1 : f_X5_append Bf F bm z m = (r1, F1, m1)) (e2 : f_X6_append MB MU Z al bs hb = (r2, B1, ft, a1, h1)) : qB F1 B1 m1 := qB_append hz hm hu ez eb em hU hh hF e1 e2
theorem rF_raw_0 (hm : zok 4096 m) (_ : zok 4096 al) (_ : zsz z) (hu : zok 400 bm) (_ : z = Z) (eb : bm = bs) (em : m = al) (hU : qB Bf MU bm) (_ : hb = 0) (hF : qB F MB m) (hx : x_X5_raw v = none) (e : f_X6_raw MB MU al bs v = (r, B1, ft, a1)) : qB (f_X5_raw Bf F bm m v).2.1 B1 (f_X5_raw Bf F bm m v).2.2 := by
  subst eb; subst em
  obtain ⟨c1, c2⟩ := qx_raw0 hx
  obtain ⟨u1, u2, u3⟩ := id hu
  obtain ⟨m1', m2', m3'⟩ := id hm
  have o7 : (7 : Int32).toInt = 7 := rfl
  have o4 : (4096 : Int32).toInt = 4096 := rfl
  have o0 : (0 : Int32).toInt = 0 := rfl
  have e7 : (m + 7).toInt = m.toInt + 7 := by rw [zadd] <;> rw [o7] <;> omega
  have e8 : ((m + 7) + bm).toInt = m.toInt + 7 + bm.toInt := by rw [zadd (by omega) (by omega), e7]
  unfold f_X6_raw at e
  rw [if_neg c2] at e
  unfold f_X5_raw
  rw [if_neg c1]
  by_cases c : ((m + 7) + bm) ≤ 4096
  · rw [if_pos c] at e
    obtain ⟨G, B, f1, f2, f3⟩ := qfr (q := v) hU hu (dn := 0) (by decide) u1 (by omega) (zisIn_i c2) (zraw_room hm hu c) hF
    rw [f2] at e
    cases e
    rw [f1]
    exact f3
  · rw [if_neg c] at e
    rw [Int32.le_iff_toInt_le, e8, o4] at c
    cases e
    rw [qaf_0 hm ⟨u1, by omega⟩ (by omega)]
    exact hF
theorem rF_raw_1 (_ : zok 4096 m) (_ : zok 4096 al) (_ : zsz z) (_ : zok 400 bm) (_ : z = Z) (_ : bm = bs) (_ : m = al) (_ : qB Bf MU bm) (_ : hb = 0) (hF : qB F MB m) (hx : x_X5_raw v = some zIAE) (e : f_X6_raw MB MU al bs v = (r, B1, ft, a1)) : qB F B1 m := by
  unfold f_X6_raw at e
  rw [if_pos (qx_raw1 hx)] at e
  cases e
  exact hF
theorem rF_clear_0 (hm : zok 4096 m) (_ : zok 4096 al) (_ : zsz z) (_ : zok 400 bm) (_ : z = Z) (_ : bm = bs) (_ : m = al) (_ : qB Bf MU bm) (_ : hb = 0) (_ : qB F MB m) (hx : x_X5_clear v = none) (_ : f_X6_clear Z al pl bg lo hs hf rs rf to tb v = (ft, z1, al1, pl1, bg1, lo1, hs1, hf1, rs1, rf1, to1, tb1)) : qB F MB (f_X5_clear pl0 bg0 lo0 dm da z m v).2.2.2.2.2.2 := by
  obtain ⟨c1, c2⟩ := qx_clear0 hx
  have e1 : (f_X5_clear pl0 bg0 lo0 dm da z m v).2.2.2.2.2.2 = f_X3_shorten m 0 := by
    have hs : f_X0_startAnew m v = (v, f_X3_shorten m 0) := rfl
    unfold f_X5_clear
    rw [if_neg c1, if_pos c2, hs]
  rw [e1, qshort (m := m) (m0 := 0) (by decide) hm.1]
  exact qB_0
theorem rF_cut_0 (_ : zok 4096 m) (_ : zok 4096 al) (_ : zsz z) (_ : zok 400 bm) (_ : z = Z) (_ : bm = bs) (_ : m = al) (_ : qB Bf MU bm) (_ : hb = 0) (hF : qB F MB m) (hx : x_X5_cut m v = none) (_ : f_X6_cut Z al pl bg lo hs hf rs rf to tb v = (r, ft, al1, pl1, bg1, lo1, hs1, hf1, rs1, rf1, to1, tb1)) : qB F MB (f_X5_cut pl0 bg0 lo0 dm da z m v).2.2.2.2.2.2 := by
  obtain ⟨c1, c2⟩ := qx_cut0 hx
  have s1 : f_X3_shorten m v = v := qshort (by rw [Int32.lt_iff_toInt_lt] at c1; have o0 : (0 : Int32).toInt = 0 := rfl; omega) (Int32.le_iff_toInt_le.mp c2)
  unfold f_X5_cut
  rw [if_neg c1, if_pos c2, s1]
  exact qB_le hF (Int32.le_iff_toInt_le.mp c2)
theorem qin_has (hm : zok 4096 m) : (f_X3_has m v = 0 ↔ f_X6_isIn v 0 (m - 1) = 0) ∧ (¬ f_X3_has m v = 0 → ¬ v < 0 ∧ ¬ m ≤ v) := by
  obtain ⟨a1, a2, a3⟩ := hm
  have o0 : (0 : Int32).toInt = 0 := rfl
  have o1 : (1 : Int32).toInt = 1 := rfl
  have e : (m - 1).toInt = m.toInt - 1 := by rw [zsub] <;> rw [o1] <;> omega
  have i1 : m ≤ v ↔ m - 1 < v := by
    rw [Int32.le_iff_toInt_le, Int32.lt_iff_toInt_lt, e]
    omega
  unfold f_X3_has f_X6_isIn
  by_cases c1 : v < 0
  · rw [if_pos c1, if_pos c1]
    exact ⟨Iff.rfl, fun h => absurd rfl h⟩
  · rw [if_neg c1, if_neg c1]
    by_cases c2 : m ≤ v
    · rw [if_pos c2, if_pos (i1.mp c2)]
      exact ⟨Iff.rfl, fun h => absurd rfl h⟩
    · rw [if_neg c2, if_neg (fun q => c2 (i1.mpr q))]
      exact ⟨Iff.rfl, fun _ => ⟨c1, c2⟩⟩
theorem qlog (hm : zok 4096 m) (hF : qB F MB m) (c1 : ¬ v < 0) (c2 : ¬ m ≤ v) : f_X3_at F m v = MB v.toNatClampNeg := by
  unfold f_X3_at
  rw [if_neg c1, if_neg c2]
  rw [Int32.lt_iff_toInt_lt] at c1
  rw [Int32.le_iff_toInt_le] at c2
  have o0 : (0 : Int32).toInt = 0 := rfl
  have := zclamp (x := v) (by omega)
  exact hF _ (by omega)
theorem qput (h1 : x_X5_put m v x = none) : ¬ f_X3_has m v = 0 ∧ ¬ f_X5_isByte x = 0 := by
  unfold x_X5_put at h1
  split at h1
  · exact nomatch h1
  · next c =>
    split at h1
    · exact nomatch h1
    · next c2 => exact ⟨c, c2⟩
theorem qput1 (h1 : x_X5_put m v x = some zIOE) : f_X3_has m v = 0 := by
  unfold x_X5_put at h1
  split at h1
  · next c => exact c
  · split at h1
    · exact absurd (Option.some.inj h1) (by decide)
    · exact nomatch h1
theorem qput2 (h1 : x_X5_put m v x = some zIAE) : ¬ f_X3_has m v = 0 ∧ f_X5_isByte x = 0 := by
  unfold x_X5_put at h1
  split at h1
  · exact absurd (Option.some.inj h1) (by decide)
  · next c =>
    split at h1
    · next c2 => exact ⟨c, c2⟩
    · exact nomatch h1
theorem qby256 : ∀ k, k < 256 → nI k &&& 255 = nI k := by decide +kernel
theorem qbyteself (h : 0 ≤ x.toInt ∧ x.toInt ≤ 255) : x &&& 255 = x := by
  have hc := zclamp h.1
  have := qby256 x.toNatClampNeg (by omega)
  rw [znI_clamp h.1] at this
  exact this
theorem rF_put_0 (hm : zok 4096 m) (_ : zok 4096 al) (_ : zsz z) (_ : zok 400 bm) (_ : z = Z) (_ : bm = bs) (em : m = al) (_ : qB Bf MU bm) (_ : hb = 0) (hF : qB F MB m) (hx : x_X5_put m v x = none) (e : f_X6_put_ MB al v x = (r, B1, ft)) : qB (f_X5_put F m v x).2 B1 m := by
  subst em
  obtain ⟨c1, c2⟩ := qput hx
  obtain ⟨i1, i2⟩ := qin_has (v := v) hm
  have c2' : ¬ f_X6_isIn x 0 255 = 0 := c2
  unfold f_X6_put_ at e
  rw [if_neg (fun q => c1 (i1.mpr q)), if_neg c2'] at e
  cases e
  unfold f_X5_put f_X3_replace
  rw [if_neg c1, if_neg c2]
  dsimp only
  rw [if_neg c1]
  intro j hj
  unfold upd
  by_cases c : j = v.toNatClampNeg
  · rw [if_pos c, if_pos c, qnar]
    exact qbyteself (zisIn_i c2')
  · rw [if_neg c, if_neg c]
    exact hF j hj
theorem rF_put_1 (hm : zok 4096 m) (_ : zok 4096 al) (_ : zsz z) (_ : zok 400 bm) (_ : z = Z) (_ : bm = bs) (em : m = al) (_ : qB Bf MU bm) (_ : hb = 0) (hF : qB F MB m) (hx : x_X5_put m v x = some zIOE) (e : f_X6_put_ MB al v x = (r, B1, ft)) : qB F B1 m := by
  subst em
  unfold f_X6_put_ at e
  rw [if_pos ((qin_has (v := v) hm).1.mp (qput1 hx))] at e
  cases e
  exact hF
theorem rF_put_2 (hm : zok 4096 m) (_ : zok 4096 al) (_ : zsz z) (_ : zok 400 bm) (_ : z = Z) (_ : bm = bs) (em : m = al) (_ : qB Bf MU bm) (_ : hb = 0) (hF : qB F MB m) (hx : x_X5_put m v x = some zIAE) (e : f_X6_put_ MB al v x = (r, B1, ft)) : qB F B1 m := by
  subst em
  obtain ⟨c1, c2⟩ := qput2 hx
  have c2' : f_X6_isIn x 0 255 = 0 := c2
  unfold f_X6_put_ at e
  rw [if_neg (fun q => c1 ((qin_has (v := v) hm).1.mpr q)), if_pos c2'] at e
  cases e
  exact hF
end
theorem qtell : f_X1_tell = f_X6_tell := rfl
theorem qshl0 (x : Int32) : (x <<< ((0 : Int32) &&& 31)) = x := Int32.toBitVec_inj.mp (show x.toBitVec <<< 0 = x.toBitVec by simp)
theorem qor0 (x : Int32) : (0 : Int32) ||| x = x := Int32.toBitVec_inj.mp (show 0#32 ||| x.toBitVec = x.toBitVec by simp)
theorem qaddsub (x y : Int32) : x + (y - x) = y := by
  rw [Int32.sub_eq_add_neg, Int32.add_comm y, ← Int32.add_assoc, Int32.add_right_neg, Int32.zero_add]
theorem qnum2 (F : Nat → Int32) (m x : Int32) : f_X3_numberLowestFirst F m x 2 = f_X3_at F m x ||| ((f_X3_at F m (x + 1)) <<< ((8 : Int32) &&& 31)) := by
  show ((0 ||| ((f_X3_at F m (x + 0)) <<< ((0 : Int32) &&& 31))) ||| ((f_X3_at F m (x + 1)) <<< ((8 : Int32) &&& 31))) = _
  rw [qshl0, qor0, Int32.add_zero]
theorem qnum4 (F : Nat → Int32) (m x : Int32) : f_X3_numberLowestFirst F m x 4 = ((f_X3_at F m x ||| ((f_X3_at F m (x + 1)) <<< ((8 : Int32) &&& 31))) ||| ((f_X3_at F m (x + 2)) <<< ((16 : Int32) &&& 31))) ||| ((f_X3_at F m (x + 3)) <<< ((24 : Int32) &&& 31)) := by
  show ((((0 ||| ((f_X3_at F m (x + 0)) <<< ((0 : Int32) &&& 31))) ||| ((f_X3_at F m (x + 1)) <<< ((8 : Int32) &&& 31))) ||| ((f_X3_at F m (x + 2)) <<< ((16 : Int32) &&& 31))) ||| ((f_X3_at F m (x + 3)) <<< ((24 : Int32) &&& 31))) = _
  rw [qshl0, qor0, Int32.add_zero]
section
variable {F MB : Nat → Int32} {m z bg : Int32}
theorem qat3 {x : Int32} (hF : qB F MB m) (h0 : 0 ≤ x.toInt) (h1 : x.toInt < m.toInt) : f_X3_at F m x = MB x.toNatClampNeg ∧ 0 ≤ (MB x.toNatClampNeg).toInt ∧ (MB x.toNatClampNeg).toInt ≤ 255 := by
  have o0 : (0 : Int32).toInt = 0 := rfl
  have hc := zclamp h0
  refine ⟨?_, qbyte hF (by omega)⟩
  unfold f_X3_at
  rw [if_neg (by rw [Int32.lt_iff_toInt_lt, o0]; omega), if_neg (by rw [Int32.le_iff_toInt_le]; omega)]
  exact hF _ (by omega)
/-- the check of a fragment in THE LOG -/
theorem qck {pl L : Int32} (hF : qB F MB m) (hm : zok 4096 m) (hp : 0 ≤ pl.toInt) (hL : 0 ≤ L.toInt) (h : pl.toInt + 7 + L.toInt ≤ m.toInt) : f_X4_of F m (MB (pl + 6).toNatClampNeg) (pl + 7) L = (((zUshr ((lpc_X6_fragment MB pl (-1) (L + 1).toNatClampNeg) ^^^ (-1)) 15) ||| (((lpc_X6_fragment MB pl (-1) (L + 1).toNatClampNeg) ^^^ (-1)) <<< ((17 : Int32) &&& 31))) + (-1568478504)) := by
  obtain ⟨m1, m2, m3⟩ := id hm
  have o6 : (6 : Int32).toInt = 6 := rfl
  have o7 : (7 : Int32).toInt = 7 := rfl
  have o1 : (1 : Int32).toInt = 1 := rfl
  have e6 : (pl + 6).toInt = pl.toInt + 6 := by rw [zadd] <;> rw [o6] <;> omega
  have e7 : (pl + 7).toInt = pl.toInt + 7 := by rw [zadd] <;> rw [o7] <;> omega
  have eL : (L + 1).toInt = L.toInt + 1 := by rw [zadd] <;> rw [o1] <;> omega
  have hc := zclamp hL
  have hc1 := zclamp (x := L + 1) (by omega)
  have hn : (L + 1).toNatClampNeg = L.toNatClampNeg + 1 := by omega
  obtain ⟨-, k1, k2⟩ := qat3 (x := pl + 6) hF (by omega) (by omega)
  have lp : ∀ i, i ≤ L.toNatClampNeg → lp_X4_of F m (pl + 7) (kwb (-1) (MB (pl + 6).toNatClampNeg)) i = lpc_X6_fragment MB pl (-1) (i + 1) := by
    intro i
    induction i with
    | zero =>
      intro _
      show kwb (-1) (MB (pl + 6).toNatClampNeg) = f_X6_more (-1) (MB (pl + 6 + 0).toNatClampNeg)
      rw [Int32.add_zero]
      exact kcrc (-1) _ ⟨k1, k2⟩
    | succ i ih =>
      intro hi
      have ih' := ih (by omega)
      show b_X4_of F m (pl + 7) (nI i) (lp_X4_of F m (pl + 7) (kwb (-1) (MB (pl + 6).toNatClampNeg)) i) = f_X6_more (lpc_X6_fragment MB pl (-1) (i + 1)) (MB ((pl + 6) + nI (i + 1)).toNatClampNeg)
      rw [ih']
      generalize lpc_X6_fragment MB pl (-1) (i + 1) = w
      have ei : (pl + 6) + nI (i + 1) = (pl + 7) + nI i := by
        rw [show i + 1 = 1 + i by omega, ← nI_add, ← Int32.add_assoc, Int32.add_assoc pl 6 (nI 1)]
        rfl
      have en := nI_toInt (n := i) (by omega)
      have e8 : ((pl + 7) + nI i).toInt = pl.toInt + 7 + i := by rw [zadd] <;> rw [en, e7] <;> omega
      obtain ⟨a1, a2, a3⟩ := qat3 (x := (pl + 7) + nI i) hF (by omega) (by omega)
      have k := kcrc w (MB ((pl + 7) + nI i).toNatClampNeg) ⟨a2, a3⟩
      show kwb w (f_X3_at F m ((pl + 7) + nI i)) = f_X6_more w (MB ((pl + 6) + nI (i + 1)).toNatClampNeg)
      rw [a1, ei]
      exact k
  have e : f_X4_of F m (MB (pl + 6).toNatClampNeg) (pl + 7) L = (((zUshr ((lp_X4_of F m (pl + 7) (kwb (-1) (MB (pl + 6).toNatClampNeg)) (L).toNatClampNeg) ^^^ (-1)) 15) ||| (((lp_X4_of F m (pl + 7) (kwb (-1) (MB (pl + 6).toNatClampNeg)) (L).toNatClampNeg) ^^^ (-1)) <<< ((17 : Int32) &&& 31))) + (-1568478504)) := rfl
  rw [e, lp _ (Nat.le_refl _), hn]
/-- a bit of reading, class against reference, from the place p0 -/
def qNB (p0 : Int32) (R S : Int32 × (Nat → Int32) × (Nat → Int32) × Int32 × Int32 × Int32 × Int32 × Int32) : Prop :=
  match R, S with
  | (r, W, Y, pl, fp, fb, dm, da), (s, MW, MY, Mpl, Mto, Mtb, Mfr, Mln) => W = MW ∧ Y = MY ∧ pl = Mpl ∧ dm = Mto ∧ da = Mtb ∧
    ((r = 256 ∧ s = -1) ∨ (r = 257 ∧ s = -2 ∧ p0.toInt + 7 ≤ pl.toInt ∧ pl.toInt ≤ 4096) ∨ (r = s ∧ 0 ≤ r.toInt ∧ r.toInt ≤ 255 ∧ fp = Mfr ∧ fb = Mln ∧ 0 ≤ fb.toInt ∧ p0.toInt + 7 + fb.toInt ≤ pl.toInt ∧ pl.toInt ≤ 4096))
theorem qNB_le {p0 p1 : Int32} (h : p0.toInt ≤ p1.toInt) {R S : Int32 × (Nat → Int32) × (Nat → Int32) × Int32 × Int32 × Int32 × Int32 × Int32} (hN : qNB p1 R S) : qNB p0 R S := by
  obtain ⟨r, W, Y, pl, fp, fb, dm, da⟩ := R
  obtain ⟨s, MW, MY, Mpl, Mto, Mtb, Mfr, Mln⟩ := S
  obtain ⟨h1, h2, h3, h4, h5, h6⟩ := hN
  refine ⟨h1, h2, h3, h4, h5, ?_⟩
  rcases h6 with h6 | ⟨a, b, c, d⟩ | ⟨a, b, c, d, e, f, g, k⟩
  · exact Or.inl h6
  · exact Or.inr (Or.inl ⟨a, b, by omega, d⟩)
  · exact Or.inr (Or.inr ⟨a, b, c, d, e, f, by omega, k⟩)
/-- the reference's words at a fragment, named -/
def qLn (MB : Nat → Int32) (p : Int32) : Int32 := (MB ((p + 4)).toNatClampNeg) ||| ((MB ((p + 5)).toNatClampNeg) <<< ((8 : Int32) &&& 31))
def qSU (MB : Nat → Int32) (p L : Int32) : Int32 := (((zUshr ((lpc_X6_fragment MB p (-1) (L + 1).toNatClampNeg) ^^^ (-1)) 15) ||| (((lpc_X6_fragment MB p (-1) (L + 1).toNatClampNeg) ^^^ (-1)) <<< ((17 : Int32) &&& 31))) + (-1568478504))
def qNU (MB : Nat → Int32) (p : Int32) : Int32 := ((((MB (p).toNatClampNeg) ||| ((MB ((p + 1)).toNatClampNeg) <<< ((8 : Int32) &&& 31))) ||| ((MB ((p + 2)).toNatClampNeg) <<< ((16 : Int32) &&& 31))) ||| ((MB ((p + 3)).toNatClampNeg) <<< ((24 : Int32) &&& 31)))
def qEnd (W Y : Nat → Int32) (bg dm da en p L K SU NU : Int32) : Int32 × (Nat → Int32) × (Nat → Int32) × Int32 × Int32 × Int32 × Int32 × Int32 :=
  if SU = NU then
    if bg ≤ p then
      (K, W, Y, ((p + 7) + L), dm, da, p, L)
    else
      ((-2), W, Y, ((p + 7) + L), dm, da, p, L)
  else
    match (f_X6_tell W Y dm da 2 (en - p)) with
    | (a, b, c, d) =>
      ((-2), a, b, en, c, d, p, L)
set_option maxRecDepth 100000 in
theorem qfrag_s {W Y : Nat → Int32} {dm da fr ln iw en p : Int32} {n : Nat} (h7 : 7 ≤ en - p) : lp_X6_fragment MB W Y z m bg dm da fr ln (n + 1) iw en p =
    (if (7 + qLn MB p) ≤ (en - p) then
      if (MB ((p + 6)).toNatClampNeg) = 0 then
        if qLn MB p = 0 then
          ((-2), W, Y, en, dm, da, p, qLn MB p)
        else
          qEnd W Y bg dm da en p (qLn MB p) (MB ((p + 6)).toNatClampNeg) (qSU MB p (qLn MB p)) (qNU MB p)
      else
        qEnd W Y bg dm da en p (qLn MB p) (MB ((p + 6)).toNatClampNeg) (qSU MB p (qLn MB p)) (qNU MB p)
    else
      if iw = 0 then
        ((-1), W, Y, p, dm, da, p, qLn MB p)
      else
        match (f_X6_tell W Y dm da 1 (en - p)) with
        | (a, b, c, d) =>
          ((-2), a, b, en, c, d, p, qLn MB p)) := by
  rw [lp_X6_fragment, if_pos h7]
  rfl
/-- the check's two ends -/
theorem qnb2 {W Y : Nat → Int32} {fp fb dm da en p L K SU NU : Int32} (hicr : f_X2_isCheckRight F p m K L = 0 ↔ ¬ SU = NU) (hK : 0 ≤ K.toInt ∧ K.toInt ≤ 255) (hL : 0 ≤ L.toInt) (h7 : p.toInt + 7 ≤ en.toInt) (he : en.toInt ≤ 4096) (e8 : ((p + 7) + L).toInt = p.toInt + 7 + L.toInt) (hl : p.toInt + 7 + L.toInt ≤ en.toInt) :
    qNB p (jp162_X2_nextBit W Y F bg fp fb dm da m (en - p) L K p) (qEnd W Y bg dm da en p L K SU NU) := by
  have epl : p + (en - p) = en := qaddsub p en
  unfold jp162_X2_nextBit qEnd
  by_cases c5 : f_X2_isCheckRight F p m K L = 0
  · rw [if_pos c5, if_neg (hicr.mp c5)]
    unfold f_X2_breakBlock
    rw [qtell]
    generalize f_X6_tell W Y dm da 2 (en - p) = T
    obtain ⟨t1, t2, t3, t4⟩ := T
    dsimp only
    rw [epl]
    exact ⟨rfl, rfl, rfl, rfl, rfl, Or.inr (Or.inl ⟨rfl, rfl, by omega, by omega⟩)⟩
  · have c6 := Classical.byContradiction (fun q => c5 (hicr.mpr q))
    rw [if_neg c5, if_pos c6]
    have ea : p + (7 + L) = (p + 7) + L := (Int32.add_assoc p 7 L).symm
    by_cases c7 : bg ≤ p
    · rw [if_pos c7, if_pos c7, ea]
      exact ⟨rfl, rfl, rfl, rfl, rfl, Or.inr (Or.inr ⟨rfl, hK.1, hK.2, rfl, rfl, hL, by omega, by omega⟩)⟩
    · rw [if_neg c7, if_neg c7, ea]
      exact ⟨rfl, rfl, rfl, rfl, rfl, Or.inr (Or.inl ⟨rfl, rfl, by omega, by omega⟩)⟩
/-- the bit at a place with room for a head -/
theorem qnb1 {W Y : Nat → Int32} {fp fb dm da fr ln iw en p : Int32} {n : Nat} (hF : qB F MB m) (hm : zok 4096 m) (hp : zpl p) (hen : en = zMin ((p - (zMod p z)) + z) m) (hen0 : 0 ≤ en.toInt) (hem : en.toInt ≤ m.toInt) (hiw : iw = 0 ↔ f_X0_isWhole z m p = 0) (h7 : 7 ≤ en - p) :
    qNB p (jp45_X2_nextBit W Y F bg fp fb dm da z m p) (lp_X6_fragment MB W Y z m bg dm da fr ln (n + 1) iw en p) := by
  obtain ⟨m1, m2, m3⟩ := id hm
  obtain ⟨p1, p2⟩ := id hp
  have o7 : (7 : Int32).toInt = 7 := rfl
  have h7' := h7
  have es : (en - p).toInt = en.toInt - p.toInt := by rw [zsub] <;> omega
  rw [Int32.le_iff_toInt_le, o7, es] at h7'
  have ad : ∀ k : Nat, k < 7 → (p + nI k).toInt = p.toInt + k := by
    intro k hk
    have := nI_toInt (n := k) (by omega)
    rw [zadd] <;> rw [this] <;> omega
  have d1 : (p + 1).toInt = p.toInt + 1 := ad 1 (by decide)
  have d2 : (p + 2).toInt = p.toInt + 2 := ad 2 (by decide)
  have d3 : (p + 3).toInt = p.toInt + 3 := ad 3 (by decide)
  have d4 : (p + 4).toInt = p.toInt + 4 := ad 4 (by decide)
  have d5 : (p + 5).toInt = p.toInt + 5 := ad 5 (by decide)
  have d6 : (p + 6).toInt = p.toInt + 6 := ad 6 (by decide)
  have x45 : (p + 4) + 1 = p + 5 := by rw [Int32.add_assoc]; rfl
  have x76 : (p + 7) - 1 = p + 6 := by rw [Int32.sub_eq_add_neg, Int32.add_assoc]; rfl
  have a4 := qat3 (x := p + 4) hF (by omega) (by omega)
  have a5 := qat3 (x := p + 5) hF (by omega) (by omega)
  have a6 := qat3 (x := p + 6) hF (by omega) (by omega)
  have eln : f_X3_numberLowestFirst F m (p + 4) 2 = qLn MB p := by rw [qnum2, x45, a4.1, a5.1]; rfl
  have ekd : f_X3_at F m ((p + 7) - 1) = MB (p + 6).toNatClampNeg := by rw [x76, a6.1]
  have enm : f_X3_numberLowestFirst F m p 4 = qNU MB p := by
    rw [qnum4, (qat3 (x := p) hF (by omega) (by omega)).1, (qat3 (x := p + 1) hF (by omega) (by omega)).1, (qat3 (x := p + 2) hF (by omega) (by omega)).1, (qat3 (x := p + 3) hF (by omega) (by omega)).1]
    rfl
  have hL : (qLn MB p).toInt = (MB (p + 4).toNatClampNeg).toInt + 256 * (MB (p + 5).toNatClampNeg).toInt := zln a4.2 a5.2
  have hck : ∀ L : Int32, 0 ≤ L.toInt → p.toInt + 7 + L.toInt ≤ m.toInt → f_X4_of F m (MB (p + 6).toNatClampNeg) (p + 7) L = qSU MB p L := fun L h1 h2 => qck hF hm p1 h1 h2
  have a6b := a6.2
  have a4b := a4.2
  have a5b := a5.2
  rw [qfrag_s h7]
  unfold jp45_X2_nextBit
  rw [← hen, if_pos h7, eln, ekd]
  generalize qLn MB p = L at hL ⊢
  generalize qNU MB p = NU at enm ⊢
  generalize MB (p + 6).toNatClampNeg = K at a6b hck ⊢
  generalize qSU MB p = SU at hck ⊢
  have eL7 : (7 + L).toInt = 7 + L.toInt := by rw [zadd] <;> rw [o7] <;> omega
  have el7 : ((en - p) - 7).toInt = en.toInt - p.toInt - 7 := by rw [zsub] <;> rw [es, o7] <;> omega
  have c2i : (L ≤ (en - p) - 7) ↔ (7 + L ≤ en - p) := by
    rw [Int32.le_iff_toInt_le, Int32.le_iff_toInt_le, el7, eL7, es]
    omega
  have epl : p + (en - p) = en := qaddsub p en
  by_cases c2 : L ≤ (en - p) - 7
  · rw [if_pos c2, if_pos (c2i.mp c2)]
    have c2' := c2i.mp c2
    rw [Int32.le_iff_toInt_le, eL7, es] at c2'
    have eck := hck L (by omega) (by omega)
    have ep7 : (p + 7).toInt = p.toInt + 7 := by rw [zadd] <;> rw [o7] <;> omega
    have ep8 : ((p + 7) + L).toInt = p.toInt + 7 + L.toInt := by rw [zadd] <;> rw [ep7] <;> omega
    have hicr : f_X2_isCheckRight F p m K L = 0 ↔ ¬ SU L = NU := by
      unfold f_X2_isCheckRight
      rw [enm, eck]
      constructor
      · intro h q
        rw [if_pos q.symm] at h
        exact absurd h (by decide)
      · intro h
        rw [if_neg (fun q => h q.symm)]
    by_cases c3 : K = 0
    · rw [if_pos c3, if_pos c3]
      by_cases c4 : L = 0
      · rw [if_pos c4, if_pos c4, epl]
        exact ⟨rfl, rfl, rfl, rfl, rfl, Or.inr (Or.inl ⟨rfl, rfl, by omega, by omega⟩)⟩
      · rw [if_neg c4, if_neg c4]
        exact qnb2 hicr a6b (by omega) (by omega) (by omega) ep8 (by omega)
    · rw [if_neg c3, if_neg c3]
      exact qnb2 hicr a6b (by omega) (by omega) (by omega) ep8 (by omega)
  · rw [if_neg c2, if_neg (fun q => c2 (c2i.mpr q))]
    by_cases c3 : iw = 0
    · rw [if_pos c3, if_pos (hiw.mp c3)]
      exact ⟨rfl, rfl, rfl, rfl, rfl, Or.inl ⟨rfl, rfl⟩⟩
    · rw [if_neg c3, if_neg (fun q => c3 (hiw.mpr q))]
      unfold f_X2_breakBlock
      rw [qtell]
      generalize f_X6_tell W Y dm da 1 (en - p) = T
      obtain ⟨t1, t2, t3, t4⟩ := T
      dsimp only
      rw [epl]
      exact ⟨rfl, rfl, rfl, rfl, rfl, Or.inr (Or.inl ⟨rfl, rfl, by omega, by omega⟩)⟩
theorem qminE {E : Int32} (h : ¬ m < E) : zMin E m = E := by
  unfold zMin
  rw [if_neg h]
theorem qminM {E : Int32} (h : m < E) : zMin E m = m := by
  unfold zMin
  rw [if_pos h]
theorem qnb0 {W Y : Nat → Int32} {fp fb dm da p : Int32} (h : ¬ 7 ≤ (zMin ((p - (zMod p z)) + z) m) - p) : jp45_X2_nextBit W Y F bg fp fb dm da z m p = (256, W, Y, p, fp, fb, dm, da) := by
  unfold jp45_X2_nextBit
  rw [if_neg h]
theorem qnb {W Y : Nat → Int32} {fp fb dm da fr ln p : Int32} (hF : qB F MB m) (hm : zok 4096 m) (hz : zsz z) (hp : zpl p) :
    qNB p (f_X2_nextBit W Y F p bg fp fb dm da z m) (f_X6_fragment MB W Y z m p bg dm da fr ln) := by
  obtain ⟨m1, m2, m3⟩ := id hm
  obtain ⟨p1, p2⟩ := id hp
  obtain ⟨z1, z2⟩ := id hz
  have o7 : (7 : Int32).toInt = 7 := rfl
  have hE := zfr_end hz hp
  have r1 : 0 ≤ p.toInt % z.toInt := Int.emod_nonneg _ (by omega)
  have r2 : p.toInt % z.toInt < z.toInt := Int.emod_lt_of_pos _ (by omega)
  have r3 : (p.toInt - p.toInt % z.toInt + z.toInt) % z.toInt = 0 := by
    have := zmod_fill p.toInt z.toInt
    rw [show p.toInt - p.toInt % z.toInt + z.toInt = p.toInt + (z.toInt - p.toInt % z.toInt) by omega]
    exact this
  unfold f_X6_fragment f_X2_nextBit
  rw [← kpl3] at hE ⊢
  have hw : f_X0_isWhole z m p = 0 ↔ m < ((p - (zMod p z)) + z) := by
    unfold f_X0_isWhole
    by_cases c : m < ((p - (zMod p z)) + z)
    · rw [if_pos c]; exact ⟨fun _ => c, fun _ => rfl⟩
    · rw [if_neg c]; exact ⟨fun q => absurd q (by decide), fun q => absurd q c⟩
  by_cases c : m < ((p - (zMod p z)) + z)
  · have en := qminM c
    rw [if_pos c]
    by_cases c7 : 7 ≤ (zMin ((p - (zMod p z)) + z) m) - p
    · rw [if_pos c7]
      exact qnb1 hF hm hp en.symm m1 (Int.le_refl _) ⟨fun _ => hw.mpr c, fun _ => rfl⟩ (by rw [en] at c7; exact c7)
    · rw [if_neg c7, if_pos (hw.mpr c), qnb0 c7]
      rw [en] at c7
      rw [lp_X6_fragment, if_neg c7, if_pos rfl]
      exact ⟨rfl, rfl, rfl, rfl, rfl, Or.inl ⟨rfl, rfl⟩⟩
  · have en := qminE c
    rw [if_neg c]
    have c' := c
    rw [Int32.lt_iff_toInt_lt] at c'
    by_cases c7 : 7 ≤ (zMin ((p - (zMod p z)) + z) m) - p
    · rw [if_pos c7]
      exact qnb1 hF hm hp en.symm (by omega) (by omega) ⟨fun q => absurd q (by decide), fun q => absurd (hw.mp q) c⟩ (by rw [en] at c7; exact c7)
    · rw [if_neg c7, if_neg (fun q => c (hw.mp q))]
      rw [en] at c7
      rw [lp_X6_fragment, if_neg c7, if_neg (show ¬ (1 : Int32) = 0 by decide)]
      generalize hEd : ((p - (zMod p z)) + z) = E at *
      have hpE : zpl E := ⟨by omega, by omega⟩
      have hmod : zMod E z = 0 := by
        have := zmodI hpE.1 hz
        rw [hE, r3] at this
        exact Int32.toInt_inj.mp this
      have eE : (E - zMod E z) + z = E + z := by rw [hmod, Int32.sub_zero]
      have eEz : (E + z).toInt = E.toInt + z.toInt := by rw [zadd] <;> omega
      have hwE : f_X0_isWhole z m E = 0 ↔ m < E + z := by
        unfold f_X0_isWhole
        rw [eE]
        by_cases c : m < E + z
        · rw [if_pos c]; exact ⟨fun _ => c, fun _ => rfl⟩
        · rw [if_neg c]; exact ⟨fun q => absurd q (by decide), fun q => absurd q c⟩
      have hle : p.toInt ≤ E.toInt := by omega
      by_cases c8 : m < E + z
      · have en2 := qminM c8
        rw [if_pos c8]
        by_cases c9 : 7 ≤ m - E
        · exact qNB_le hle (qnb1 hF hm hpE (by rw [eE, en2]) m1 (Int.le_refl _) ⟨fun _ => hwE.mpr c8, fun _ => rfl⟩ c9)
        · rw [qnb0 (by rw [eE, en2]; exact c9), lp_X6_fragment, if_neg c9, if_pos rfl]
          exact ⟨rfl, rfl, rfl, rfl, rfl, Or.inl ⟨rfl, rfl⟩⟩
      · have en2 := qminE c8
        rw [if_neg c8]
        have c8' := c8
        rw [Int32.lt_iff_toInt_lt] at c8'
        have ees : (E + z - E).toInt = z.toInt := by rw [zsub] <;> omega
        exact qNB_le hle (qnb1 hF hm hpE (by rw [eE, en2]) (by omega) (by omega) ⟨fun q => absurd q (by decide), fun q => absurd (hwE.mp q) c8⟩ (by rw [Int32.le_iff_toInt_le, ees, o7]; omega))
end
section
variable {F MB : Nat → Int32} {m z bg : Int32}
theorem qadd {C : Nat → Int32} {fp fb cm : Int32} (h : zroom 4096 fb.toNatClampNeg cm) (hb : 0 ≤ fb.toInt) : ∃ C1, f_X2_addFragmentBytes C F fp fb cm m = (C1, cm + fb) := by
  have := zapt (F2 := F) (m2 := m) (x := fp + 7) (F := C) h hb
  unfold f_X2_addFragmentBytes
  generalize f_X3_addPart 4096 C F cm m (fp + 7) fb = T at this
  obtain ⟨C1, c1⟩ := T
  exact ⟨C1, by rw [show c1 = cm + fb from this]⟩
theorem qtakeM {MH : Nat → Int32} {hs fr ln : Int32} (hl : 0 ≤ ln.toInt) : ∃ H1, f_X6_take MB MH hs fr ln = (H1, hs + ln) := by
  generalize hT : f_X6_take MB MH hs fr ln = T
  obtain ⟨H1, s1⟩ := T
  exact ⟨H1, by rw [ztake hl hT]⟩
theorem qdrop {cm : Int32} (h : 0 ≤ cm.toInt) : f_X2_dropRecord cm = (-1, 0, 0) := by
  unfold f_X2_dropRecord
  rw [qshort (m := cm) (m0 := 0) (by decide) h]
theorem qstart {W Y C MH : Nat → Int32} {hf cm fp fb dm da : Int32} (hc : 0 ≤ cm.toInt) (hh : hf = 0 → cm = 0) (hb : 0 ≤ fb.toInt ∧ fb.toInt ≤ 4096) : ∃ (W1 Y1 C1 H1 : Nat → Int32) (d1 a1 : Int32), f_X2_startRecord W Y C F fp fb dm da cm m = (W1, Y1, C1, fp, 1, d1, a1, fb) ∧ f_X6_start MB MH W Y cm hf dm da fp fb = (H1, W1, Y1, fb, 1, fp, d1, a1) := by
  have hcb := zclamp hb.1
  have hr : zroom 4096 fb.toNatClampNeg 0 := ⟨by decide, by have o0 : (0 : Int32).toInt = 0 := rfl; omega, by decide⟩
  obtain ⟨C1, eC⟩ := qadd (F := F) (m := m) (C := C) (fp := fp) hr hb.1
  obtain ⟨H1, eH⟩ := qtakeM (MB := MB) (MH := MH) (hs := 0) (fr := fp) hb.1
  rw [Int32.zero_add] at eC eH
  unfold f_X2_startRecord f_X6_start
  rw [qdrop hc]
  dsimp only
  rw [eC, eH]
  dsimp only
  by_cases c1 : cm ≤ 0
  · rw [if_pos c1, if_pos c1, ite_self]
    exact ⟨W, Y, C1, H1, dm, da, rfl, rfl⟩
  · have hf1 : ¬ hf = 0 := fun q => c1 (by rw [hh q]; decide)
    rw [if_neg c1, if_neg c1, if_neg hf1, qtell]
    generalize f_X6_tell W Y dm da 4 cm = T
    obtain ⟨t1, t2, t3, t4⟩ := T
    exact ⟨t1, t2, C1, H1, t3, t4, rfl, rfl⟩
def qRD (R : Int32 × (Nat → Int32) × (Nat → Int32) × (Nat → Int32) × Int32 × Int32 × Int32 × Int32 × Int32 × Int32 × Int32 × Int32 × Int32) (S : Int32 × (Nat → Int32) × (Nat → Int32) × (Nat → Int32) × (Nat → Int32) × Int32 × Int32 × Int32 × Int32 × Int32 × Int32 × Int32 × Int32 × Int32 × Int32 × Int32 × Int32) : Prop :=
  match R, S with
  | (r, W, Y, _, _, _, pl, lo, _, _, dm, da, cm), (s, _, _, MW, MY, _, Mpl, Mlo, Mhs, Mhf, _, _, _, Mto, Mtb, _, _) =>
    W = MW ∧ Y = MY ∧ pl = Mpl ∧ lo = Mlo ∧ dm = Mto ∧ da = Mtb ∧ Mhs = 0 ∧ Mhf = 0 ∧ ((r = 0 ∧ s = -1) ∨ (r = 1 ∧ s = cm))
theorem qrd0 {MH MR MW MY : Nat → Int32} {pl lo hs hf hp rs rf to tb fr ln : Int32} {k : Nat} (hk : 1 ≤ k) : lp_X6_read MB z m bg k 0 MH MR MW MY pl lo hs hf hp rs rf to tb fr ln = (rs, MH, MR, MW, MY, 0, pl, lo, hs, hf, hp, rs, rf, to, tb, fr, ln) := by
  cases k with
  | zero => omega
  | succ k => rw [lp_X6_read, if_pos rfl]
theorem qrd (hF : qB F MB m) (hm : zok 4096 m) (hz : zsz z) : ∀ (n k : Nat) (pv : Int32) (W Y C MH MR : Nat → Int32) (rp hf pl lo fp fb dm da cm hp rf fr ln : Int32), pv.toInt + n = 4098 → 0 ≤ pv.toInt → pv.toInt + k = 5010 → 7 * pv.toInt ≤ pl.toInt → pl.toInt ≤ 5000 → 0 ≤ cm.toInt → cm.toInt ≤ pl.toInt → (hf = 0 → cm = 0) →
    qRD (lp_X2_findRecord F bg z m n pv W Y C rp hf pl lo fp fb dm da cm) (lp_X6_read MB z m bg k 1 MH MR W Y pl lo cm hf hp (-1) rf dm da fr ln) := by
  intro n
  induction n with
  | zero => intro k pv W Y C MH MR rp hf pl lo fp fb dm da cm hp rf fr ln h1 h2 h3 h4 h5; omega
  | succ n ih =>
    intro k pv W Y C MH MR rp hf pl lo fp fb dm da cm hp rf fr ln h1 h2 h3 h4 h5 h6 h7 h8
    obtain ⟨k, rfl⟩ : ∃ k', k = k' + 1 := ⟨k - 1, by omega⟩
    have o1 : (1 : Int32).toInt = 1 := rfl
    have o4 : (4096 : Int32).toInt = 4096 := rfl
    have hpv : (pv + 1).toInt = pv.toInt + 1 := by rw [zadd] <;> rw [o1] <;> omega
    have hg : ¬ 4096 < pv := by rw [Int32.lt_iff_toInt_lt, o4]; omega
    have c10 : ¬ (1 : Int32) = 0 := by decide
    have N := qnb (W := W) (Y := Y) (bg := bg) (fp := fp) (fb := fb) (dm := dm) (da := da) (fr := fr) (ln := ln) hF hm hz (p := pl) ⟨by omega, by omega⟩
    rw [lp_X2_findRecord, if_neg hg, lp_X6_read, if_neg c10]
    generalize f_X2_nextBit W Y F pl bg fp fb dm da z m = R at N
    generalize f_X6_fragment MB W Y z m pl bg dm da fr ln = S at N
    obtain ⟨r, W1, Y1, pl1, fp1, fb1, dm1, da1⟩ := R
    obtain ⟨s, MW1, MY1, Mpl1, Mto1, Mtb1, Mfr1, Mln1⟩ := S
    obtain ⟨n1, n2, n3, n4, n5, n6⟩ := N
    subst n1; subst n2; subst n3; subst n4; subst n5
    dsimp only
    rcases n6 with ⟨e1, e2⟩ | ⟨e1, e2, e3, e4⟩ | ⟨e1, e2, e3, e4, e5, e6, e7, e8⟩
    · subst e1; subst e2
      rw [if_pos rfl, qdrop h6]
      dsimp only
      unfold f_X6_passOn
      rw [if_pos rfl]
      dsimp only
      rw [if_neg c10, qrd0 (by omega)]
      exact ⟨rfl, rfl, rfl, rfl, rfl, rfl, rfl, rfl, Or.inl ⟨rfl, rfl⟩⟩
    · subst e1; subst e2
      rw [if_neg (show ¬ (257 : Int32) = 256 by decide), if_pos rfl]
      unfold f_X2_tear f_X6_passOn
      rw [if_neg (show ¬ (-2 : Int32) = -1 by decide), if_pos rfl]
      by_cases c : hf = 0
      · have hc := h8 c
        subst c; subst hc
        rw [if_pos rfl, if_pos rfl]
        dsimp only
        rw [if_pos rfl]
        exact ih k (pv + 1) _ _ _ _ _ _ _ _ _ _ _ _ _ _ _ _ _ _ (by omega) (by omega) (by omega) (by omega) (by omega) (by decide) (by have o0 : (0 : Int32).toInt = 0 := rfl; omega) (fun _ => rfl)
      · rw [if_neg c, if_neg c, qtell, qdrop h6]
        generalize f_X6_tell W1 Y1 dm1 da1 3 cm = T
        obtain ⟨t1, t2, t3, t4⟩ := T
        dsimp only
        rw [if_pos rfl]
        exact ih k (pv + 1) _ _ _ _ _ _ _ _ _ _ _ _ _ _ _ _ _ _ (by omega) (by omega) (by omega) (by omega) (by omega) (by decide) (by have o0 : (0 : Int32).toInt = 0 := rfl; omega) (fun _ => rfl)
    · subst e1; subst e4; subst e5
      have o0 : (0 : Int32).toInt = 0 := rfl
      have q1 : ¬ r = 256 := fun q => by rw [q] at e3; exact absurd e3 (by decide)
      have q2 : ¬ r = 257 := fun q => by rw [q] at e3; exact absurd e3 (by decide)
      have q3 : ¬ r = -1 := fun q => by rw [q] at e2; exact absurd e2 (by decide)
      have q4 : ¬ r = -2 := fun q => by rw [q] at e2; exact absurd e2 (by decide)
      have hcb := zclamp e6
      have hroom : zroom 4096 fb1.toNatClampNeg cm := ⟨h6, by omega, by decide⟩
      have hsum : (cm + fb1).toInt = cm.toInt + fb1.toInt := by rw [zadd] <;> omega
      obtain ⟨W2, Y2, C2, H2, d2, a2, s1, s2⟩ := qstart (F := F) (MB := MB) (m := m) (W := W1) (Y := Y1) (C := C) (MH := MH) (fp := fp1) (dm := dm1) (da := da1) h6 h8 ⟨e6, by omega⟩
      obtain ⟨C3, g1⟩ := qadd (F := F) (m := m) (C := C) (fp := fp1) hroom e6
      obtain ⟨H3, g2⟩ := qtakeM (MB := MB) (MH := MH) (hs := cm) (fr := fp1) e6
      rw [if_neg q1, if_neg q2]
      -- what a taken fragment does, LOST or not
      have fin1 : ∀ lo', qRD (1, W2, Y2, C2, fp1, 1, pl1, lo', fp1, fb1, d2, a2, fb1) (lp_X6_read MB z m bg k 0 H2 (lp_X6_finish H2 MR fb1.toNatClampNeg) W2 Y2 pl1 lo' 0 0 fp1 fb1 fp1 d2 a2 fp1 fb1) := fun lo' => by
        rw [qrd0 (by omega)]
        exact ⟨rfl, rfl, rfl, rfl, rfl, rfl, rfl, rfl, Or.inr ⟨rfl, rfl⟩⟩
      have go2 : ∀ lo', qRD (lp_X2_findRecord F bg z m n (pv + 1) W2 Y2 C2 fp1 1 pl1 lo' fp1 fb1 d2 a2 fb1) (lp_X6_read MB z m bg k 1 H2 MR W2 Y2 pl1 lo' fb1 1 fp1 (-1) rf d2 a2 fp1 fb1) := fun lo' =>
        ih k (pv + 1) _ _ _ _ _ _ _ _ _ _ _ _ _ _ _ _ _ _ (by omega) (by omega) (by omega) (by omega) (by omega) (by omega) (by omega) (fun q => absurd q c10)
      have unk : ∀ lo', ∀ t1 t2 t3 t4, qRD (lp_X2_findRecord F bg z m n (pv + 1) t1 t2 C (-1) 0 pl1 lo' fp1 fb1 t3 t4 0) (lp_X6_read MB z m bg k 1 MH MR t1 t2 pl1 lo' 0 0 hp (-1) rf t3 t4 fp1 fb1) := fun lo' t1 t2 t3 t4 =>
        ih k (pv + 1) _ _ _ _ _ _ _ _ _ _ _ _ _ _ _ _ _ _ (by omega) (by omega) (by omega) (by omega) (by omega) (by decide) (by omega) (fun _ => rfl)
      have keep : ∀ lo', ∀ t1 t2 t3 t4, qRD (lp_X2_findRecord F bg z m n (pv + 1) t1 t2 C rp hf pl1 lo' fp1 fb1 t3 t4 cm) (lp_X6_read MB z m bg k 1 MH MR t1 t2 pl1 lo' cm hf hp (-1) rf t3 t4 fp1 fb1) := fun lo' t1 t2 t3 t4 =>
        ih k (pv + 1) _ _ _ _ _ _ _ _ _ _ _ _ _ _ _ _ _ _ (by omega) (by omega) (by omega) (by omega) (by omega) h6 (by omega) h8
      unfold f_X6_passOn
      rw [if_neg q3, if_neg q4]
      unfold f_X2_passesOver
      by_cases cl : lo = 0
      · rw [if_pos cl, if_pos cl]
        dsimp only
        rw [if_pos rfl]
        unfold f_X2_takeFragment
        by_cases v1 : r = 1
        · rw [if_pos v1, if_pos v1, s1, s2]
          dsimp only
          rw [if_neg c10]
          unfold f_X6_finish
          dsimp only
          rw [if_neg c10]
          exact fin1 lo
        · rw [if_neg v1, if_neg v1]
          by_cases v2 : r = 2
          · rw [if_pos v2, if_pos v2, s1, s2]
            dsimp only
            rw [if_pos rfl, if_pos rfl]
            exact go2 lo
          · rw [if_neg v2, if_neg v2]
            by_cases v3 : r = 3
            · have v4 : ¬ r = 4 := fun q => by rw [q] at v3; exact absurd v3 (by decide)
              rw [if_pos v3, if_pos v3]
              unfold f_X2_goOnWithRecord
              by_cases c : hf = 0
              · rw [if_pos c, if_pos c, qtell]
                generalize f_X6_tell W1 Y1 dm1 da1 5 fb1 = T
                obtain ⟨t1, t2, t3, t4⟩ := T
                dsimp only
                rw [if_pos rfl, if_pos rfl]
                exact keep lo t1 t2 t3 t4
              · rw [if_neg c, if_neg c, g1, g2]
                dsimp only
                rw [if_neg v4]
                dsimp only
                rw [if_pos rfl, if_pos rfl]
                exact ih k (pv + 1) _ _ _ _ _ _ _ _ _ _ _ _ _ _ _ _ _ _ (by omega) (by omega) (by omega) (by omega) (by omega) (by omega) (by omega) (fun q => absurd q c)
            · rw [if_neg v3, if_neg v3]
              by_cases v4 : r = 4
              · rw [if_pos v4, if_pos v4]
                unfold f_X2_goOnWithRecord
                by_cases c : hf = 0
                · rw [if_pos c, if_pos c, qtell]
                  generalize f_X6_tell W1 Y1 dm1 da1 5 fb1 = T
                  obtain ⟨t1, t2, t3, t4⟩ := T
                  dsimp only
                  rw [if_pos rfl, if_pos rfl]
                  exact keep lo t1 t2 t3 t4
                · rw [if_neg c, if_neg c, g1, g2]
                  dsimp only
                  rw [if_neg c10]
                  unfold f_X6_finish
                  dsimp only
                  rw [if_neg c10, qrd0 (by omega)]
                  exact ⟨rfl, rfl, rfl, rfl, rfl, rfl, rfl, rfl, Or.inr ⟨rfl, rfl⟩⟩
              · rw [if_neg v4, if_neg v4, qtell, qdrop h6]
                generalize f_X6_tell W1 Y1 dm1 da1 6 (fb1 + cm) = T
                obtain ⟨t1, t2, t3, t4⟩ := T
                dsimp only
                rw [if_pos rfl, if_pos rfl]
                exact unk lo t1 t2 t3 t4
      · rw [if_neg cl, if_neg cl]
        by_cases v3 : r = 3
        · rw [if_pos v3, if_pos v3]
          dsimp only
          rw [if_neg c10, if_pos rfl]
          exact keep 1 W1 Y1 dm1 da1
        · rw [if_neg v3, if_neg v3]
          by_cases v4 : r = 4
          · rw [if_pos v4, if_pos v4]
            dsimp only
            rw [if_neg c10, if_pos rfl]
            exact keep 0 W1 Y1 dm1 da1
          · rw [if_neg v4, if_neg v4]
            dsimp only
            rw [if_pos rfl]
            unfold f_X2_takeFragment
            by_cases v1 : r = 1
            · rw [if_pos v1, if_pos v1, s1, s2]
              dsimp only
              rw [if_neg c10]
              unfold f_X6_finish
              dsimp only
              rw [if_neg c10]
              exact fin1 0
            · rw [if_neg v1, if_neg v1]
              by_cases v2 : r = 2
              · rw [if_pos v2, if_pos v2, s1, s2]
                dsimp only
                rw [if_pos rfl, if_pos rfl]
                exact go2 0
              · rw [if_neg v2, if_neg v2, if_neg v3, if_neg v4, qtell, qdrop h6]
                generalize f_X6_tell W1 Y1 dm1 da1 6 (fb1 + cm) = T
                obtain ⟨t1, t2, t3, t4⟩ := T
                dsimp only
                rw [if_pos rfl, if_pos rfl]
                exact unk 0 t1 t2 t3 t4
end
def qR (Wf Yf MW MY : Nat → Int32) (pl bg lo dm da Mpl Mbg Mlo Mto Mtb Mhs Mhf : Int32) : Prop := Wf = MW ∧ Yf = MY ∧ pl = Mpl ∧ bg = Mbg ∧ lo = Mlo ∧ dm = Mto ∧ da = Mtb ∧ Mhs = 0 ∧ Mhf = 0
theorem qbegR (z v : Int32) : ∃ p b l : Int32, f_X2_beginAt z v = (p, b, l, 0, 0) ∧ f_X6_beginAt z v = (p, b, l, 0, 0, (-1), (-1), 0, 0) := by
  unfold f_X2_beginAt f_X6_beginAt
  rw [qpl2']
  split
  · split <;> exact ⟨_, _, _, rfl, by rw [kpl1]⟩
  · split <;> exact ⟨_, _, _, rfl, by rw [kpl3]⟩
theorem qxb0 {v : Int32} (hx : x_X5_begin v = none) : ¬ v < 0 ∧ v ≤ 4096 := by
  unfold x_X5_begin at hx
  split at hx
  · exact nomatch hx
  · next c1 =>
    split at hx
    · next c2 => exact ⟨c1, c2⟩
    · exact nomatch hx
theorem qxb1 {v : Int32} (hx : x_X5_begin v = some zIAE) : f_X6_isIn v 0 4096 = 0 := by
  unfold x_X5_begin at hx
  split at hx
  · next c => exact qisIn0 (fun q => absurd c (Int32.not_lt.mpr q.1))
  · split at hx
    · exact nomatch hx
    · next c2 => exact qisIn0 (fun q => c2 q.2)
section
variable {z al pl bg lo hs hf rs rf to tb v r ft z1 al1 pl1 bg1 lo1 hs1 hf1 rs1 rf1 to1 tb1 Z pl0 bg0 lo0 dm da m cm : Int32} {F MB Wf Yf MW MY : Nat → Int32}
theorem rR_clear_0 (_ : zok 4096 cm) (_ : zok 4096 m) (_ : zsz z) (_ : zpl pl) (_ : z = Z) (_ : m = al) (_ : qB F MB m) (hR : qR Wf Yf MW MY pl0 bg0 lo0 dm da pl bg lo to tb hs hf) (hx : x_X5_clear v = none) (e : f_X6_clear Z al pl bg lo hs hf rs rf to tb v = (ft, z1, al1, pl1, bg1, lo1, hs1, hf1, rs1, rf1, to1, tb1)) :
    qR Wf Yf MW MY (f_X5_clear pl0 bg0 lo0 dm da z m v).1 (f_X5_clear pl0 bg0 lo0 dm da z m v).2.1 (f_X5_clear pl0 bg0 lo0 dm da z m v).2.2.1 (f_X5_clear pl0 bg0 lo0 dm da z m v).2.2.2.1 (f_X5_clear pl0 bg0 lo0 dm da z m v).2.2.2.2.1 pl1 bg1 lo1 to1 tb1 hs1 hf1 := by
  obtain ⟨c1, c2⟩ := qx_clear0 hx
  have hs : f_X0_startAnew m v = (v, f_X3_shorten m 0) := rfl
  obtain ⟨p, b, l, b1, b2⟩ := qbegR v 0
  unfold f_X6_clear at e
  rw [if_neg (qisIn1 (Int32.not_lt.mp c1) c2), b2] at e
  dsimp only at e
  cases e
  unfold f_X5_clear
  rw [if_neg c1, if_pos c2, hs]
  dsimp only
  rw [b1]
  exact ⟨hR.1, hR.2.1, rfl, rfl, rfl, rfl, rfl, rfl, rfl⟩
theorem rR_clear_1 (_ : zok 4096 cm) (_ : zok 4096 m) (_ : zsz z) (_ : zpl pl) (_ : z = Z) (_ : m = al) (_ : qB F MB m) (hR : qR Wf Yf MW MY pl0 bg0 lo0 dm da pl bg lo to tb hs hf) (hx : x_X5_clear v = some zIAE) (e : f_X6_clear Z al pl bg lo hs hf rs rf to tb v = (ft, z1, al1, pl1, bg1, lo1, hs1, hf1, rs1, rf1, to1, tb1)) :
    qR Wf Yf MW MY pl0 bg0 lo0 dm da pl1 bg1 lo1 to1 tb1 hs1 hf1 := by
  unfold f_X6_clear at e
  rw [if_pos (qx_clear1 hx)] at e
  cases e
  exact hR
theorem rR_cut_0 (_ : zok 4096 cm) (_ : zok 4096 m) (_ : zsz z) (_ : zpl pl) (ez : z = Z) (em : m = al) (_ : qB F MB m) (hR : qR Wf Yf MW MY pl0 bg0 lo0 dm da pl bg lo to tb hs hf) (hx : x_X5_cut m v = none) (e : f_X6_cut Z al pl bg lo hs hf rs rf to tb v = (r, ft, al1, pl1, bg1, lo1, hs1, hf1, rs1, rf1, to1, tb1)) :
    qR Wf Yf MW MY (f_X5_cut pl0 bg0 lo0 dm da z m v).2.1 (f_X5_cut pl0 bg0 lo0 dm da z m v).2.2.1 (f_X5_cut pl0 bg0 lo0 dm da z m v).2.2.2.1 (f_X5_cut pl0 bg0 lo0 dm da z m v).2.2.2.2.1 (f_X5_cut pl0 bg0 lo0 dm da z m v).2.2.2.2.2.1 pl1 bg1 lo1 to1 tb1 hs1 hf1 := by
  subst em; subst ez
  obtain ⟨c1, c2⟩ := qx_cut0 hx
  obtain ⟨p, b, l, b1, b2⟩ := qbegR z 0
  unfold f_X6_cut at e
  rw [if_neg (qisIn1 (Int32.not_lt.mp c1) c2), b2] at e
  dsimp only at e
  cases e
  unfold f_X5_cut
  rw [if_neg c1, if_pos c2, b1]
  exact ⟨hR.1, hR.2.1, rfl, rfl, rfl, rfl, rfl, rfl, rfl⟩
theorem rR_cut_1 (_ : zok 4096 cm) (_ : zok 4096 m) (_ : zsz z) (_ : zpl pl) (_ : z = Z) (em : m = al) (_ : qB F MB m) (hR : qR Wf Yf MW MY pl0 bg0 lo0 dm da pl bg lo to tb hs hf) (hx : x_X5_cut m v = some zIAE) (e : f_X6_cut Z al pl bg lo hs hf rs rf to tb v = (r, ft, al1, pl1, bg1, lo1, hs1, hf1, rs1, rf1, to1, tb1)) :
    qR Wf Yf MW MY pl0 bg0 lo0 dm da pl1 bg1 lo1 to1 tb1 hs1 hf1 := by
  subst em
  unfold f_X6_cut at e
  rw [if_pos (qx_cut1 hx)] at e
  cases e
  exact hR
theorem rR_begin_0 (_ : zok 4096 cm) (_ : zok 4096 m) (_ : zsz z) (_ : zpl pl) (ez : z = Z) (_ : m = al) (_ : qB F MB m) (hR : qR Wf Yf MW MY pl0 bg0 lo0 dm da pl bg lo to tb hs hf) (hx : x_X5_begin v = none) (e : f_X6_begin Z pl bg lo hs hf rs rf to tb v = (r, ft, pl1, bg1, lo1, hs1, hf1, rs1, rf1, to1, tb1)) :
    qR Wf Yf MW MY (f_X5_begin pl0 bg0 lo0 dm da z v).2.1 (f_X5_begin pl0 bg0 lo0 dm da z v).2.2.1 (f_X5_begin pl0 bg0 lo0 dm da z v).2.2.2.1 (f_X5_begin pl0 bg0 lo0 dm da z v).2.2.2.2.1 (f_X5_begin pl0 bg0 lo0 dm da z v).2.2.2.2.2 pl1 bg1 lo1 to1 tb1 hs1 hf1 := by
  subst ez
  obtain ⟨c1, c2⟩ := qxb0 hx
  obtain ⟨p, b, l, b1, b2⟩ := qbegR z v
  unfold f_X6_begin at e
  rw [if_neg (qisIn1 (Int32.not_lt.mp c1) c2), b2] at e
  dsimp only at e
  cases e
  unfold f_X5_begin
  rw [if_neg c1, if_pos c2, b1]
  exact ⟨hR.1, hR.2.1, rfl, rfl, rfl, rfl, rfl, rfl, rfl⟩
theorem rR_begin_1 (_ : zok 4096 cm) (_ : zok 4096 m) (_ : zsz z) (_ : zpl pl) (_ : z = Z) (_ : m = al) (_ : qB F MB m) (hR : qR Wf Yf MW MY pl0 bg0 lo0 dm da pl bg lo to tb hs hf) (hx : x_X5_begin v = some zIAE) (e : f_X6_begin Z pl bg lo hs hf rs rf to tb v = (r, ft, pl1, bg1, lo1, hs1, hf1, rs1, rf1, to1, tb1)) :
    qR Wf Yf MW MY pl0 bg0 lo0 dm da pl1 bg1 lo1 to1 tb1 hs1 hf1 := by
  unfold f_X6_begin at e
  rw [if_pos (qxb1 hx)] at e
  cases e
  exact hR
end
section
variable {z m pl bg lo fp fb dm da cm r1 rp1 hf1 pl1 lo1 fp1 fb1 dm1 da1 cm1 Z al Mpl Mbg Mlo Mhs Mhf Mhp Mto Mtb Mfr Mln r2 Mft1 Mpl1 Mlo1 Mhs1 Mhf1 Mhp1 Mrs1 Mrf1 Mto1 Mtb1 Mfr1 Mln1 : Int32} {F MB Wf Yf Cf MH MR MW MY Wf1 Yf1 Cf1 MH1 MR1 MW1 MY1 : Nat → Int32}
theorem q_read (hc : zok 4096 cm) (hm : zok 4096 m) (hz : zsz z) (hP : zpl Mpl) (ez : z = Z) (em : m = al) (hF : qB F MB m) (hR : qR Wf Yf MW MY pl bg lo dm da Mpl Mbg Mlo Mto Mtb Mhs Mhf) (e1 : f_X5_read Wf Yf Cf F pl bg lo fp fb dm da cm z m = (r1, Wf1, Yf1, Cf1, rp1, hf1, pl1, lo1, fp1, fb1, dm1, da1, cm1)) (e2 : f_X6_read MB MH MR MW MY Z al Mpl Mbg Mlo Mhs Mhf Mhp Mto Mtb Mfr Mln = (r2, MH1, MR1, MW1, MY1, Mft1, Mpl1, Mlo1, Mhs1, Mhf1, Mhp1, Mrs1, Mrf1, Mto1, Mtb1, Mfr1, Mln1)) :
    r1 = r2 ∧ qR Wf1 Yf1 MW1 MY1 pl1 bg lo1 dm1 da1 Mpl1 Mbg Mlo1 Mto1 Mtb1 Mhs1 Mhf1 := by
  subst ez; subst em
  obtain ⟨w1, w2, w3, w4, w5, w6, w7, w8, w9⟩ := hR
  subst w1; subst w2; subst w3; subst w4; subst w5; subst w6; subst w7; subst w8; subst w9
  obtain ⟨p1, p2⟩ := id hP
  have o0 : (0 : Int32).toInt = 0 := rfl
  have Q := qrd (bg := bg) hF hm hz 4098 5010 0 Wf Yf Cf MH MR (-1) 0 pl lo fp fb dm da 0 Mhp (-1) Mfr Mln (by decide) (by decide) (by decide) (by omega) (by omega) (by decide) (by omega) (fun _ => rfl)
  unfold f_X5_read f_X2_findRecord at e1
  unfold f_X6_read at e2
  rw [qdrop hc.1] at e1
  dsimp only at e1
  rw [e2] at Q
  generalize lp_X2_findRecord F bg z m 4098 0 Wf Yf Cf (-1) 0 pl lo fp fb dm da 0 = T at e1 Q
  obtain ⟨t1, t2, t3, t4, t5, t6, t7, t8, t9, t10, t11, t12, t13⟩ := T
  obtain ⟨h1, h2, h3, h4, h5, h6, h7, h8, h9⟩ := Q
  dsimp only at e1
  rcases h9 with ⟨q1, q2⟩ | ⟨q1, q2⟩
  · subst q1
    rw [if_pos rfl] at e1
    cases e1
    exact ⟨q2.symm, h1, h2, h3, rfl, h4, h5, h6, h7, h8⟩
  · subst q1
    rw [if_neg (show ¬ (1 : Int32) = 0 by decide)] at e1
    cases e1
    exact ⟨q2.symm, h1, h2, h3, rfl, h4, h5, h6, h7, h8⟩
theorem rR_read (hc : zok 4096 cm) (hm : zok 4096 m) (hz : zsz z) (hP : zpl Mpl) (ez : z = Z) (em : m = al) (hF : qB F MB m) (hR : qR Wf Yf MW MY pl bg lo dm da Mpl Mbg Mlo Mto Mtb Mhs Mhf) (e1 : f_X5_read Wf Yf Cf F pl bg lo fp fb dm da cm z m = (r1, Wf1, Yf1, Cf1, rp1, hf1, pl1, lo1, fp1, fb1, dm1, da1, cm1)) (e2 : f_X6_read MB MH MR MW MY Z al Mpl Mbg Mlo Mhs Mhf Mhp Mto Mtb Mfr Mln = (r2, MH1, MR1, MW1, MY1, Mft1, Mpl1, Mlo1, Mhs1, Mhf1, Mhp1, Mrs1, Mrf1, Mto1, Mtb1, Mfr1, Mln1)) :
    qR Wf1 Yf1 MW1 MY1 pl1 bg lo1 dm1 da1 Mpl1 Mbg Mlo1 Mto1 Mtb1 Mhs1 Mhf1 := (q_read hc hm hz hP ez em hF hR e1 e2).2
end
section
variable {bm bs hb z m pl bg lo fp fb dm da cm r1 rp1 hf1 pl1 lo1 fp1 fb1 dm1 da1 cm1 Z al Mpl Mbg Mlo Mhs Mhf Mhp Mto Mtb Mfr Mln r2 Mft1 Mpl1 Mlo1 Mhs1 Mhf1 Mhp1 Mrs1 Mrf1 Mto1 Mtb1 Mfr1 Mln1 : Int32} {Bf MU F MB Wf Yf Cf MH MR MW MY Wf1 Yf1 Cf1 MH1 MR1 MW1 MY1 : Nat → Int32}
theorem qd_read (ez : z = Z) (_ : bm = bs) (em : m = al) (_ : qB Bf MU bm) (_ : hb = 0) (hF : qB F MB m) (hR : qR Wf Yf MW MY pl bg lo dm da Mpl Mbg Mlo Mto Mtb Mhs Mhf) (hz : zsz z) (hm : zok 4096 m) (_ : zok 400 bm) (_ : zsz Z) (_ : zok 4096 al) (_ : zok 400 bs) (hc : zok 4096 cm) (hP : zpl Mpl) (e1 : f_X5_read Wf Yf Cf F pl bg lo fp fb dm da cm z m = (r1, Wf1, Yf1, Cf1, rp1, hf1, pl1, lo1, fp1, fb1, dm1, da1, cm1)) (e2 : f_X6_read MB MH MR MW MY Z al Mpl Mbg Mlo Mhs Mhf Mhp Mto Mtb Mfr Mln = (r2, MH1, MR1, MW1, MY1, Mft1, Mpl1, Mlo1, Mhs1, Mhf1, Mhp1, Mrs1, Mrf1, Mto1, Mtb1, Mfr1, Mln1)) : r1 = r2 := (q_read hc hm hz hP ez em hF hR e1 e2).1
end
def zInv (n : Nat) (Bf : Nat → Int32) (Wf : Nat → Int32) (Yf : Nat → Int32) (Cf : Nat → Int32) (F : Nat → Int32) (MB : Nat → Int32) (MU : Nat → Int32) (MH : Nat → Int32) (MR : Nat → Int32) (MW : Nat → Int32) (MY : Nat → Int32) (bm : Int32) (rp : Int32) (hf : Int32) (pl : Int32) (bg : Int32) (lo : Int32) (fp : Int32) (fb : Int32) (dm : Int32) (da : Int32) (cm : Int32) (z : Int32) (m : Int32) (Mft : Int32) (Msz : Int32) (Mal : Int32) (Mbs : Int32) (Mpl : Int32) (Mbg : Int32) (Mlo : Int32) (Mhs : Int32) (Mhf : Int32) (Mhp : Int32) (Mrs : Int32) (Mrf : Int32) (Mto : Int32) (Mtb : Int32) (Mfr : Int32) (Mln : Int32) (Mhb : Int32) : Prop := zok 400 bm ∧ zok 4096 m ∧ zok 4096 cm ∧ zsz z ∧ zbo lo ∧ zdok (8196 * (512 - n)) dm ∧ zsz Msz ∧ zok 4096 Mal ∧ zok 400 Mbs ∧ zby 4096 MB ∧ zpl Mpl ∧ zdok (10020 * (512 - n)) Mto ∧ (0 ≤ Mhs.toInt ∧ Mhs.toInt ≤ Mpl.toInt ∧ Mhs.toInt ≤ 4096) ∧ zrs Mrs ∧ z = Msz ∧ bm = Mbs ∧ m = Mal ∧ qB Bf MU bm ∧ Mhb = 0 ∧ qB F MB m ∧ qR Wf Yf MW MY pl bg lo dm da Mpl Mbg Mlo Mto Mtb Mhs Mhf
theorem zdok_eq {k : Nat} {x y : Int32} (e : x = 0) (h : zdok k y) : zdok k x := by
  rw [e]
  exact zdok_0 h
theorem zInv_0 : zInv 0 (fun _ => 0) (fun _ => 0) (fun _ => 0) (fun _ => 0) (fun _ => 0) (fun _ => 0) (fun _ => 0) (fun _ => 0) (fun _ => 0) (fun _ => 0) (fun _ => 0) 0 (-1) 0 0 0 0 0 0 0 0 0 64 0 0 64 0 0 0 0 0 0 0 0 (-1) (-1) 0 0 0 0 0 := ⟨⟨by decide, by decide, by decide⟩, ⟨by decide, by decide, by decide⟩, ⟨by decide, by decide, by decide⟩, ⟨by decide, by decide⟩, rfl, ⟨by decide, by decide⟩, ⟨by decide, by decide⟩, ⟨by decide, by decide, by decide⟩, ⟨by decide, by decide, by decide⟩, (fun _ _ => ⟨(by show 0 ≤ (0 : Int32).toInt; decide), (by show (0 : Int32).toInt ≤ 255; decide)⟩), ⟨by decide, by decide⟩, ⟨by decide, by decide⟩, ⟨by decide, by decide, by decide⟩, ⟨by decide, by decide⟩, rfl, rfl, rfl, qB_0, rfl, qB_0, ⟨rfl, rfl, rfl, rfl, rfl, rfl, rfl, rfl, rfl⟩⟩
theorem zI_bm {n : Nat} {Bf Wf Yf Cf F MB MU MH MR MW MY : Nat → Int32} {bm rp hf pl bg lo fp fb dm da cm z m Mft Msz Mal Mbs Mpl Mbg Mlo Mhs Mhf Mhp Mrs Mrf Mto Mtb Mfr Mln Mhb : Int32} (hI : (zInv n Bf Wf Yf Cf F MB MU MH MR MW MY bm rp hf pl bg lo fp fb dm da cm z m Mft Msz Mal Mbs Mpl Mbg Mlo Mhs Mhf Mhp Mrs Mrf Mto Mtb Mfr Mln Mhb)) : zok 400 bm := by
  obtain ⟨h_b, h_m, h_c, h_z, h_l, h_d, h_Z, h_A, h_B, h_Y, h_P, h_T, h_H, h_R, h_rz, h_rb, h_rm, h_rU, h_rh, h_rF, h_rR⟩ := hI
  exact h_b
theorem zI_m {n : Nat} {Bf Wf Yf Cf F MB MU MH MR MW MY : Nat → Int32} {bm rp hf pl bg lo fp fb dm da cm z m Mft Msz Mal Mbs Mpl Mbg Mlo Mhs Mhf Mhp Mrs Mrf Mto Mtb Mfr Mln Mhb : Int32} (hI : (zInv n Bf Wf Yf Cf F MB MU MH MR MW MY bm rp hf pl bg lo fp fb dm da cm z m Mft Msz Mal Mbs Mpl Mbg Mlo Mhs Mhf Mhp Mrs Mrf Mto Mtb Mfr Mln Mhb)) : zok 4096 m := by
  obtain ⟨h_b, h_m, h_c, h_z, h_l, h_d, h_Z, h_A, h_B, h_Y, h_P, h_T, h_H, h_R, h_rz, h_rb, h_rm, h_rU, h_rh, h_rF, h_rR⟩ := hI
  exact h_m
theorem zI_cm {n : Nat} {Bf Wf Yf Cf F MB MU MH MR MW MY : Nat → Int32} {bm rp hf pl bg lo fp fb dm da cm z m Mft Msz Mal Mbs Mpl Mbg Mlo Mhs Mhf Mhp Mrs Mrf Mto Mtb Mfr Mln Mhb : Int32} (hI : (zInv n Bf Wf Yf Cf F MB MU MH MR MW MY bm rp hf pl bg lo fp fb dm da cm z m Mft Msz Mal Mbs Mpl Mbg Mlo Mhs Mhf Mhp Mrs Mrf Mto Mtb Mfr Mln Mhb)) : zok 4096 cm := by
  obtain ⟨h_b, h_m, h_c, h_z, h_l, h_d, h_Z, h_A, h_B, h_Y, h_P, h_T, h_H, h_R, h_rz, h_rb, h_rm, h_rU, h_rh, h_rF, h_rR⟩ := hI
  exact h_c
theorem zI_z {n : Nat} {Bf Wf Yf Cf F MB MU MH MR MW MY : Nat → Int32} {bm rp hf pl bg lo fp fb dm da cm z m Mft Msz Mal Mbs Mpl Mbg Mlo Mhs Mhf Mhp Mrs Mrf Mto Mtb Mfr Mln Mhb : Int32} (hI : (zInv n Bf Wf Yf Cf F MB MU MH MR MW MY bm rp hf pl bg lo fp fb dm da cm z m Mft Msz Mal Mbs Mpl Mbg Mlo Mhs Mhf Mhp Mrs Mrf Mto Mtb Mfr Mln Mhb)) : zsz z := by
  obtain ⟨h_b, h_m, h_c, h_z, h_l, h_d, h_Z, h_A, h_B, h_Y, h_P, h_T, h_H, h_R, h_rz, h_rb, h_rm, h_rU, h_rh, h_rF, h_rR⟩ := hI
  exact h_z
theorem zI_lo {n : Nat} {Bf Wf Yf Cf F MB MU MH MR MW MY : Nat → Int32} {bm rp hf pl bg lo fp fb dm da cm z m Mft Msz Mal Mbs Mpl Mbg Mlo Mhs Mhf Mhp Mrs Mrf Mto Mtb Mfr Mln Mhb : Int32} (hI : (zInv n Bf Wf Yf Cf F MB MU MH MR MW MY bm rp hf pl bg lo fp fb dm da cm z m Mft Msz Mal Mbs Mpl Mbg Mlo Mhs Mhf Mhp Mrs Mrf Mto Mtb Mfr Mln Mhb)) : zbo lo := by
  obtain ⟨h_b, h_m, h_c, h_z, h_l, h_d, h_Z, h_A, h_B, h_Y, h_P, h_T, h_H, h_R, h_rz, h_rb, h_rm, h_rU, h_rh, h_rF, h_rR⟩ := hI
  exact h_l
theorem zI_Msz {n : Nat} {Bf Wf Yf Cf F MB MU MH MR MW MY : Nat → Int32} {bm rp hf pl bg lo fp fb dm da cm z m Mft Msz Mal Mbs Mpl Mbg Mlo Mhs Mhf Mhp Mrs Mrf Mto Mtb Mfr Mln Mhb : Int32} (hI : (zInv n Bf Wf Yf Cf F MB MU MH MR MW MY bm rp hf pl bg lo fp fb dm da cm z m Mft Msz Mal Mbs Mpl Mbg Mlo Mhs Mhf Mhp Mrs Mrf Mto Mtb Mfr Mln Mhb)) : zsz Msz := by
  obtain ⟨h_b, h_m, h_c, h_z, h_l, h_d, h_Z, h_A, h_B, h_Y, h_P, h_T, h_H, h_R, h_rz, h_rb, h_rm, h_rU, h_rh, h_rF, h_rR⟩ := hI
  exact h_Z
theorem zI_Mal {n : Nat} {Bf Wf Yf Cf F MB MU MH MR MW MY : Nat → Int32} {bm rp hf pl bg lo fp fb dm da cm z m Mft Msz Mal Mbs Mpl Mbg Mlo Mhs Mhf Mhp Mrs Mrf Mto Mtb Mfr Mln Mhb : Int32} (hI : (zInv n Bf Wf Yf Cf F MB MU MH MR MW MY bm rp hf pl bg lo fp fb dm da cm z m Mft Msz Mal Mbs Mpl Mbg Mlo Mhs Mhf Mhp Mrs Mrf Mto Mtb Mfr Mln Mhb)) : zok 4096 Mal := by
  obtain ⟨h_b, h_m, h_c, h_z, h_l, h_d, h_Z, h_A, h_B, h_Y, h_P, h_T, h_H, h_R, h_rz, h_rb, h_rm, h_rU, h_rh, h_rF, h_rR⟩ := hI
  exact h_A
theorem zI_Mbs {n : Nat} {Bf Wf Yf Cf F MB MU MH MR MW MY : Nat → Int32} {bm rp hf pl bg lo fp fb dm da cm z m Mft Msz Mal Mbs Mpl Mbg Mlo Mhs Mhf Mhp Mrs Mrf Mto Mtb Mfr Mln Mhb : Int32} (hI : (zInv n Bf Wf Yf Cf F MB MU MH MR MW MY bm rp hf pl bg lo fp fb dm da cm z m Mft Msz Mal Mbs Mpl Mbg Mlo Mhs Mhf Mhp Mrs Mrf Mto Mtb Mfr Mln Mhb)) : zok 400 Mbs := by
  obtain ⟨h_b, h_m, h_c, h_z, h_l, h_d, h_Z, h_A, h_B, h_Y, h_P, h_T, h_H, h_R, h_rz, h_rb, h_rm, h_rU, h_rh, h_rF, h_rR⟩ := hI
  exact h_B
theorem zI_MB {n : Nat} {Bf Wf Yf Cf F MB MU MH MR MW MY : Nat → Int32} {bm rp hf pl bg lo fp fb dm da cm z m Mft Msz Mal Mbs Mpl Mbg Mlo Mhs Mhf Mhp Mrs Mrf Mto Mtb Mfr Mln Mhb : Int32} (hI : (zInv n Bf Wf Yf Cf F MB MU MH MR MW MY bm rp hf pl bg lo fp fb dm da cm z m Mft Msz Mal Mbs Mpl Mbg Mlo Mhs Mhf Mhp Mrs Mrf Mto Mtb Mfr Mln Mhb)) : zby 4096 MB := by
  obtain ⟨h_b, h_m, h_c, h_z, h_l, h_d, h_Z, h_A, h_B, h_Y, h_P, h_T, h_H, h_R, h_rz, h_rb, h_rm, h_rU, h_rh, h_rF, h_rR⟩ := hI
  exact h_Y
theorem zI_Mpl {n : Nat} {Bf Wf Yf Cf F MB MU MH MR MW MY : Nat → Int32} {bm rp hf pl bg lo fp fb dm da cm z m Mft Msz Mal Mbs Mpl Mbg Mlo Mhs Mhf Mhp Mrs Mrf Mto Mtb Mfr Mln Mhb : Int32} (hI : (zInv n Bf Wf Yf Cf F MB MU MH MR MW MY bm rp hf pl bg lo fp fb dm da cm z m Mft Msz Mal Mbs Mpl Mbg Mlo Mhs Mhf Mhp Mrs Mrf Mto Mtb Mfr Mln Mhb)) : zpl Mpl := by
  obtain ⟨h_b, h_m, h_c, h_z, h_l, h_d, h_Z, h_A, h_B, h_Y, h_P, h_T, h_H, h_R, h_rz, h_rb, h_rm, h_rU, h_rh, h_rF, h_rR⟩ := hI
  exact h_P
theorem zI_Mhs {n : Nat} {Bf Wf Yf Cf F MB MU MH MR MW MY : Nat → Int32} {bm rp hf pl bg lo fp fb dm da cm z m Mft Msz Mal Mbs Mpl Mbg Mlo Mhs Mhf Mhp Mrs Mrf Mto Mtb Mfr Mln Mhb : Int32} (hI : (zInv n Bf Wf Yf Cf F MB MU MH MR MW MY bm rp hf pl bg lo fp fb dm da cm z m Mft Msz Mal Mbs Mpl Mbg Mlo Mhs Mhf Mhp Mrs Mrf Mto Mtb Mfr Mln Mhb)) : (0 ≤ Mhs.toInt ∧ Mhs.toInt ≤ Mpl.toInt ∧ Mhs.toInt ≤ 4096) := by
  obtain ⟨h_b, h_m, h_c, h_z, h_l, h_d, h_Z, h_A, h_B, h_Y, h_P, h_T, h_H, h_R, h_rz, h_rb, h_rm, h_rU, h_rh, h_rF, h_rR⟩ := hI
  exact h_H
theorem zI_Mrs {n : Nat} {Bf Wf Yf Cf F MB MU MH MR MW MY : Nat → Int32} {bm rp hf pl bg lo fp fb dm da cm z m Mft Msz Mal Mbs Mpl Mbg Mlo Mhs Mhf Mhp Mrs Mrf Mto Mtb Mfr Mln Mhb : Int32} (hI : (zInv n Bf Wf Yf Cf F MB MU MH MR MW MY bm rp hf pl bg lo fp fb dm da cm z m Mft Msz Mal Mbs Mpl Mbg Mlo Mhs Mhf Mhp Mrs Mrf Mto Mtb Mfr Mln Mhb)) : zrs Mrs := by
  obtain ⟨h_b, h_m, h_c, h_z, h_l, h_d, h_Z, h_A, h_B, h_Y, h_P, h_T, h_H, h_R, h_rz, h_rb, h_rm, h_rU, h_rh, h_rF, h_rR⟩ := hI
  exact h_R
theorem zI_dm {n : Nat} (hn : n < 512) {Bf Wf Yf Cf F MB MU MH MR MW MY : Nat → Int32} {bm rp hf pl bg lo fp fb dm da cm z m Mft Msz Mal Mbs Mpl Mbg Mlo Mhs Mhf Mhp Mrs Mrf Mto Mtb Mfr Mln Mhb : Int32} (hI : (zInv n Bf Wf Yf Cf F MB MU MH MR MW MY bm rp hf pl bg lo fp fb dm da cm z m Mft Msz Mal Mbs Mpl Mbg Mlo Mhs Mhf Mhp Mrs Mrf Mto Mtb Mfr Mln Mhb)) : zdok 8196 dm := by
  obtain ⟨h_b, h_m, h_c, h_z, h_l, h_d, h_Z, h_A, h_B, h_Y, h_P, h_T, h_H, h_R, h_rz, h_rb, h_rm, h_rU, h_rh, h_rF, h_rR⟩ := hI
  exact zdok_le h_d (by omega)
theorem zI_Mto {n : Nat} (hn : n < 512) {Bf Wf Yf Cf F MB MU MH MR MW MY : Nat → Int32} {bm rp hf pl bg lo fp fb dm da cm z m Mft Msz Mal Mbs Mpl Mbg Mlo Mhs Mhf Mhp Mrs Mrf Mto Mtb Mfr Mln Mhb : Int32} (hI : (zInv n Bf Wf Yf Cf F MB MU MH MR MW MY bm rp hf pl bg lo fp fb dm da cm z m Mft Msz Mal Mbs Mpl Mbg Mlo Mhs Mhf Mhp Mrs Mrf Mto Mtb Mfr Mln Mhb)) : zdok 10020 Mto := by
  obtain ⟨h_b, h_m, h_c, h_z, h_l, h_d, h_Z, h_A, h_B, h_Y, h_P, h_T, h_H, h_R, h_rz, h_rb, h_rm, h_rU, h_rh, h_rF, h_rR⟩ := hI
  exact zdok_le h_T (by omega)
theorem zI_rz {n : Nat} {Bf Wf Yf Cf F MB MU MH MR MW MY : Nat → Int32} {bm rp hf pl bg lo fp fb dm da cm z m Mft Msz Mal Mbs Mpl Mbg Mlo Mhs Mhf Mhp Mrs Mrf Mto Mtb Mfr Mln Mhb : Int32} (hI : (zInv n Bf Wf Yf Cf F MB MU MH MR MW MY bm rp hf pl bg lo fp fb dm da cm z m Mft Msz Mal Mbs Mpl Mbg Mlo Mhs Mhf Mhp Mrs Mrf Mto Mtb Mfr Mln Mhb)) : z = Msz := by
  obtain ⟨h_b, h_m, h_c, h_z, h_l, h_d, h_Z, h_A, h_B, h_Y, h_P, h_T, h_H, h_R, h_rz, h_rb, h_rm, h_rU, h_rh, h_rF, h_rR⟩ := hI
  exact h_rz
theorem zI_rb {n : Nat} {Bf Wf Yf Cf F MB MU MH MR MW MY : Nat → Int32} {bm rp hf pl bg lo fp fb dm da cm z m Mft Msz Mal Mbs Mpl Mbg Mlo Mhs Mhf Mhp Mrs Mrf Mto Mtb Mfr Mln Mhb : Int32} (hI : (zInv n Bf Wf Yf Cf F MB MU MH MR MW MY bm rp hf pl bg lo fp fb dm da cm z m Mft Msz Mal Mbs Mpl Mbg Mlo Mhs Mhf Mhp Mrs Mrf Mto Mtb Mfr Mln Mhb)) : bm = Mbs := by
  obtain ⟨h_b, h_m, h_c, h_z, h_l, h_d, h_Z, h_A, h_B, h_Y, h_P, h_T, h_H, h_R, h_rz, h_rb, h_rm, h_rU, h_rh, h_rF, h_rR⟩ := hI
  exact h_rb
theorem zI_rm {n : Nat} {Bf Wf Yf Cf F MB MU MH MR MW MY : Nat → Int32} {bm rp hf pl bg lo fp fb dm da cm z m Mft Msz Mal Mbs Mpl Mbg Mlo Mhs Mhf Mhp Mrs Mrf Mto Mtb Mfr Mln Mhb : Int32} (hI : (zInv n Bf Wf Yf Cf F MB MU MH MR MW MY bm rp hf pl bg lo fp fb dm da cm z m Mft Msz Mal Mbs Mpl Mbg Mlo Mhs Mhf Mhp Mrs Mrf Mto Mtb Mfr Mln Mhb)) : m = Mal := by
  obtain ⟨h_b, h_m, h_c, h_z, h_l, h_d, h_Z, h_A, h_B, h_Y, h_P, h_T, h_H, h_R, h_rz, h_rb, h_rm, h_rU, h_rh, h_rF, h_rR⟩ := hI
  exact h_rm
theorem zI_rU {n : Nat} {Bf Wf Yf Cf F MB MU MH MR MW MY : Nat → Int32} {bm rp hf pl bg lo fp fb dm da cm z m Mft Msz Mal Mbs Mpl Mbg Mlo Mhs Mhf Mhp Mrs Mrf Mto Mtb Mfr Mln Mhb : Int32} (hI : (zInv n Bf Wf Yf Cf F MB MU MH MR MW MY bm rp hf pl bg lo fp fb dm da cm z m Mft Msz Mal Mbs Mpl Mbg Mlo Mhs Mhf Mhp Mrs Mrf Mto Mtb Mfr Mln Mhb)) : qB Bf MU bm := by
  obtain ⟨h_b, h_m, h_c, h_z, h_l, h_d, h_Z, h_A, h_B, h_Y, h_P, h_T, h_H, h_R, h_rz, h_rb, h_rm, h_rU, h_rh, h_rF, h_rR⟩ := hI
  exact h_rU
theorem zI_rh {n : Nat} {Bf Wf Yf Cf F MB MU MH MR MW MY : Nat → Int32} {bm rp hf pl bg lo fp fb dm da cm z m Mft Msz Mal Mbs Mpl Mbg Mlo Mhs Mhf Mhp Mrs Mrf Mto Mtb Mfr Mln Mhb : Int32} (hI : (zInv n Bf Wf Yf Cf F MB MU MH MR MW MY bm rp hf pl bg lo fp fb dm da cm z m Mft Msz Mal Mbs Mpl Mbg Mlo Mhs Mhf Mhp Mrs Mrf Mto Mtb Mfr Mln Mhb)) : Mhb = 0 := by
  obtain ⟨h_b, h_m, h_c, h_z, h_l, h_d, h_Z, h_A, h_B, h_Y, h_P, h_T, h_H, h_R, h_rz, h_rb, h_rm, h_rU, h_rh, h_rF, h_rR⟩ := hI
  exact h_rh
theorem zI_rF {n : Nat} {Bf Wf Yf Cf F MB MU MH MR MW MY : Nat → Int32} {bm rp hf pl bg lo fp fb dm da cm z m Mft Msz Mal Mbs Mpl Mbg Mlo Mhs Mhf Mhp Mrs Mrf Mto Mtb Mfr Mln Mhb : Int32} (hI : (zInv n Bf Wf Yf Cf F MB MU MH MR MW MY bm rp hf pl bg lo fp fb dm da cm z m Mft Msz Mal Mbs Mpl Mbg Mlo Mhs Mhf Mhp Mrs Mrf Mto Mtb Mfr Mln Mhb)) : qB F MB m := by
  obtain ⟨h_b, h_m, h_c, h_z, h_l, h_d, h_Z, h_A, h_B, h_Y, h_P, h_T, h_H, h_R, h_rz, h_rb, h_rm, h_rU, h_rh, h_rF, h_rR⟩ := hI
  exact h_rF
theorem zI_rR {n : Nat} {Bf Wf Yf Cf F MB MU MH MR MW MY : Nat → Int32} {bm rp hf pl bg lo fp fb dm da cm z m Mft Msz Mal Mbs Mpl Mbg Mlo Mhs Mhf Mhp Mrs Mrf Mto Mtb Mfr Mln Mhb : Int32} (hI : (zInv n Bf Wf Yf Cf F MB MU MH MR MW MY bm rp hf pl bg lo fp fb dm da cm z m Mft Msz Mal Mbs Mpl Mbg Mlo Mhs Mhf Mhp Mrs Mrf Mto Mtb Mfr Mln Mhb)) : qR Wf Yf MW MY pl bg lo dm da Mpl Mbg Mlo Mto Mtb Mhs Mhf := by
  obtain ⟨h_b, h_m, h_c, h_z, h_l, h_d, h_Z, h_A, h_B, h_Y, h_P, h_T, h_H, h_R, h_rz, h_rb, h_rm, h_rU, h_rh, h_rF, h_rR⟩ := hI
  exact h_rR
theorem ci_clear_0 {n : Nat} (hn : n < 512) {Bf Wf Yf Cf F MB MU MH MR MW MY : Nat → Int32} {bm rp hf pl bg lo fp fb dm da cm z m Mft Msz Mal Mbs Mpl Mbg Mlo Mhs Mhf Mhp Mrs Mrf Mto Mtb Mfr Mln Mhb : Int32} (hI : (zInv n Bf Wf Yf Cf F MB MU MH MR MW MY bm rp hf pl bg lo fp fb dm da cm z m Mft Msz Mal Mbs Mpl Mbg Mlo Mhs Mhf Mhp Mrs Mrf Mto Mtb Mfr Mln Mhb)) {a1 : Int32} (hx : x_X5_clear a1 = none) {Mftq1 : Int32} {Mszq1 : Int32} {Malq1 : Int32} {Mplq1 : Int32} {Mbgq1 : Int32} {Mloq1 : Int32} {Mhsq1 : Int32} {Mhfq1 : Int32} {Mrsq1 : Int32} {Mrfq1 : Int32} {Mtoq1 : Int32} {Mtbq1 : Int32} (hT1 : (f_X6_clear Msz Mal Mpl Mbg Mlo Mhs Mhf Mrs Mrf Mto Mtb a1) = (Mftq1, Mszq1, Malq1, Mplq1, Mbgq1, Mloq1, Mhsq1, Mhfq1, Mrsq1, Mrfq1, Mtoq1, Mtbq1)) : zInv (n + 1) Bf Wf Yf Cf F MB MU MH MR MW MY bm rp hf ((f_X5_clear pl bg lo dm da z m a1).1) ((f_X5_clear pl bg lo dm da z m a1).2.1) ((f_X5_clear pl bg lo dm da z m a1).2.2.1) fp fb ((f_X5_clear pl bg lo dm da z m a1).2.2.2.1) ((f_X5_clear pl bg lo dm da z m a1).2.2.2.2.1) cm ((f_X5_clear pl bg lo dm da z m a1).2.2.2.2.2.1) ((f_X5_clear pl bg lo dm da z m a1).2.2.2.2.2.2) Mftq1 Mszq1 Malq1 Mbs Mplq1 Mbgq1 Mloq1 Mhsq1 Mhfq1 Mhp Mrsq1 Mrfq1 Mtoq1 Mtbq1 Mfr Mln Mhb := by
  obtain ⟨h_b, h_m, h_c, h_z, h_l, h_d, h_Z, h_A, h_B, h_Y, h_P, h_T, h_H, h_R, h_rz, h_rb, h_rm, h_rU, h_rh, h_rF, h_rR⟩ := hI
  exact ⟨h_b, (sc_clear hx h_m).2.2.2, h_c, (sc_clear hx h_m).2.2.1, (sc_clear hx h_m).1, (zdok_eq (sc_clear hx h_m).2.1 (zdok_le (j := 8196 * (512 - (n + 1))) h_d (by omega))), (sm_clear h_Z h_A h_P (zdok_le (j := 10020 * (512 - (n + 1))) h_T (by omega)) h_H h_R hT1).1, (sm_clear h_Z h_A h_P (zdok_le (j := 10020 * (512 - (n + 1))) h_T (by omega)) h_H h_R hT1).2.1, h_B, h_Y, (sm_clear h_Z h_A h_P (zdok_le (j := 10020 * (512 - (n + 1))) h_T (by omega)) h_H h_R hT1).2.2.1, (sm_clear h_Z h_A h_P (zdok_le (j := 10020 * (512 - (n + 1))) h_T (by omega)) h_H h_R hT1).2.2.2.1, (sm_clear h_Z h_A h_P (zdok_le (j := 10020 * (512 - (n + 1))) h_T (by omega)) h_H h_R hT1).2.2.2.2.1, (sm_clear h_Z h_A h_P (zdok_le (j := 10020 * (512 - (n + 1))) h_T (by omega)) h_H h_R hT1).2.2.2.2.2, (rz_clear_0 h_rz hx hT1), h_rb, (rm_clear_0 h_m h_A h_z h_b h_rz h_rb h_rm hx hT1), h_rU, h_rh, (rF_clear_0 h_m h_A h_z h_b h_rz h_rb h_rm h_rU h_rh h_rF hx hT1), (rR_clear_0 h_c h_m h_z h_P h_rz h_rm h_rF h_rR hx hT1)⟩
theorem ci_clear_1 {n : Nat} (hn : n < 512) {Bf Wf Yf Cf F MB MU MH MR MW MY : Nat → Int32} {bm rp hf pl bg lo fp fb dm da cm z m Mft Msz Mal Mbs Mpl Mbg Mlo Mhs Mhf Mhp Mrs Mrf Mto Mtb Mfr Mln Mhb : Int32} (hI : (zInv n Bf Wf Yf Cf F MB MU MH MR MW MY bm rp hf pl bg lo fp fb dm da cm z m Mft Msz Mal Mbs Mpl Mbg Mlo Mhs Mhf Mhp Mrs Mrf Mto Mtb Mfr Mln Mhb)) {a1 : Int32} (hx : x_X5_clear a1 = some zIAE) {Mftq2 : Int32} {Mszq2 : Int32} {Malq2 : Int32} {Mplq2 : Int32} {Mbgq2 : Int32} {Mloq2 : Int32} {Mhsq2 : Int32} {Mhfq2 : Int32} {Mrsq2 : Int32} {Mrfq2 : Int32} {Mtoq2 : Int32} {Mtbq2 : Int32} (hT2 : (f_X6_clear Msz Mal Mpl Mbg Mlo Mhs Mhf Mrs Mrf Mto Mtb a1) = (Mftq2, Mszq2, Malq2, Mplq2, Mbgq2, Mloq2, Mhsq2, Mhfq2, Mrsq2, Mrfq2, Mtoq2, Mtbq2)) : zInv (n + 1) Bf Wf Yf Cf F MB MU MH MR MW MY bm rp hf pl bg lo fp fb dm da cm z m Mftq2 Mszq2 Malq2 Mbs Mplq2 Mbgq2 Mloq2 Mhsq2 Mhfq2 Mhp Mrsq2 Mrfq2 Mtoq2 Mtbq2 Mfr Mln Mhb := by
  obtain ⟨h_b, h_m, h_c, h_z, h_l, h_d, h_Z, h_A, h_B, h_Y, h_P, h_T, h_H, h_R, h_rz, h_rb, h_rm, h_rU, h_rh, h_rF, h_rR⟩ := hI
  exact ⟨h_b, h_m, h_c, h_z, h_l, (zdok_le (j := 8196 * (512 - (n + 1))) h_d (by omega)), (sm_clear h_Z h_A h_P (zdok_le (j := 10020 * (512 - (n + 1))) h_T (by omega)) h_H h_R hT2).1, (sm_clear h_Z h_A h_P (zdok_le (j := 10020 * (512 - (n + 1))) h_T (by omega)) h_H h_R hT2).2.1, h_B, h_Y, (sm_clear h_Z h_A h_P (zdok_le (j := 10020 * (512 - (n + 1))) h_T (by omega)) h_H h_R hT2).2.2.1, (sm_clear h_Z h_A h_P (zdok_le (j := 10020 * (512 - (n + 1))) h_T (by omega)) h_H h_R hT2).2.2.2.1, (sm_clear h_Z h_A h_P (zdok_le (j := 10020 * (512 - (n + 1))) h_T (by omega)) h_H h_R hT2).2.2.2.2.1, (sm_clear h_Z h_A h_P (zdok_le (j := 10020 * (512 - (n + 1))) h_T (by omega)) h_H h_R hT2).2.2.2.2.2, (rz_clear_1 h_rz hx hT2), h_rb, (rm_clear_1 h_m h_A h_z h_b h_rz h_rb h_rm hx hT2), h_rU, h_rh, h_rF, (rR_clear_1 h_c h_m h_z h_P h_rz h_rm h_rF h_rR hx hT2)⟩
theorem ci_feed_0 {n : Nat} (hn : n < 512) {Bf Wf Yf Cf F MB MU MH MR MW MY : Nat → Int32} {bm rp hf pl bg lo fp fb dm da cm z m Mft Msz Mal Mbs Mpl Mbg Mlo Mhs Mhf Mhp Mrs Mrf Mto Mtb Mfr Mln Mhb : Int32} (hI : (zInv n Bf Wf Yf Cf F MB MU MH MR MW MY bm rp hf pl bg lo fp fb dm da cm z m Mft Msz Mal Mbs Mpl Mbg Mlo Mhs Mhf Mhp Mrs Mrf Mto Mtb Mfr Mln Mhb)) {a1 a2 a3 a4 a5 : Int32} (hx : x_X5_feed bm a1 = none) {rq1 : Int32} {MUq1 : Nat → Int32} {Mftq1 : Int32} {Mbsq1 : Int32} (hT1 : (f_X6_feed MU Mbs a1 a2 a3 a4 a5) = (rq1, MUq1, Mftq1, Mbsq1)) : zInv (n + 1) ((f_X5_feed Bf bm a1 a2 a3 a4 a5).2.1) Wf Yf Cf F MB MUq1 MH MR MW MY ((f_X5_feed Bf bm a1 a2 a3 a4 a5).2.2) rp hf pl bg lo fp fb dm da cm z m Mftq1 Msz Mal Mbsq1 Mpl Mbg Mlo Mhs Mhf Mhp Mrs Mrf Mto Mtb Mfr Mln Mhb := by
  obtain ⟨h_b, h_m, h_c, h_z, h_l, h_d, h_Z, h_A, h_B, h_Y, h_P, h_T, h_H, h_R, h_rz, h_rb, h_rm, h_rU, h_rh, h_rF, h_rR⟩ := hI
  exact ⟨(sc_feed h_b), h_m, h_c, h_z, h_l, (zdok_le (j := 8196 * (512 - (n + 1))) h_d (by omega)), h_Z, h_A, (sm_feed h_B hT1), h_Y, h_P, (zdok_le (j := 10020 * (512 - (n + 1))) h_T (by omega)), h_H, h_R, h_rz, (rb_feed_0 h_b h_B h_rb hx hT1), h_rm, (rU_feed_0 h_b h_rb h_rU hx hT1), h_rh, h_rF, h_rR⟩
theorem ci_feed_1 {n : Nat} (hn : n < 512) {Bf Wf Yf Cf F MB MU MH MR MW MY : Nat → Int32} {bm rp hf pl bg lo fp fb dm da cm z m Mft Msz Mal Mbs Mpl Mbg Mlo Mhs Mhf Mhp Mrs Mrf Mto Mtb Mfr Mln Mhb : Int32} (hI : (zInv n Bf Wf Yf Cf F MB MU MH MR MW MY bm rp hf pl bg lo fp fb dm da cm z m Mft Msz Mal Mbs Mpl Mbg Mlo Mhs Mhf Mhp Mrs Mrf Mto Mtb Mfr Mln Mhb)) {a1 a2 a3 a4 a5 : Int32} (hx : x_X5_feed bm a1 = some zIAE) {rq2 : Int32} {MUq2 : Nat → Int32} {Mftq2 : Int32} {Mbsq2 : Int32} (hT2 : (f_X6_feed MU Mbs a1 a2 a3 a4 a5) = (rq2, MUq2, Mftq2, Mbsq2)) : zInv (n + 1) Bf Wf Yf Cf F MB MUq2 MH MR MW MY bm rp hf pl bg lo fp fb dm da cm z m Mftq2 Msz Mal Mbsq2 Mpl Mbg Mlo Mhs Mhf Mhp Mrs Mrf Mto Mtb Mfr Mln Mhb := by
  obtain ⟨h_b, h_m, h_c, h_z, h_l, h_d, h_Z, h_A, h_B, h_Y, h_P, h_T, h_H, h_R, h_rz, h_rb, h_rm, h_rU, h_rh, h_rF, h_rR⟩ := hI
  exact ⟨h_b, h_m, h_c, h_z, h_l, (zdok_le (j := 8196 * (512 - (n + 1))) h_d (by omega)), h_Z, h_A, (sm_feed h_B hT2), h_Y, h_P, (zdok_le (j := 10020 * (512 - (n + 1))) h_T (by omega)), h_H, h_R, h_rz, (rb_feed_1 h_b h_B h_rb hx hT2), h_rm, (rU_feed_1 h_b h_rb h_rU hx hT2), h_rh, h_rF, h_rR⟩
theorem ci_feed_2 {n : Nat} (hn : n < 512) {Bf Wf Yf Cf F MB MU MH MR MW MY : Nat → Int32} {bm rp hf pl bg lo fp fb dm da cm z m Mft Msz Mal Mbs Mpl Mbg Mlo Mhs Mhf Mhp Mrs Mrf Mto Mtb Mfr Mln Mhb : Int32} (hI : (zInv n Bf Wf Yf Cf F MB MU MH MR MW MY bm rp hf pl bg lo fp fb dm da cm z m Mft Msz Mal Mbs Mpl Mbg Mlo Mhs Mhf Mhp Mrs Mrf Mto Mtb Mfr Mln Mhb)) {a1 a2 a3 a4 a5 : Int32} (hx : x_X5_feed bm a1 = some zISE) {rq3 : Int32} {MUq3 : Nat → Int32} {Mftq3 : Int32} {Mbsq3 : Int32} (hT3 : (f_X6_feed MU Mbs a1 a2 a3 a4 a5) = (rq3, MUq3, Mftq3, Mbsq3)) : zInv (n + 1) Bf Wf Yf Cf F MB MUq3 MH MR MW MY bm rp hf pl bg lo fp fb dm da cm z m Mftq3 Msz Mal Mbsq3 Mpl Mbg Mlo Mhs Mhf Mhp Mrs Mrf Mto Mtb Mfr Mln Mhb := by
  obtain ⟨h_b, h_m, h_c, h_z, h_l, h_d, h_Z, h_A, h_B, h_Y, h_P, h_T, h_H, h_R, h_rz, h_rb, h_rm, h_rU, h_rh, h_rF, h_rR⟩ := hI
  exact ⟨h_b, h_m, h_c, h_z, h_l, (zdok_le (j := 8196 * (512 - (n + 1))) h_d (by omega)), h_Z, h_A, (sm_feed h_B hT3), h_Y, h_P, (zdok_le (j := 10020 * (512 - (n + 1))) h_T (by omega)), h_H, h_R, h_rz, (rb_feed_2 h_b h_B h_rb hx hT3), h_rm, (rU_feed_2 h_b h_rb h_rU hx hT3), h_rh, h_rF, h_rR⟩
theorem ci_erase {n : Nat} (hn : n < 512) {Bf Wf Yf Cf F MB MU MH MR MW MY : Nat → Int32} {bm rp hf pl bg lo fp fb dm da cm z m Mft Msz Mal Mbs Mpl Mbg Mlo Mhs Mhf Mhp Mrs Mrf Mto Mtb Mfr Mln Mhb : Int32} (hI : (zInv n Bf Wf Yf Cf F MB MU MH MR MW MY bm rp hf pl bg lo fp fb dm da cm z m Mft Msz Mal Mbs Mpl Mbg Mlo Mhs Mhf Mhp Mrs Mrf Mto Mtb Mfr Mln Mhb)) {rq1 : Int32} {bmq1 : Int32} (hT1 : (f_X5_erase bm) = (rq1, bmq1)) : zInv (n + 1) Bf Wf Yf Cf F MB MU MH MR MW MY bmq1 rp hf pl bg lo fp fb dm da cm z m 0 Msz Mal 0 Mpl Mbg Mlo Mhs Mhf Mhp Mrs Mrf Mto Mtb Mfr Mln Mhb := by
  obtain ⟨h_b, h_m, h_c, h_z, h_l, h_d, h_Z, h_A, h_B, h_Y, h_P, h_T, h_H, h_R, h_rz, h_rb, h_rm, h_rU, h_rh, h_rF, h_rR⟩ := hI
  exact ⟨(sc_erase h_b hT1), h_m, h_c, h_z, h_l, (zdok_le (j := 8196 * (512 - (n + 1))) h_d (by omega)), h_Z, h_A, ⟨by decide, by decide, by decide⟩, h_Y, h_P, (zdok_le (j := 10020 * (512 - (n + 1))) h_T (by omega)), h_H, h_R, h_rz, (rb_erase h_b h_B h_rb hT1), h_rm, (rU_erase h_b h_rb h_rU hT1), h_rh, h_rF, h_rR⟩
theorem ci_check_0 {n : Nat} (hn : n < 512) {Bf Wf Yf Cf F MB MU MH MR MW MY : Nat → Int32} {bm rp hf pl bg lo fp fb dm da cm z m Mft Msz Mal Mbs Mpl Mbg Mlo Mhs Mhf Mhp Mrs Mrf Mto Mtb Mfr Mln Mhb : Int32} (hI : (zInv n Bf Wf Yf Cf F MB MU MH MR MW MY bm rp hf pl bg lo fp fb dm da cm z m Mft Msz Mal Mbs Mpl Mbg Mlo Mhs Mhf Mhp Mrs Mrf Mto Mtb Mfr Mln Mhb)) {a1 : Int32} (hx : x_X5_check a1 = none) {rq1 : Int32} {Mftq1 : Int32} (hT1 : (f_X6_check MU Mbs a1) = (rq1, Mftq1)) : zInv (n + 1) Bf Wf Yf Cf F MB MU MH MR MW MY bm rp hf pl bg lo fp fb dm da cm z m Mftq1 Msz Mal Mbs Mpl Mbg Mlo Mhs Mhf Mhp Mrs Mrf Mto Mtb Mfr Mln Mhb := by
  obtain ⟨h_b, h_m, h_c, h_z, h_l, h_d, h_Z, h_A, h_B, h_Y, h_P, h_T, h_H, h_R, h_rz, h_rb, h_rm, h_rU, h_rh, h_rF, h_rR⟩ := hI
  exact ⟨h_b, h_m, h_c, h_z, h_l, (zdok_le (j := 8196 * (512 - (n + 1))) h_d (by omega)), h_Z, h_A, h_B, h_Y, h_P, (zdok_le (j := 10020 * (512 - (n + 1))) h_T (by omega)), h_H, h_R, h_rz, h_rb, h_rm, h_rU, h_rh, h_rF, h_rR⟩
theorem ci_check_1 {n : Nat} (hn : n < 512) {Bf Wf Yf Cf F MB MU MH MR MW MY : Nat → Int32} {bm rp hf pl bg lo fp fb dm da cm z m Mft Msz Mal Mbs Mpl Mbg Mlo Mhs Mhf Mhp Mrs Mrf Mto Mtb Mfr Mln Mhb : Int32} (hI : (zInv n Bf Wf Yf Cf F MB MU MH MR MW MY bm rp hf pl bg lo fp fb dm da cm z m Mft Msz Mal Mbs Mpl Mbg Mlo Mhs Mhf Mhp Mrs Mrf Mto Mtb Mfr Mln Mhb)) {a1 : Int32} (hx : x_X5_check a1 = some zIAE) {rq2 : Int32} {Mftq2 : Int32} (hT2 : (f_X6_check MU Mbs a1) = (rq2, Mftq2)) : zInv (n + 1) Bf Wf Yf Cf F MB MU MH MR MW MY bm rp hf pl bg lo fp fb dm da cm z m Mftq2 Msz Mal Mbs Mpl Mbg Mlo Mhs Mhf Mhp Mrs Mrf Mto Mtb Mfr Mln Mhb := by
  obtain ⟨h_b, h_m, h_c, h_z, h_l, h_d, h_Z, h_A, h_B, h_Y, h_P, h_T, h_H, h_R, h_rz, h_rb, h_rm, h_rU, h_rh, h_rF, h_rR⟩ := hI
  exact ⟨h_b, h_m, h_c, h_z, h_l, (zdok_le (j := 8196 * (512 - (n + 1))) h_d (by omega)), h_Z, h_A, h_B, h_Y, h_P, (zdok_le (j := 10020 * (512 - (n + 1))) h_T (by omega)), h_H, h_R, h_rz, h_rb, h_rm, h_rU, h_rh, h_rF, h_rR⟩
theorem ci_append {n : Nat} (hn : n < 512) {Bf Wf Yf Cf F MB MU MH MR MW MY : Nat → Int32} {bm rp hf pl bg lo fp fb dm da cm z m Mft Msz Mal Mbs Mpl Mbg Mlo Mhs Mhf Mhp Mrs Mrf Mto Mtb Mfr Mln Mhb : Int32} (hI : (zInv n Bf Wf Yf Cf F MB MU MH MR MW MY bm rp hf pl bg lo fp fb dm da cm z m Mft Msz Mal Mbs Mpl Mbg Mlo Mhs Mhf Mhp Mrs Mrf Mto Mtb Mfr Mln Mhb)) {rq1 : Int32} {Fq1 : Nat → Int32} {mq1 : Int32} (hT1 : (f_X5_append Bf F bm z m) = (rq1, Fq1, mq1)) {rq2 : Int32} {MBq2 : Nat → Int32} {Mftq2 : Int32} {Malq2 : Int32} {Mhbq2 : Int32} (hT2 : (f_X6_append MB MU Msz Mal Mbs Mhb) = (rq2, MBq2, Mftq2, Malq2, Mhbq2)) : zInv (n + 1) Bf Wf Yf Cf Fq1 MBq2 MU MH MR MW MY bm rp hf pl bg lo fp fb dm da cm z mq1 Mftq2 Msz Malq2 Mbs Mpl Mbg Mlo Mhs Mhf Mhp Mrs Mrf Mto Mtb Mfr Mln Mhbq2 := by
  obtain ⟨h_b, h_m, h_c, h_z, h_l, h_d, h_Z, h_A, h_B, h_Y, h_P, h_T, h_H, h_R, h_rz, h_rb, h_rm, h_rU, h_rh, h_rF, h_rR⟩ := hI
  exact ⟨h_b, (sc_append h_z h_m h_b hT1), h_c, h_z, h_l, (zdok_le (j := 8196 * (512 - (n + 1))) h_d (by omega)), h_Z, (sm_append h_Z h_A h_B h_Y hT2).2, h_B, (sm_append h_Z h_A h_B h_Y hT2).1, h_P, (zdok_le (j := 10020 * (512 - (n + 1))) h_T (by omega)), h_H, h_R, h_rz, h_rb, (rm_append h_m h_A h_z h_b h_rz h_rb h_rm hT1 hT2), h_rU, (rh_append h_rh hT1 hT2), (rF_append h_m h_A h_z h_b h_rz h_rb h_rm h_rU h_rh h_rF hT1 hT2), h_rR⟩
theorem ci_raw_0 {n : Nat} (hn : n < 512) {Bf Wf Yf Cf F MB MU MH MR MW MY : Nat → Int32} {bm rp hf pl bg lo fp fb dm da cm z m Mft Msz Mal Mbs Mpl Mbg Mlo Mhs Mhf Mhp Mrs Mrf Mto Mtb Mfr Mln Mhb : Int32} (hI : (zInv n Bf Wf Yf Cf F MB MU MH MR MW MY bm rp hf pl bg lo fp fb dm da cm z m Mft Msz Mal Mbs Mpl Mbg Mlo Mhs Mhf Mhp Mrs Mrf Mto Mtb Mfr Mln Mhb)) {a1 : Int32} (hx : x_X5_raw a1 = none) {rq1 : Int32} {MBq1 : Nat → Int32} {Mftq1 : Int32} {Malq1 : Int32} (hT1 : (f_X6_raw MB MU Mal Mbs a1) = (rq1, MBq1, Mftq1, Malq1)) : zInv (n + 1) Bf Wf Yf Cf ((f_X5_raw Bf F bm m a1).2.1) MBq1 MU MH MR MW MY bm rp hf pl bg lo fp fb dm da cm z ((f_X5_raw Bf F bm m a1).2.2) Mftq1 Msz Malq1 Mbs Mpl Mbg Mlo Mhs Mhf Mhp Mrs Mrf Mto Mtb Mfr Mln Mhb := by
  obtain ⟨h_b, h_m, h_c, h_z, h_l, h_d, h_Z, h_A, h_B, h_Y, h_P, h_T, h_H, h_R, h_rz, h_rb, h_rm, h_rU, h_rh, h_rF, h_rR⟩ := hI
  exact ⟨h_b, (sc_raw h_m h_b), h_c, h_z, h_l, (zdok_le (j := 8196 * (512 - (n + 1))) h_d (by omega)), h_Z, (sm_raw h_A h_B h_Y hT1).2, h_B, (sm_raw h_A h_B h_Y hT1).1, h_P, (zdok_le (j := 10020 * (512 - (n + 1))) h_T (by omega)), h_H, h_R, h_rz, h_rb, (rm_raw_0 h_m h_A h_z h_b h_rz h_rb h_rm hx hT1), h_rU, h_rh, (rF_raw_0 h_m h_A h_z h_b h_rz h_rb h_rm h_rU h_rh h_rF hx hT1), h_rR⟩
theorem ci_raw_1 {n : Nat} (hn : n < 512) {Bf Wf Yf Cf F MB MU MH MR MW MY : Nat → Int32} {bm rp hf pl bg lo fp fb dm da cm z m Mft Msz Mal Mbs Mpl Mbg Mlo Mhs Mhf Mhp Mrs Mrf Mto Mtb Mfr Mln Mhb : Int32} (hI : (zInv n Bf Wf Yf Cf F MB MU MH MR MW MY bm rp hf pl bg lo fp fb dm da cm z m Mft Msz Mal Mbs Mpl Mbg Mlo Mhs Mhf Mhp Mrs Mrf Mto Mtb Mfr Mln Mhb)) {a1 : Int32} (hx : x_X5_raw a1 = some zIAE) {rq2 : Int32} {MBq2 : Nat → Int32} {Mftq2 : Int32} {Malq2 : Int32} (hT2 : (f_X6_raw MB MU Mal Mbs a1) = (rq2, MBq2, Mftq2, Malq2)) : zInv (n + 1) Bf Wf Yf Cf F MBq2 MU MH MR MW MY bm rp hf pl bg lo fp fb dm da cm z m Mftq2 Msz Malq2 Mbs Mpl Mbg Mlo Mhs Mhf Mhp Mrs Mrf Mto Mtb Mfr Mln Mhb := by
  obtain ⟨h_b, h_m, h_c, h_z, h_l, h_d, h_Z, h_A, h_B, h_Y, h_P, h_T, h_H, h_R, h_rz, h_rb, h_rm, h_rU, h_rh, h_rF, h_rR⟩ := hI
  exact ⟨h_b, h_m, h_c, h_z, h_l, (zdok_le (j := 8196 * (512 - (n + 1))) h_d (by omega)), h_Z, (sm_raw h_A h_B h_Y hT2).2, h_B, (sm_raw h_A h_B h_Y hT2).1, h_P, (zdok_le (j := 10020 * (512 - (n + 1))) h_T (by omega)), h_H, h_R, h_rz, h_rb, (rm_raw_1 h_m h_A h_z h_b h_rz h_rb h_rm hx hT2), h_rU, h_rh, (rF_raw_1 h_m h_A h_z h_b h_rz h_rb h_rm h_rU h_rh h_rF hx hT2), h_rR⟩
theorem ci_put_0 {n : Nat} (hn : n < 512) {Bf Wf Yf Cf F MB MU MH MR MW MY : Nat → Int32} {bm rp hf pl bg lo fp fb dm da cm z m Mft Msz Mal Mbs Mpl Mbg Mlo Mhs Mhf Mhp Mrs Mrf Mto Mtb Mfr Mln Mhb : Int32} (hI : (zInv n Bf Wf Yf Cf F MB MU MH MR MW MY bm rp hf pl bg lo fp fb dm da cm z m Mft Msz Mal Mbs Mpl Mbg Mlo Mhs Mhf Mhp Mrs Mrf Mto Mtb Mfr Mln Mhb)) {a1 a2 : Int32} (hx : x_X5_put m a1 a2 = none) {rq1 : Int32} {MBq1 : Nat → Int32} {Mftq1 : Int32} (hT1 : (f_X6_put_ MB Mal a1 a2) = (rq1, MBq1, Mftq1)) : zInv (n + 1) Bf Wf Yf Cf ((f_X5_put F m a1 a2).2) MBq1 MU MH MR MW MY bm rp hf pl bg lo fp fb dm da cm z m Mftq1 Msz Mal Mbs Mpl Mbg Mlo Mhs Mhf Mhp Mrs Mrf Mto Mtb Mfr Mln Mhb := by
  obtain ⟨h_b, h_m, h_c, h_z, h_l, h_d, h_Z, h_A, h_B, h_Y, h_P, h_T, h_H, h_R, h_rz, h_rb, h_rm, h_rU, h_rh, h_rF, h_rR⟩ := hI
  exact ⟨h_b, h_m, h_c, h_z, h_l, (zdok_le (j := 8196 * (512 - (n + 1))) h_d (by omega)), h_Z, h_A, h_B, (sm_put h_Y hT1), h_P, (zdok_le (j := 10020 * (512 - (n + 1))) h_T (by omega)), h_H, h_R, h_rz, h_rb, h_rm, h_rU, h_rh, (rF_put_0 h_m h_A h_z h_b h_rz h_rb h_rm h_rU h_rh h_rF hx hT1), h_rR⟩
theorem ci_put_1 {n : Nat} (hn : n < 512) {Bf Wf Yf Cf F MB MU MH MR MW MY : Nat → Int32} {bm rp hf pl bg lo fp fb dm da cm z m Mft Msz Mal Mbs Mpl Mbg Mlo Mhs Mhf Mhp Mrs Mrf Mto Mtb Mfr Mln Mhb : Int32} (hI : (zInv n Bf Wf Yf Cf F MB MU MH MR MW MY bm rp hf pl bg lo fp fb dm da cm z m Mft Msz Mal Mbs Mpl Mbg Mlo Mhs Mhf Mhp Mrs Mrf Mto Mtb Mfr Mln Mhb)) {a1 a2 : Int32} (hx : x_X5_put m a1 a2 = some zIOE) {rq2 : Int32} {MBq2 : Nat → Int32} {Mftq2 : Int32} (hT2 : (f_X6_put_ MB Mal a1 a2) = (rq2, MBq2, Mftq2)) : zInv (n + 1) Bf Wf Yf Cf F MBq2 MU MH MR MW MY bm rp hf pl bg lo fp fb dm da cm z m Mftq2 Msz Mal Mbs Mpl Mbg Mlo Mhs Mhf Mhp Mrs Mrf Mto Mtb Mfr Mln Mhb := by
  obtain ⟨h_b, h_m, h_c, h_z, h_l, h_d, h_Z, h_A, h_B, h_Y, h_P, h_T, h_H, h_R, h_rz, h_rb, h_rm, h_rU, h_rh, h_rF, h_rR⟩ := hI
  exact ⟨h_b, h_m, h_c, h_z, h_l, (zdok_le (j := 8196 * (512 - (n + 1))) h_d (by omega)), h_Z, h_A, h_B, (sm_put h_Y hT2), h_P, (zdok_le (j := 10020 * (512 - (n + 1))) h_T (by omega)), h_H, h_R, h_rz, h_rb, h_rm, h_rU, h_rh, (rF_put_1 h_m h_A h_z h_b h_rz h_rb h_rm h_rU h_rh h_rF hx hT2), h_rR⟩
theorem ci_put_2 {n : Nat} (hn : n < 512) {Bf Wf Yf Cf F MB MU MH MR MW MY : Nat → Int32} {bm rp hf pl bg lo fp fb dm da cm z m Mft Msz Mal Mbs Mpl Mbg Mlo Mhs Mhf Mhp Mrs Mrf Mto Mtb Mfr Mln Mhb : Int32} (hI : (zInv n Bf Wf Yf Cf F MB MU MH MR MW MY bm rp hf pl bg lo fp fb dm da cm z m Mft Msz Mal Mbs Mpl Mbg Mlo Mhs Mhf Mhp Mrs Mrf Mto Mtb Mfr Mln Mhb)) {a1 a2 : Int32} (hx : x_X5_put m a1 a2 = some zIAE) {rq3 : Int32} {MBq3 : Nat → Int32} {Mftq3 : Int32} (hT3 : (f_X6_put_ MB Mal a1 a2) = (rq3, MBq3, Mftq3)) : zInv (n + 1) Bf Wf Yf Cf F MBq3 MU MH MR MW MY bm rp hf pl bg lo fp fb dm da cm z m Mftq3 Msz Mal Mbs Mpl Mbg Mlo Mhs Mhf Mhp Mrs Mrf Mto Mtb Mfr Mln Mhb := by
  obtain ⟨h_b, h_m, h_c, h_z, h_l, h_d, h_Z, h_A, h_B, h_Y, h_P, h_T, h_H, h_R, h_rz, h_rb, h_rm, h_rU, h_rh, h_rF, h_rR⟩ := hI
  exact ⟨h_b, h_m, h_c, h_z, h_l, (zdok_le (j := 8196 * (512 - (n + 1))) h_d (by omega)), h_Z, h_A, h_B, (sm_put h_Y hT3), h_P, (zdok_le (j := 10020 * (512 - (n + 1))) h_T (by omega)), h_H, h_R, h_rz, h_rb, h_rm, h_rU, h_rh, (rF_put_2 h_m h_A h_z h_b h_rz h_rb h_rm h_rU h_rh h_rF hx hT3), h_rR⟩
theorem ci_cut_0 {n : Nat} (hn : n < 512) {Bf Wf Yf Cf F MB MU MH MR MW MY : Nat → Int32} {bm rp hf pl bg lo fp fb dm da cm z m Mft Msz Mal Mbs Mpl Mbg Mlo Mhs Mhf Mhp Mrs Mrf Mto Mtb Mfr Mln Mhb : Int32} (hI : (zInv n Bf Wf Yf Cf F MB MU MH MR MW MY bm rp hf pl bg lo fp fb dm da cm z m Mft Msz Mal Mbs Mpl Mbg Mlo Mhs Mhf Mhp Mrs Mrf Mto Mtb Mfr Mln Mhb)) {a1 : Int32} (hx : x_X5_cut m a1 = none) {rq1 : Int32} {Mftq1 : Int32} {Malq1 : Int32} {Mplq1 : Int32} {Mbgq1 : Int32} {Mloq1 : Int32} {Mhsq1 : Int32} {Mhfq1 : Int32} {Mrsq1 : Int32} {Mrfq1 : Int32} {Mtoq1 : Int32} {Mtbq1 : Int32} (hT1 : (f_X6_cut Msz Mal Mpl Mbg Mlo Mhs Mhf Mrs Mrf Mto Mtb a1) = (rq1, Mftq1, Malq1, Mplq1, Mbgq1, Mloq1, Mhsq1, Mhfq1, Mrsq1, Mrfq1, Mtoq1, Mtbq1)) : zInv (n + 1) Bf Wf Yf Cf F MB MU MH MR MW MY bm rp hf ((f_X5_cut pl bg lo dm da z m a1).2.1) ((f_X5_cut pl bg lo dm da z m a1).2.2.1) ((f_X5_cut pl bg lo dm da z m a1).2.2.2.1) fp fb ((f_X5_cut pl bg lo dm da z m a1).2.2.2.2.1) ((f_X5_cut pl bg lo dm da z m a1).2.2.2.2.2.1) cm z ((f_X5_cut pl bg lo dm da z m a1).2.2.2.2.2.2) Mftq1 Msz Malq1 Mbs Mplq1 Mbgq1 Mloq1 Mhsq1 Mhfq1 Mhp Mrsq1 Mrfq1 Mtoq1 Mtbq1 Mfr Mln Mhb := by
  obtain ⟨h_b, h_m, h_c, h_z, h_l, h_d, h_Z, h_A, h_B, h_Y, h_P, h_T, h_H, h_R, h_rz, h_rb, h_rm, h_rU, h_rh, h_rF, h_rR⟩ := hI
  exact ⟨h_b, (sc_cut hx h_m).2.2, h_c, h_z, (sc_cut hx h_m).1, (zdok_eq (sc_cut hx h_m).2.1 (zdok_le (j := 8196 * (512 - (n + 1))) h_d (by omega))), h_Z, (sm_cut h_Z h_A h_P (zdok_le (j := 10020 * (512 - (n + 1))) h_T (by omega)) h_H h_R hT1).1, h_B, h_Y, (sm_cut h_Z h_A h_P (zdok_le (j := 10020 * (512 - (n + 1))) h_T (by omega)) h_H h_R hT1).2.1, (sm_cut h_Z h_A h_P (zdok_le (j := 10020 * (512 - (n + 1))) h_T (by omega)) h_H h_R hT1).2.2.1, (sm_cut h_Z h_A h_P (zdok_le (j := 10020 * (512 - (n + 1))) h_T (by omega)) h_H h_R hT1).2.2.2.1, (sm_cut h_Z h_A h_P (zdok_le (j := 10020 * (512 - (n + 1))) h_T (by omega)) h_H h_R hT1).2.2.2.2, h_rz, h_rb, (rm_cut_0 h_m h_A h_z h_b h_rz h_rb h_rm hx hT1), h_rU, h_rh, (rF_cut_0 h_m h_A h_z h_b h_rz h_rb h_rm h_rU h_rh h_rF hx hT1), (rR_cut_0 h_c h_m h_z h_P h_rz h_rm h_rF h_rR hx hT1)⟩
theorem ci_cut_1 {n : Nat} (hn : n < 512) {Bf Wf Yf Cf F MB MU MH MR MW MY : Nat → Int32} {bm rp hf pl bg lo fp fb dm da cm z m Mft Msz Mal Mbs Mpl Mbg Mlo Mhs Mhf Mhp Mrs Mrf Mto Mtb Mfr Mln Mhb : Int32} (hI : (zInv n Bf Wf Yf Cf F MB MU MH MR MW MY bm rp hf pl bg lo fp fb dm da cm z m Mft Msz Mal Mbs Mpl Mbg Mlo Mhs Mhf Mhp Mrs Mrf Mto Mtb Mfr Mln Mhb)) {a1 : Int32} (hx : x_X5_cut m a1 = some zIAE) {rq2 : Int32} {Mftq2 : Int32} {Malq2 : Int32} {Mplq2 : Int32} {Mbgq2 : Int32} {Mloq2 : Int32} {Mhsq2 : Int32} {Mhfq2 : Int32} {Mrsq2 : Int32} {Mrfq2 : Int32} {Mtoq2 : Int32} {Mtbq2 : Int32} (hT2 : (f_X6_cut Msz Mal Mpl Mbg Mlo Mhs Mhf Mrs Mrf Mto Mtb a1) = (rq2, Mftq2, Malq2, Mplq2, Mbgq2, Mloq2, Mhsq2, Mhfq2, Mrsq2, Mrfq2, Mtoq2, Mtbq2)) : zInv (n + 1) Bf Wf Yf Cf F MB MU MH MR MW MY bm rp hf pl bg lo fp fb dm da cm z m Mftq2 Msz Malq2 Mbs Mplq2 Mbgq2 Mloq2 Mhsq2 Mhfq2 Mhp Mrsq2 Mrfq2 Mtoq2 Mtbq2 Mfr Mln Mhb := by
  obtain ⟨h_b, h_m, h_c, h_z, h_l, h_d, h_Z, h_A, h_B, h_Y, h_P, h_T, h_H, h_R, h_rz, h_rb, h_rm, h_rU, h_rh, h_rF, h_rR⟩ := hI
  exact ⟨h_b, h_m, h_c, h_z, h_l, (zdok_le (j := 8196 * (512 - (n + 1))) h_d (by omega)), h_Z, (sm_cut h_Z h_A h_P (zdok_le (j := 10020 * (512 - (n + 1))) h_T (by omega)) h_H h_R hT2).1, h_B, h_Y, (sm_cut h_Z h_A h_P (zdok_le (j := 10020 * (512 - (n + 1))) h_T (by omega)) h_H h_R hT2).2.1, (sm_cut h_Z h_A h_P (zdok_le (j := 10020 * (512 - (n + 1))) h_T (by omega)) h_H h_R hT2).2.2.1, (sm_cut h_Z h_A h_P (zdok_le (j := 10020 * (512 - (n + 1))) h_T (by omega)) h_H h_R hT2).2.2.2.1, (sm_cut h_Z h_A h_P (zdok_le (j := 10020 * (512 - (n + 1))) h_T (by omega)) h_H h_R hT2).2.2.2.2, h_rz, h_rb, (rm_cut_1 h_m h_A h_z h_b h_rz h_rb h_rm hx hT2), h_rU, h_rh, h_rF, (rR_cut_1 h_c h_m h_z h_P h_rz h_rm h_rF h_rR hx hT2)⟩
theorem ci_begin_0 {n : Nat} (hn : n < 512) {Bf Wf Yf Cf F MB MU MH MR MW MY : Nat → Int32} {bm rp hf pl bg lo fp fb dm da cm z m Mft Msz Mal Mbs Mpl Mbg Mlo Mhs Mhf Mhp Mrs Mrf Mto Mtb Mfr Mln Mhb : Int32} (hI : (zInv n Bf Wf Yf Cf F MB MU MH MR MW MY bm rp hf pl bg lo fp fb dm da cm z m Mft Msz Mal Mbs Mpl Mbg Mlo Mhs Mhf Mhp Mrs Mrf Mto Mtb Mfr Mln Mhb)) {a1 : Int32} (hx : x_X5_begin a1 = none) {rq1 : Int32} {Mftq1 : Int32} {Mplq1 : Int32} {Mbgq1 : Int32} {Mloq1 : Int32} {Mhsq1 : Int32} {Mhfq1 : Int32} {Mrsq1 : Int32} {Mrfq1 : Int32} {Mtoq1 : Int32} {Mtbq1 : Int32} (hT1 : (f_X6_begin Msz Mpl Mbg Mlo Mhs Mhf Mrs Mrf Mto Mtb a1) = (rq1, Mftq1, Mplq1, Mbgq1, Mloq1, Mhsq1, Mhfq1, Mrsq1, Mrfq1, Mtoq1, Mtbq1)) : zInv (n + 1) Bf Wf Yf Cf F MB MU MH MR MW MY bm rp hf ((f_X5_begin pl bg lo dm da z a1).2.1) ((f_X5_begin pl bg lo dm da z a1).2.2.1) ((f_X5_begin pl bg lo dm da z a1).2.2.2.1) fp fb ((f_X5_begin pl bg lo dm da z a1).2.2.2.2.1) ((f_X5_begin pl bg lo dm da z a1).2.2.2.2.2) cm z m Mftq1 Msz Mal Mbs Mplq1 Mbgq1 Mloq1 Mhsq1 Mhfq1 Mhp Mrsq1 Mrfq1 Mtoq1 Mtbq1 Mfr Mln Mhb := by
  obtain ⟨h_b, h_m, h_c, h_z, h_l, h_d, h_Z, h_A, h_B, h_Y, h_P, h_T, h_H, h_R, h_rz, h_rb, h_rm, h_rU, h_rh, h_rF, h_rR⟩ := hI
  exact ⟨h_b, h_m, h_c, h_z, (sc_begin hx).1, (zdok_eq (sc_begin hx).2 (zdok_le (j := 8196 * (512 - (n + 1))) h_d (by omega))), h_Z, h_A, h_B, h_Y, (sm_begin h_Z h_P (zdok_le (j := 10020 * (512 - (n + 1))) h_T (by omega)) h_H h_R hT1).1, (sm_begin h_Z h_P (zdok_le (j := 10020 * (512 - (n + 1))) h_T (by omega)) h_H h_R hT1).2.1, (sm_begin h_Z h_P (zdok_le (j := 10020 * (512 - (n + 1))) h_T (by omega)) h_H h_R hT1).2.2.1, (sm_begin h_Z h_P (zdok_le (j := 10020 * (512 - (n + 1))) h_T (by omega)) h_H h_R hT1).2.2.2, h_rz, h_rb, h_rm, h_rU, h_rh, h_rF, (rR_begin_0 h_c h_m h_z h_P h_rz h_rm h_rF h_rR hx hT1)⟩
theorem ci_begin_1 {n : Nat} (hn : n < 512) {Bf Wf Yf Cf F MB MU MH MR MW MY : Nat → Int32} {bm rp hf pl bg lo fp fb dm da cm z m Mft Msz Mal Mbs Mpl Mbg Mlo Mhs Mhf Mhp Mrs Mrf Mto Mtb Mfr Mln Mhb : Int32} (hI : (zInv n Bf Wf Yf Cf F MB MU MH MR MW MY bm rp hf pl bg lo fp fb dm da cm z m Mft Msz Mal Mbs Mpl Mbg Mlo Mhs Mhf Mhp Mrs Mrf Mto Mtb Mfr Mln Mhb)) {a1 : Int32} (hx : x_X5_begin a1 = some zIAE) {rq2 : Int32} {Mftq2 : Int32} {Mplq2 : Int32} {Mbgq2 : Int32} {Mloq2 : Int32} {Mhsq2 : Int32} {Mhfq2 : Int32} {Mrsq2 : Int32} {Mrfq2 : Int32} {Mtoq2 : Int32} {Mtbq2 : Int32} (hT2 : (f_X6_begin Msz Mpl Mbg Mlo Mhs Mhf Mrs Mrf Mto Mtb a1) = (rq2, Mftq2, Mplq2, Mbgq2, Mloq2, Mhsq2, Mhfq2, Mrsq2, Mrfq2, Mtoq2, Mtbq2)) : zInv (n + 1) Bf Wf Yf Cf F MB MU MH MR MW MY bm rp hf pl bg lo fp fb dm da cm z m Mftq2 Msz Mal Mbs Mplq2 Mbgq2 Mloq2 Mhsq2 Mhfq2 Mhp Mrsq2 Mrfq2 Mtoq2 Mtbq2 Mfr Mln Mhb := by
  obtain ⟨h_b, h_m, h_c, h_z, h_l, h_d, h_Z, h_A, h_B, h_Y, h_P, h_T, h_H, h_R, h_rz, h_rb, h_rm, h_rU, h_rh, h_rF, h_rR⟩ := hI
  exact ⟨h_b, h_m, h_c, h_z, h_l, (zdok_le (j := 8196 * (512 - (n + 1))) h_d (by omega)), h_Z, h_A, h_B, h_Y, (sm_begin h_Z h_P (zdok_le (j := 10020 * (512 - (n + 1))) h_T (by omega)) h_H h_R hT2).1, (sm_begin h_Z h_P (zdok_le (j := 10020 * (512 - (n + 1))) h_T (by omega)) h_H h_R hT2).2.1, (sm_begin h_Z h_P (zdok_le (j := 10020 * (512 - (n + 1))) h_T (by omega)) h_H h_R hT2).2.2.1, (sm_begin h_Z h_P (zdok_le (j := 10020 * (512 - (n + 1))) h_T (by omega)) h_H h_R hT2).2.2.2, h_rz, h_rb, h_rm, h_rU, h_rh, h_rF, (rR_begin_1 h_c h_m h_z h_P h_rz h_rm h_rF h_rR hx hT2)⟩
theorem ci_read {n : Nat} (hn : n < 512) {Bf Wf Yf Cf F MB MU MH MR MW MY : Nat → Int32} {bm rp hf pl bg lo fp fb dm da cm z m Mft Msz Mal Mbs Mpl Mbg Mlo Mhs Mhf Mhp Mrs Mrf Mto Mtb Mfr Mln Mhb : Int32} (hI : (zInv n Bf Wf Yf Cf F MB MU MH MR MW MY bm rp hf pl bg lo fp fb dm da cm z m Mft Msz Mal Mbs Mpl Mbg Mlo Mhs Mhf Mhp Mrs Mrf Mto Mtb Mfr Mln Mhb)) {rq1 : Int32} {Wfq1 : Nat → Int32} {Yfq1 : Nat → Int32} {Cfq1 : Nat → Int32} {rpq1 : Int32} {hfq1 : Int32} {plq1 : Int32} {loq1 : Int32} {fpq1 : Int32} {fbq1 : Int32} {dmq1 : Int32} {daq1 : Int32} {cmq1 : Int32} (hT1 : (f_X5_read Wf Yf Cf F pl bg lo fp fb dm da cm z m) = (rq1, Wfq1, Yfq1, Cfq1, rpq1, hfq1, plq1, loq1, fpq1, fbq1, dmq1, daq1, cmq1)) {rq2 : Int32} {MHq2 : Nat → Int32} {MRq2 : Nat → Int32} {MWq2 : Nat → Int32} {MYq2 : Nat → Int32} {Mftq2 : Int32} {Mplq2 : Int32} {Mloq2 : Int32} {Mhsq2 : Int32} {Mhfq2 : Int32} {Mhpq2 : Int32} {Mrsq2 : Int32} {Mrfq2 : Int32} {Mtoq2 : Int32} {Mtbq2 : Int32} {Mfrq2 : Int32} {Mlnq2 : Int32} (hT2 : (f_X6_read MB MH MR MW MY Msz Mal Mpl Mbg Mlo Mhs Mhf Mhp Mto Mtb Mfr Mln) = (rq2, MHq2, MRq2, MWq2, MYq2, Mftq2, Mplq2, Mloq2, Mhsq2, Mhfq2, Mhpq2, Mrsq2, Mrfq2, Mtoq2, Mtbq2, Mfrq2, Mlnq2)) : zInv (n + 1) Bf Wfq1 Yfq1 Cfq1 F MB MU MHq2 MRq2 MWq2 MYq2 bm rpq1 hfq1 plq1 bg loq1 fpq1 fbq1 dmq1 daq1 cmq1 z m Mftq2 Msz Mal Mbs Mplq2 Mbg Mloq2 Mhsq2 Mhfq2 Mhpq2 Mrsq2 Mrfq2 Mtoq2 Mtbq2 Mfrq2 Mlnq2 Mhb := by
  obtain ⟨h_b, h_m, h_c, h_z, h_l, h_d, h_Z, h_A, h_B, h_Y, h_P, h_T, h_H, h_R, h_rz, h_rb, h_rm, h_rU, h_rh, h_rF, h_rR⟩ := hI
  exact ⟨h_b, h_m, (sc_read h_m h_c h_l (zdok_le h_d (show 8196 * (512 - (n + 1)) + 8196 ≤ 8196 * (512 - n) by omega)) hT1).1, h_z, (sc_read h_m h_c h_l (zdok_le h_d (show 8196 * (512 - (n + 1)) + 8196 ≤ 8196 * (512 - n) by omega)) hT1).2.1, (sc_read h_m h_c h_l (zdok_le h_d (show 8196 * (512 - (n + 1)) + 8196 ≤ 8196 * (512 - n) by omega)) hT1).2.2, h_Z, h_A, h_B, h_Y, (sm_read h_Z h_A h_Y h_P (zdok_le h_T (show 10020 * (512 - (n + 1)) + 10020 ≤ 10020 * (512 - n) by omega)) h_H hT2).1, (sm_read h_Z h_A h_Y h_P (zdok_le h_T (show 10020 * (512 - (n + 1)) + 10020 ≤ 10020 * (512 - n) by omega)) h_H hT2).2.2.2, (sm_read h_Z h_A h_Y h_P (zdok_le h_T (show 10020 * (512 - (n + 1)) + 10020 ≤ 10020 * (512 - n) by omega)) h_H hT2).2.1, (sm_read h_Z h_A h_Y h_P (zdok_le h_T (show 10020 * (512 - (n + 1)) + 10020 ≤ 10020 * (512 - n) by omega)) h_H hT2).2.2.1, h_rz, h_rb, h_rm, h_rU, h_rh, h_rF, (rR_read h_c h_m h_z h_P h_rz h_rm h_rF h_rR hT1 hT2)⟩
theorem ci_octet {n : Nat} (hn : n < 512) {Bf Wf Yf Cf F MB MU MH MR MW MY : Nat → Int32} {bm rp hf pl bg lo fp fb dm da cm z m Mft Msz Mal Mbs Mpl Mbg Mlo Mhs Mhf Mhp Mrs Mrf Mto Mtb Mfr Mln Mhb : Int32} (hI : (zInv n Bf Wf Yf Cf F MB MU MH MR MW MY bm rp hf pl bg lo fp fb dm da cm z m Mft Msz Mal Mbs Mpl Mbg Mlo Mhs Mhf Mhp Mrs Mrf Mto Mtb Mfr Mln Mhb)) {a1 : Int32} {rq1 : Int32} (hT1 : (f_X5_octet Cf cm a1) = rq1) {rq2 : Int32} {Mftq2 : Int32} (hT2 : (f_X6_octet MR Mrs a1) = (rq2, Mftq2)) : zInv (n + 1) Bf Wf Yf Cf F MB MU MH MR MW MY bm rp hf pl bg lo fp fb dm da cm z m Mftq2 Msz Mal Mbs Mpl Mbg Mlo Mhs Mhf Mhp Mrs Mrf Mto Mtb Mfr Mln Mhb := by
  obtain ⟨h_b, h_m, h_c, h_z, h_l, h_d, h_Z, h_A, h_B, h_Y, h_P, h_T, h_H, h_R, h_rz, h_rb, h_rm, h_rU, h_rh, h_rF, h_rR⟩ := hI
  exact ⟨h_b, h_m, h_c, h_z, h_l, (zdok_le (j := 8196 * (512 - (n + 1))) h_d (by omega)), h_Z, h_A, h_B, h_Y, h_P, (zdok_le (j := 10020 * (512 - (n + 1))) h_T (by omega)), h_H, h_R, h_rz, h_rb, h_rm, h_rU, h_rh, h_rF, h_rR⟩
theorem ci_first {n : Nat} (hn : n < 512) {Bf Wf Yf Cf F MB MU MH MR MW MY : Nat → Int32} {bm rp hf pl bg lo fp fb dm da cm z m Mft Msz Mal Mbs Mpl Mbg Mlo Mhs Mhf Mhp Mrs Mrf Mto Mtb Mfr Mln Mhb : Int32} (hI : (zInv n Bf Wf Yf Cf F MB MU MH MR MW MY bm rp hf pl bg lo fp fb dm da cm z m Mft Msz Mal Mbs Mpl Mbg Mlo Mhs Mhf Mhp Mrs Mrf Mto Mtb Mfr Mln Mhb)) : zInv (n + 1) Bf Wf Yf Cf F MB MU MH MR MW MY bm rp hf pl bg lo fp fb dm da cm z m 0 Msz Mal Mbs Mpl Mbg Mlo Mhs Mhf Mhp Mrs Mrf Mto Mtb Mfr Mln Mhb := by
  obtain ⟨h_b, h_m, h_c, h_z, h_l, h_d, h_Z, h_A, h_B, h_Y, h_P, h_T, h_H, h_R, h_rz, h_rb, h_rm, h_rU, h_rh, h_rF, h_rR⟩ := hI
  exact ⟨h_b, h_m, h_c, h_z, h_l, (zdok_le (j := 8196 * (512 - (n + 1))) h_d (by omega)), h_Z, h_A, h_B, h_Y, h_P, (zdok_le (j := 10020 * (512 - (n + 1))) h_T (by omega)), h_H, h_R, h_rz, h_rb, h_rm, h_rU, h_rh, h_rF, h_rR⟩
theorem ci_count_0 {n : Nat} (hn : n < 512) {Bf Wf Yf Cf F MB MU MH MR MW MY : Nat → Int32} {bm rp hf pl bg lo fp fb dm da cm z m Mft Msz Mal Mbs Mpl Mbg Mlo Mhs Mhf Mhp Mrs Mrf Mto Mtb Mfr Mln Mhb : Int32} (hI : (zInv n Bf Wf Yf Cf F MB MU MH MR MW MY bm rp hf pl bg lo fp fb dm da cm z m Mft Msz Mal Mbs Mpl Mbg Mlo Mhs Mhf Mhp Mrs Mrf Mto Mtb Mfr Mln Mhb)) {a1 : Int32} (hx : x_X5_count a1 = none) {rq1 : Int32} {Mftq1 : Int32} (hT1 : (f_X6_count Mal Mbs Mpl Mlo Mto Mtb a1) = (rq1, Mftq1)) : zInv (n + 1) Bf Wf Yf Cf F MB MU MH MR MW MY bm rp hf pl bg lo fp fb dm da cm z m Mftq1 Msz Mal Mbs Mpl Mbg Mlo Mhs Mhf Mhp Mrs Mrf Mto Mtb Mfr Mln Mhb := by
  obtain ⟨h_b, h_m, h_c, h_z, h_l, h_d, h_Z, h_A, h_B, h_Y, h_P, h_T, h_H, h_R, h_rz, h_rb, h_rm, h_rU, h_rh, h_rF, h_rR⟩ := hI
  exact ⟨h_b, h_m, h_c, h_z, h_l, (zdok_le (j := 8196 * (512 - (n + 1))) h_d (by omega)), h_Z, h_A, h_B, h_Y, h_P, (zdok_le (j := 10020 * (512 - (n + 1))) h_T (by omega)), h_H, h_R, h_rz, h_rb, h_rm, h_rU, h_rh, h_rF, h_rR⟩
theorem ci_count_1 {n : Nat} (hn : n < 512) {Bf Wf Yf Cf F MB MU MH MR MW MY : Nat → Int32} {bm rp hf pl bg lo fp fb dm da cm z m Mft Msz Mal Mbs Mpl Mbg Mlo Mhs Mhf Mhp Mrs Mrf Mto Mtb Mfr Mln Mhb : Int32} (hI : (zInv n Bf Wf Yf Cf F MB MU MH MR MW MY bm rp hf pl bg lo fp fb dm da cm z m Mft Msz Mal Mbs Mpl Mbg Mlo Mhs Mhf Mhp Mrs Mrf Mto Mtb Mfr Mln Mhb)) {a1 : Int32} (hx : x_X5_count a1 = some zIAE) {rq2 : Int32} {Mftq2 : Int32} (hT2 : (f_X6_count Mal Mbs Mpl Mlo Mto Mtb a1) = (rq2, Mftq2)) : zInv (n + 1) Bf Wf Yf Cf F MB MU MH MR MW MY bm rp hf pl bg lo fp fb dm da cm z m Mftq2 Msz Mal Mbs Mpl Mbg Mlo Mhs Mhf Mhp Mrs Mrf Mto Mtb Mfr Mln Mhb := by
  obtain ⟨h_b, h_m, h_c, h_z, h_l, h_d, h_Z, h_A, h_B, h_Y, h_P, h_T, h_H, h_R, h_rz, h_rb, h_rm, h_rU, h_rh, h_rF, h_rR⟩ := hI
  exact ⟨h_b, h_m, h_c, h_z, h_l, (zdok_le (j := 8196 * (512 - (n + 1))) h_d (by omega)), h_Z, h_A, h_B, h_Y, h_P, (zdok_le (j := 10020 * (512 - (n + 1))) h_T (by omega)), h_H, h_R, h_rz, h_rb, h_rm, h_rU, h_rh, h_rF, h_rR⟩
theorem ci_told_0 {n : Nat} (hn : n < 512) {Bf Wf Yf Cf F MB MU MH MR MW MY : Nat → Int32} {bm rp hf pl bg lo fp fb dm da cm z m Mft Msz Mal Mbs Mpl Mbg Mlo Mhs Mhf Mhp Mrs Mrf Mto Mtb Mfr Mln Mhb : Int32} (hI : (zInv n Bf Wf Yf Cf F MB MU MH MR MW MY bm rp hf pl bg lo fp fb dm da cm z m Mft Msz Mal Mbs Mpl Mbg Mlo Mhs Mhf Mhp Mrs Mrf Mto Mtb Mfr Mln Mhb)) {a1 a2 : Int32} (hx : x_X5_told a2 = none) {rq1 : Int32} {Mftq1 : Int32} (hT1 : (f_X6_told MW MY Mto a1 a2) = (rq1, Mftq1)) : zInv (n + 1) Bf Wf Yf Cf F MB MU MH MR MW MY bm rp hf pl bg lo fp fb dm da cm z m Mftq1 Msz Mal Mbs Mpl Mbg Mlo Mhs Mhf Mhp Mrs Mrf Mto Mtb Mfr Mln Mhb := by
  obtain ⟨h_b, h_m, h_c, h_z, h_l, h_d, h_Z, h_A, h_B, h_Y, h_P, h_T, h_H, h_R, h_rz, h_rb, h_rm, h_rU, h_rh, h_rF, h_rR⟩ := hI
  exact ⟨h_b, h_m, h_c, h_z, h_l, (zdok_le (j := 8196 * (512 - (n + 1))) h_d (by omega)), h_Z, h_A, h_B, h_Y, h_P, (zdok_le (j := 10020 * (512 - (n + 1))) h_T (by omega)), h_H, h_R, h_rz, h_rb, h_rm, h_rU, h_rh, h_rF, h_rR⟩
theorem ci_told_1 {n : Nat} (hn : n < 512) {Bf Wf Yf Cf F MB MU MH MR MW MY : Nat → Int32} {bm rp hf pl bg lo fp fb dm da cm z m Mft Msz Mal Mbs Mpl Mbg Mlo Mhs Mhf Mhp Mrs Mrf Mto Mtb Mfr Mln Mhb : Int32} (hI : (zInv n Bf Wf Yf Cf F MB MU MH MR MW MY bm rp hf pl bg lo fp fb dm da cm z m Mft Msz Mal Mbs Mpl Mbg Mlo Mhs Mhf Mhp Mrs Mrf Mto Mtb Mfr Mln Mhb)) {a1 a2 : Int32} (hx : x_X5_told a2 = some zIAE) {rq2 : Int32} {Mftq2 : Int32} (hT2 : (f_X6_told MW MY Mto a1 a2) = (rq2, Mftq2)) : zInv (n + 1) Bf Wf Yf Cf F MB MU MH MR MW MY bm rp hf pl bg lo fp fb dm da cm z m Mftq2 Msz Mal Mbs Mpl Mbg Mlo Mhs Mhf Mhp Mrs Mrf Mto Mtb Mfr Mln Mhb := by
  obtain ⟨h_b, h_m, h_c, h_z, h_l, h_d, h_Z, h_A, h_B, h_Y, h_P, h_T, h_H, h_R, h_rz, h_rb, h_rm, h_rU, h_rh, h_rF, h_rR⟩ := hI
  exact ⟨h_b, h_m, h_c, h_z, h_l, (zdok_le (j := 8196 * (512 - (n + 1))) h_d (by omega)), h_Z, h_A, h_B, h_Y, h_P, (zdok_le (j := 10020 * (512 - (n + 1))) h_T (by omega)), h_H, h_R, h_rz, h_rb, h_rm, h_rU, h_rh, h_rF, h_rR⟩
theorem ci_log {n : Nat} (hn : n < 512) {Bf Wf Yf Cf F MB MU MH MR MW MY : Nat → Int32} {bm rp hf pl bg lo fp fb dm da cm z m Mft Msz Mal Mbs Mpl Mbg Mlo Mhs Mhf Mhp Mrs Mrf Mto Mtb Mfr Mln Mhb : Int32} (hI : (zInv n Bf Wf Yf Cf F MB MU MH MR MW MY bm rp hf pl bg lo fp fb dm da cm z m Mft Msz Mal Mbs Mpl Mbg Mlo Mhs Mhf Mhp Mrs Mrf Mto Mtb Mfr Mln Mhb)) {a1 : Int32} {rq1 : Int32} (hT1 : (f_X5_log F m a1) = rq1) {rq2 : Int32} {Mftq2 : Int32} (hT2 : (f_X6_log MB Mal a1) = (rq2, Mftq2)) : zInv (n + 1) Bf Wf Yf Cf F MB MU MH MR MW MY bm rp hf pl bg lo fp fb dm da cm z m Mftq2 Msz Mal Mbs Mpl Mbg Mlo Mhs Mhf Mhp Mrs Mrf Mto Mtb Mfr Mln Mhb := by
  obtain ⟨h_b, h_m, h_c, h_z, h_l, h_d, h_Z, h_A, h_B, h_Y, h_P, h_T, h_H, h_R, h_rz, h_rb, h_rm, h_rU, h_rh, h_rF, h_rR⟩ := hI
  exact ⟨h_b, h_m, h_c, h_z, h_l, (zdok_le (j := 8196 * (512 - (n + 1))) h_d (by omega)), h_Z, h_A, h_B, h_Y, h_P, (zdok_le (j := 10020 * (512 - (n + 1))) h_T (by omega)), h_H, h_R, h_rz, h_rb, h_rm, h_rU, h_rh, h_rF, h_rR⟩
theorem ci_default {n : Nat} (hn : n < 512) {Bf Wf Yf Cf F MB MU MH MR MW MY : Nat → Int32} {bm rp hf pl bg lo fp fb dm da cm z m Mft Msz Mal Mbs Mpl Mbg Mlo Mhs Mhf Mhp Mrs Mrf Mto Mtb Mfr Mln Mhb : Int32} (hI : (zInv n Bf Wf Yf Cf F MB MU MH MR MW MY bm rp hf pl bg lo fp fb dm da cm z m Mft Msz Mal Mbs Mpl Mbg Mlo Mhs Mhf Mhp Mrs Mrf Mto Mtb Mfr Mln Mhb)) : zInv (n + 1) Bf Wf Yf Cf F MB MU MH MR MW MY bm rp hf pl bg lo fp fb dm da cm z m Mft Msz Mal Mbs Mpl Mbg Mlo Mhs Mhf Mhp Mrs Mrf Mto Mtb Mfr Mln Mhb := by
  obtain ⟨h_b, h_m, h_c, h_z, h_l, h_d, h_Z, h_A, h_B, h_Y, h_P, h_T, h_H, h_R, h_rz, h_rb, h_rm, h_rU, h_rh, h_rF, h_rR⟩ := hI
  exact ⟨h_b, h_m, h_c, h_z, h_l, (zdok_le (j := 8196 * (512 - (n + 1))) h_d (by omega)), h_Z, h_A, h_B, h_Y, h_P, (zdok_le (j := 10020 * (512 - (n + 1))) h_T (by omega)), h_H, h_R, h_rz, h_rb, h_rm, h_rU, h_rh, h_rF, h_rR⟩
theorem cd_read {n : Nat} {Bf Wf Yf Cf F MB MU MH MR MW MY : Nat → Int32} {bm rp hf pl bg lo fp fb dm da cm z m Mft Msz Mal Mbs Mpl Mbg Mlo Mhs Mhf Mhp Mrs Mrf Mto Mtb Mfr Mln Mhb : Int32} (hI : (zInv n Bf Wf Yf Cf F MB MU MH MR MW MY bm rp hf pl bg lo fp fb dm da cm z m Mft Msz Mal Mbs Mpl Mbg Mlo Mhs Mhf Mhp Mrs Mrf Mto Mtb Mfr Mln Mhb)) {rq1 : Int32} {Wfq1 : Nat → Int32} {Yfq1 : Nat → Int32} {Cfq1 : Nat → Int32} {rpq1 : Int32} {hfq1 : Int32} {plq1 : Int32} {loq1 : Int32} {fpq1 : Int32} {fbq1 : Int32} {dmq1 : Int32} {daq1 : Int32} {cmq1 : Int32} (hT1 : (f_X5_read Wf Yf Cf F pl bg lo fp fb dm da cm z m) = (rq1, Wfq1, Yfq1, Cfq1, rpq1, hfq1, plq1, loq1, fpq1, fbq1, dmq1, daq1, cmq1)) {rq2 : Int32} {MHq2 : Nat → Int32} {MRq2 : Nat → Int32} {MWq2 : Nat → Int32} {MYq2 : Nat → Int32} {Mftq2 : Int32} {Mplq2 : Int32} {Mloq2 : Int32} {Mhsq2 : Int32} {Mhfq2 : Int32} {Mhpq2 : Int32} {Mrsq2 : Int32} {Mrfq2 : Int32} {Mtoq2 : Int32} {Mtbq2 : Int32} {Mfrq2 : Int32} {Mlnq2 : Int32} (hT2 : (f_X6_read MB MH MR MW MY Msz Mal Mpl Mbg Mlo Mhs Mhf Mhp Mto Mtb Mfr Mln) = (rq2, MHq2, MRq2, MWq2, MYq2, Mftq2, Mplq2, Mloq2, Mhsq2, Mhfq2, Mhpq2, Mrsq2, Mrfq2, Mtoq2, Mtbq2, Mfrq2, Mlnq2)) : rq1 = rq2 := by
  obtain ⟨h_b, h_m, h_c, h_z, h_l, h_d, h_Z, h_A, h_B, h_Y, h_P, h_T, h_H, h_R, h_rz, h_rb, h_rm, h_rU, h_rh, h_rF, h_rR⟩ := hI
  exact qd_read h_rz h_rb h_rm h_rU h_rh h_rF h_rR h_z h_m h_b h_Z h_A h_B h_c h_P hT1 hT2
