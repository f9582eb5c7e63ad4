/-! what holds before each call -/
theorem qisIn0 {v lo hi : Int32} (h : ¬ (lo ≤ v ∧ v ≤ hi)) : f_X6_isIn v lo hi = 0 := by
  unfold f_X6_isIn
  split
  · rfl
  · next c1 =>
    split
    · rfl
    · next c2 =>
      exact absurd ⟨Int32.not_lt.mp c1, Int32.not_lt.mp c2⟩ h
theorem qisIn1 {v lo hi : Int32} (h1 : lo ≤ v) (h2 : v ≤ hi) : ¬ f_X6_isIn v lo hi = 0 := by
  unfold f_X6_isIn
  rw [if_neg (Int32.not_lt.mpr h1), if_neg (Int32.not_lt.mpr h2)]
  decide
theorem qx_clear0 {v : Int32} (hx : x_X5_clear v = none) : ¬ v < 16 ∧ v ≤ 512 := by
  unfold x_X5_clear at hx
  split at hx
  · exact nomatch hx
  · next c1 =>
    split at hx
    · next c2 => exact ⟨c1, c2⟩
    · exact nomatch hx
theorem qx_clear1 {v : Int32} (hx : x_X5_clear v = some zIAE) : f_X6_isIn v 16 512 = 0 := by
  unfold x_X5_clear at hx
  split at hx
  · next c => exact qisIn0 (fun q => absurd c (Int32.not_lt.mpr q.1))
  · split at hx
    · exact nomatch hx
    · next c2 => exact qisIn0 (fun q => c2 q.2)
section
variable {z al pl bg lo hs hf rs rf to tb v r ft z1 al1 pl1 bg1 lo1 hs1 hf1 rs1 rf1 to1 tb1 Z pl0 bg0 lo0 dm da m : Int32}
theorem rz_clear_0 (_ : z = Z) (hx : x_X5_clear v = none) (e : f_X6_clear Z al pl bg lo hs hf rs rf to tb v = (ft, z1, al1, pl1, bg1, lo1, hs1, hf1, rs1, rf1, to1, tb1)) : (f_X5_clear pl0 bg0 lo0 dm da z m v).2.2.2.2.2.1 = z1 := by
  obtain ⟨c1, c2⟩ := qx_clear0 hx
  have e1 : (f_X5_clear pl0 bg0 lo0 dm da z m v).2.2.2.2.2.1 = v := by
    have hs : f_X0_startAnew m v = (v, f_X3_shorten m 0) := rfl
    unfold f_X5_clear
    rw [if_neg c1, if_pos c2, hs]
  unfold f_X6_clear at e
  rw [if_neg (qisIn1 (Int32.not_lt.mp c1) c2)] at e
  generalize f_X6_beginAt v 0 = T at e
  obtain ⟨t1, t2, t3, t4, t5, t6, t7, t8, t9⟩ := T
  dsimp only at e
  cases e
  exact e1
theorem rz_clear_1 (h : z = Z) (hx : x_X5_clear v = some zIAE) (e : f_X6_clear Z al pl bg lo hs hf rs rf to tb v = (ft, z1, al1, pl1, bg1, lo1, hs1, hf1, rs1, rf1, to1, tb1)) : z = z1 := by
  unfold f_X6_clear at e
  rw [if_pos (qx_clear1 hx)] at e
  cases e
  exact h
end
theorem qx_feed0 {bm v : Int32} (hb : zok 400 bm) (hx : x_X5_feed bm v = none) : ¬ v < 0 ∧ v ≤ 16 ∧ ¬ f_X3_hasRoomFor 400 bm v = 0 ∧ (0 ≤ v.toInt ∧ v.toInt ≤ 16) ∧ bm.toInt + v.toInt ≤ 400 := by
  unfold x_X5_feed at hx
  split at hx
  · exact nomatch hx
  · next c =>
    split at hx
    · next c2 =>
      split at hx
      · exact nomatch hx
      · next c3 =>
        have hv : 0 ≤ v.toInt ∧ v.toInt ≤ 16 := by
          simp only [Int32.lt_iff_toInt_lt, Int32.le_iff_toInt_le] at c c2
          have o0 : (0 : Int32).toInt = 0 := rfl
          have o16 : (16 : Int32).toInt = 16 := rfl
          omega
        have h := zhr_room (N := 400) hb (v := v) ⟨hv.1, by omega⟩
        exact ⟨c, c2, c3, hv, Int.not_lt.mp (fun q => c3 (h.mpr q))⟩
    · exact nomatch hx
theorem qx_feed1 {bm v : Int32} (hx : x_X5_feed bm v = some zIAE) : f_X6_isIn v 0 16 = 0 := by
  unfold x_X5_feed at hx
  split at hx
  · next c => exact qisIn0 (fun q => absurd c (Int32.not_lt.mpr q.1))
  · split at hx
    · split at hx
      · exact absurd (Option.some.inj hx) (by decide)
      · exact nomatch hx
    · next c2 => exact qisIn0 (fun q => c2 q.2)
theorem qx_feed2 {bm v : Int32} (hb : zok 400 bm) (hx : x_X5_feed bm v = some zISE) : ¬ f_X6_isIn v 0 16 = 0 ∧ ¬ bm + v ≤ 400 := by
  unfold x_X5_feed at hx
  split at hx
  · exact absurd (Option.some.inj hx) (by decide)
  · next c =>
    split at hx
    · next c2 =>
      split at hx
      · next c3 =>
        have hv : 0 ≤ v.toInt ∧ v.toInt ≤ 16 := by
          simp only [Int32.lt_iff_toInt_lt, Int32.le_iff_toInt_le] at c c2
          have o0 : (0 : Int32).toInt = 0 := rfl
          have o16 : (16 : Int32).toInt = 16 := rfl
          omega
        have h := (zhr_room (N := 400) hb (v := v) ⟨hv.1, by omega⟩).mp c3
        refine ⟨qisIn1 (Int32.not_lt.mp c) c2, fun q => ?_⟩
        obtain ⟨b1, b2, b3⟩ := hb
        have o4 : (400 : Int32).toInt = 400 := rfl
        rw [Int32.le_iff_toInt_le, zadd (by omega) (by omega), o4] at q
        omega
      · exact nomatch hx
    · exact absurd (Option.some.inj hx) (by decide)
theorem q_feed0 {Bf MU U1 : Nat → Int32} {bm bs v pa pb pc pd r ft b1 : Int32} (hb : zok 400 bm) (h : bm = bs) (hx : x_X5_feed bm v = none) (e : f_X6_feed MU bs v pa pb pc pd = (r, U1, ft, b1)) : (f_X5_feed Bf bm v pa pb pc pd).1 = r ∧ (f_X5_feed Bf bm v pa pb pc pd).2.2 = b1 ∧ ft = 0 := by
  subst h
  obtain ⟨h3, h4, h5, hv, hr⟩ := qx_feed0 hb hx
  obtain ⟨g1, g2, g3⟩ := hb
  have h1 : ¬ f_X6_isIn v 0 16 = 0 := qisIn1 (Int32.not_lt.mp h3) h4
  have h2 : bm + v ≤ 400 := by
    have o4 : (400 : Int32).toInt = 400 := rfl
    rw [Int32.le_iff_toInt_le, zadd (by omega) (by omega), o4]
    omega
  have hc := zclamp hv.1
  unfold f_X6_feed at e
  rw [if_neg h1, if_pos h2] at e
  unfold f_X5_feed
  rw [if_neg h3, if_pos h4, if_neg h5]
  have e0 : v = nI v.toNatClampNeg := (znI_clamp hv.1).symm
  have em := zmf_lp (pa := pa) (pb := pb) (pc := pc) (pd := pd) (U := MU) (m := bm) v.toNatClampNeg
  generalize hT : lp_X6_feed pa pb pc pd (MU, bm) v.toNatClampNeg = T at em e
  obtain ⟨U2, n1⟩ := T
  dsimp only at e em
  cases e
  generalize hk : v.toNatClampNeg = k at *
  subst e0
  generalize hT1 : f_X5_feedFrom Bf bm pa (zMin (nI k) 4) = T1
  obtain ⟨G1, m1⟩ := T1
  dsimp only
  generalize hT2 : f_X5_feedFrom G1 m1 pb (zMin (nI k - 4) 4) = T2
  obtain ⟨G2, m2⟩ := T2
  dsimp only
  generalize hT3 : f_X5_feedFrom G2 m2 pc (zMin (nI k - 8) 4) = T3
  obtain ⟨G3, m3⟩ := T3
  dsimp only
  generalize hT4 : f_X5_feedFrom G3 m3 pd (zMin (nI k - 12) 4) = T4
  obtain ⟨G4, m4⟩ := T4
  dsimp only
  have := zfeed_m (k := k) (by omega) ⟨g1, by omega, by decide⟩ hT1 hT2 hT3 hT4
  rw [this, em]
  exact ⟨rfl, rfl, rfl⟩
section
variable {Bf MU U1 : Nat → Int32} {bm bs v pa pb pc pd r ft b1 : Int32}
theorem rb_feed_0 (hb : zok 400 bm) (_ : zok 400 bs) (h : bm = bs) (hx : x_X5_feed bm v = none) (e : f_X6_feed MU bs v pa pb pc pd = (r, U1, ft, b1)) : (f_X5_feed Bf bm v pa pb pc pd).2.2 = b1 := (q_feed0 hb h hx e).2.1
theorem rb_feed_1 (_ : zok 400 bm) (_ : zok 400 bs) (h : bm = bs) (hx : x_X5_feed bm v = some zIAE) (e : f_X6_feed MU bs v pa pb pc pd = (r, U1, ft, b1)) : bm = b1 := by
  unfold f_X6_feed at e
  rw [if_pos (qx_feed1 hx)] at e
  cases e
  exact h
theorem rb_feed_2 (hb : zok 400 bm) (_ : zok 400 bs) (h : bm = bs) (hx : x_X5_feed bm v = some zISE) (e : f_X6_feed MU bs v pa pb pc pd = (r, U1, ft, b1)) : bm = b1 := by
  subst h
  obtain ⟨c1, c2⟩ := qx_feed2 hb hx
  unfold f_X6_feed at e
  rw [if_neg c1, if_neg c2] at e
  cases e
  rfl
theorem qshort0 {N : Nat} {m : Int32} (hm : zok N m) : f_X3_shorten m 0 = 0 := by
  unfold f_X3_shorten
  rw [if_neg (by decide)]
  split
  · next c =>
    obtain ⟨h1, h2, h3⟩ := hm
    have o0 : (0 : Int32).toInt = 0 := rfl
    rw [Int32.le_iff_toInt_le, o0] at c
    exact Int32.toInt_inj.mp (by omega)
  · rfl
theorem rb_erase (hb : zok 400 bm) (_ : zok 400 bs) (_ : bm = bs) (e : f_X5_erase bm = (r, b1)) : b1 = 0 := by
  unfold f_X5_erase at e
  cases e
  exact qshort0 hb
end
theorem qpl2' (v z : Int32) : ((v - zMod v z) + z) - v = z - zMod v z := by
  rw [Int32.sub_eq_add_neg, Int32.sub_eq_add_neg, Int32.sub_eq_add_neg, Int32.add_assoc, Int32.add_assoc, Int32.add_comm (-zMod v z) (z + -v), ← Int32.add_assoc, ← Int32.add_assoc, Int32.add_comm v z, Int32.add_assoc z v, Int32.add_right_neg, Int32.add_zero]
theorem qmin_c {x y : Int32} (h : y ≤ x) : zMin x y = y := by
  unfold zMin
  split
  · rfl
  · next c => exact Int32.le_antisymm (Int32.not_lt.mp c) h
theorem qmin_x {x y : Int32} (h : ¬ y ≤ x) : zMin x y = x := by
  unfold zMin
  rw [if_neg (fun q => h (Int32.le_of_lt q))]
/-- what a piece does behind the filling -/
def qEf (F2 : Nat → Int32) (z m2 : Int32) (n : Nat) (dn pv : Int32) (F : Nat → Int32) (b tk : Int32) : Int32 × (Nat → Int32) × Int32 :=
  if (dn + tk) = m2 then
    if pv = 0 then
      match (f_X0_addFragment F F2 b m2 (f_X0_kindOf 1 1) dn tk) with
      | (r, F1, m1) => if r = 0 then (0, F1, m1) else (1, F1, m1)
    else
      match (f_X0_addFragment F F2 b m2 (f_X0_kindOf 0 1) dn tk) with
      | (r, F1, m1) => if r = 0 then (0, F1, m1) else (1, F1, m1)
  else
    if pv = 0 then
      match (f_X0_addFragment F F2 b m2 (f_X0_kindOf 1 0) dn tk) with
      | (r, F1, m1) => if r = 0 then (0, F1, m1) else lp_X0_addPieces F2 z m2 n (dn + tk) (pv + 1) F1 m1
    else
      match (f_X0_addFragment F F2 b m2 (f_X0_kindOf 0 0) dn tk) with
      | (r, F1, m1) => if r = 0 then (0, F1, m1) else lp_X0_addPieces F2 z m2 n (dn + tk) (pv + 1) F1 m1
theorem qlp_s (F2 : Nat → Int32) (z m2 : Int32) (n : Nat) (dn pv : Int32) (F : Nat → Int32) (m : Int32) : lp_X0_addPieces F2 z m2 (n + 1) dn pv F m = if 400 < pv then (0, F, m) else (if (f_X0_fillBlock F z m).1 = 0 then (0, (f_X0_fillBlock F z m).2.1, (f_X0_fillBlock F z m).2.2) else qEf F2 z m2 n dn pv (f_X0_fillBlock F z m).2.1 (f_X0_fillBlock F z m).2.2 (zMin (m2 - dn) (((((f_X0_fillBlock F z m).2.2 - (zMod (f_X0_fillBlock F z m).2.2 z)) + z) - (f_X0_fillBlock F z m).2.2) - 7))) := by
  rw [lp_X0_addPieces]
  generalize f_X0_fillBlock F z m = T
  obtain ⟨r1, F1, m1⟩ := T
  dsimp only [qEf]
theorem qaf_0 {F F2 : Nat → Int32} {b m2 q x tk : Int32} (hb : zok 4096 b) (ht : 0 ≤ tk.toInt ∧ tk.toInt ≤ 600) (h : 4096 < b.toInt + 7 + tk.toInt) : f_X0_addFragment F F2 b m2 q x tk = (0, F, b) := by
  have o7 : (7 : Int32).toInt = 7 := rfl
  have e : (7 + tk).toInt = 7 + tk.toInt := by rw [zadd] <;> rw [o7] <;> omega
  have hr : f_X3_hasRoomFor 4096 b (7 + tk) = 0 := (zhr_room hb ⟨by omega, by omega⟩).mpr (by rw [e]; omega)
  unfold f_X0_addFragment
  rw [if_pos hr]
theorem qE0 {F2 F : Nat → Int32} {z m2 dn pv b tk : Int32} {n : Nat} (hb : zok 4096 b) (ht : 0 ≤ tk.toInt ∧ tk.toInt ≤ 600) (h : 4096 < b.toInt + 7 + tk.toInt) : qEf F2 z m2 n dn pv F b tk = (0, F, b) := by
  unfold qEf
  split <;> split <;> (rw [qaf_0 hb ht h]; rfl)
theorem qroom {b tk : Int32} (hb : zok 4096 b) (ht : 0 ≤ tk.toInt ∧ tk.toInt ≤ 600) (h : ¬ 4096 < b.toInt + 7 + tk.toInt) : zroom 4096 (7 + tk.toNatClampNeg) b := by
  have := zclamp ht.1
  exact ⟨hb.1, by omega, by decide⟩
theorem qE1 {F2 F : Nat → Int32} {z m2 dn pv b tk : Int32} {n : Nat} (hb : zok 4096 b) (ht : 0 ≤ tk.toInt ∧ tk.toInt ≤ 600) (h : ¬ 4096 < b.toInt + 7 + tk.toInt) (he : dn + tk = m2) : (qEf F2 z m2 n dn pv F b tk).1 = 1 ∧ (qEf F2 z m2 n dn pv F b tk).2.2 = (b + 7) + tk := by
  unfold qEf
  rw [if_pos he]
  split
  · obtain ⟨G, e⟩ := zaf_1 (F := F) (F2 := F2) (m := b) (m2 := m2) (q := f_X0_kindOf 1 1) (x := dn) (v := tk) (qroom hb ht h) ht.1
    rw [e]
    exact ⟨rfl, rfl⟩
  · obtain ⟨G, e⟩ := zaf_1 (F := F) (F2 := F2) (m := b) (m2 := m2) (q := f_X0_kindOf 0 1) (x := dn) (v := tk) (qroom hb ht h) ht.1
    rw [e]
    exact ⟨rfl, rfl⟩
theorem qE2 {F2 F : Nat → Int32} {z m2 dn pv b tk : Int32} {n : Nat} (hb : zok 4096 b) (ht : 0 ≤ tk.toInt ∧ tk.toInt ≤ 600) (h : ¬ 4096 < b.toInt + 7 + tk.toInt) (he : ¬ dn + tk = m2) : ∃ G : Nat → Int32, qEf F2 z m2 n dn pv F b tk = lp_X0_addPieces F2 z m2 n (dn + tk) (pv + 1) G ((b + 7) + tk) := by
  unfold qEf
  rw [if_neg he]
  split
  · obtain ⟨G, e⟩ := zaf_1 (F := F) (F2 := F2) (m := b) (m2 := m2) (q := f_X0_kindOf 1 0) (x := dn) (v := tk) (qroom hb ht h) ht.1
    rw [e]
    exact ⟨G, rfl⟩
  · obtain ⟨G, e⟩ := zaf_1 (F := F) (F2 := F2) (m := b) (m2 := m2) (q := f_X0_kindOf 0 0) (x := dn) (v := tk) (qroom hb ht h) ht.1
    rw [e]
    exact ⟨G, rfl⟩
def qpv (z : Int32) (n : Nat) (pv m lf : Int32) : Prop := pv.toInt + n = 402 ∧ 0 ≤ pv.toInt ∧ ((pv.toInt = 0 ∧ lf.toInt ≤ 400) ∨ (1 ≤ pv.toInt ∧ 1 ≤ lf.toInt ∧ lf.toInt ≤ 401 - pv.toInt ∧ m.toInt % z.toInt = 0))
def qPc (A : Int32) (m : Int32) (R : Int32 × (Nat → Int32) × Int32) : Prop := (A.toInt ≤ 4096 → R.1 = 1 ∧ R.2.2 = A) ∧ (¬ A.toInt ≤ 4096 → R.1 = 0 ∧ m.toInt ≤ R.2.2.toInt)
/-- a piece, whatever the block's room -/
theorem qpiece {F2 F : Nat → Int32} {z m2 dn pv b tk m A : Int32} {n k : Nat} (hz : zsz z) (hb : zok 4096 b) (hmb : m.toInt ≤ b.toInt) (ht : 0 ≤ tk.toInt ∧ tk.toInt ≤ 600)
    (hA1 : dn + tk = m2 → A = (b + 7) + tk) (hA2 : ¬ dn + tk = m2 → A = lp_X6_appendedSize z k ((b + 7) + tk) (m2 - (dn + tk)) 1 ∧ zap z k ((b + 7) + tk) (m2 - (dn + tk)) 1)
    (ih : ¬ dn + tk = m2 → zok 4096 ((b + 7) + tk) → ∀ G : Nat → Int32, qPc (lp_X6_appendedSize z k ((b + 7) + tk) (m2 - (dn + tk)) 1) ((b + 7) + tk) (lp_X0_addPieces F2 z m2 n (dn + tk) (pv + 1) G ((b + 7) + tk))) :
    qPc A m (qEf F2 z m2 n dn pv F b tk) := by
  obtain ⟨b1, b2, b3⟩ := id hb
  have o7 : (7 : Int32).toInt = 7 := rfl
  have e7 : (b + 7).toInt = b.toInt + 7 := by rw [zadd] <;> rw [o7] <;> omega
  have e8 : ((b + 7) + tk).toInt = b.toInt + 7 + tk.toInt := by rw [zadd (by omega) (by omega), e7]
  by_cases h : 4096 < b.toInt + 7 + tk.toInt
  · rw [qE0 hb ht h]
    refine ⟨fun q => ?_, fun _ => ⟨rfl, hmb⟩⟩
    by_cases he : dn + tk = m2
    · rw [hA1 he] at q; omega
    · obtain ⟨a1, a2⟩ := hA2 he
      have := zap_ge hz _ _ _ _ a2
      rw [a1] at q
      omega
  · by_cases he : dn + tk = m2
    · obtain ⟨q1, q2⟩ := qE1 (F2 := F2) (F := F) (z := z) (pv := pv) (n := n) hb ht h he
      refine ⟨fun _ => ⟨q1, by rw [q2, hA1 he]⟩, fun q => ?_⟩
      rw [hA1 he] at q
      omega
    · obtain ⟨G, e⟩ := qE2 (F2 := F2) (F := F) (z := z) (pv := pv) (n := n) hb ht h he
      obtain ⟨a1, a2⟩ := hA2 he
      have hi := ih he ⟨by omega, by omega, by decide⟩ G
      rw [e, a1]
      exact ⟨hi.1, fun q => ⟨(hi.2 q).1, by have := (hi.2 q).2; omega⟩⟩
theorem qsubz {x y w : Int32} : x - (y + w) = (x - y) - w := zsub_add x y w
theorem qend {m2 dn tk : Int32} (h2 : zok 400 m2) (hd : 0 ≤ dn.toInt ∧ dn.toInt ≤ m2.toInt) (ht : 0 ≤ tk.toInt) (htl : tk.toInt ≤ m2.toInt - dn.toInt) : ((m2 - dn).toInt = m2.toInt - dn.toInt) ∧ ((m2 - dn) - tk).toInt = m2.toInt - dn.toInt - tk.toInt ∧ (dn + tk).toInt = dn.toInt + tk.toInt ∧ (dn + tk = m2 ↔ ((m2 - dn) - tk) ≤ 0) := by
  obtain ⟨a1, a2, a3⟩ := h2
  have e1 : (m2 - dn).toInt = m2.toInt - dn.toInt := by rw [zsub] <;> omega
  have e2 : ((m2 - dn) - tk).toInt = m2.toInt - dn.toInt - tk.toInt := by rw [zsub (by omega) (by omega), e1]
  have e3 : (dn + tk).toInt = dn.toInt + tk.toInt := by rw [zadd] <;> omega
  refine ⟨e1, e2, e3, ?_⟩
  have o0 : (0 : Int32).toInt = 0 := rfl
  rw [Int32.le_iff_toInt_le, e2, o0]
  constructor
  · intro h; have := congrArg Int32.toInt h; omega
  · intro h; exact Int32.toInt_inj.mp (by omega)
theorem qpieces {F2 : Nat → Int32} {z m2 : Int32} (hz : zsz z) (h2 : zok 400 m2) : ∀ (n k : Nat) (dn pv : Int32) (F : Nat → Int32) (m : Int32), zok 4096 m → 0 ≤ dn.toInt ∧ dn.toInt ≤ m2.toInt → zap z k m (m2 - dn) 1 → qpv z n pv m (m2 - dn) → qPc (lp_X6_appendedSize z k m (m2 - dn) 1) m (lp_X0_addPieces F2 z m2 n dn pv F m) := by
  intro n
  induction n with
  | zero =>
    intro k dn pv F m hm hd hp hv
    obtain ⟨v1, v2, v3⟩ := hv
    omega
  | succ n ih =>
    intro k dn pv F m hm hd hp hv
    cases k with
    | zero => exact absurd (zap_z hp) id
    | succ k =>
    have c0 : ¬ (1 : Int32) = 0 := by decide
    obtain ⟨p1, p2, p3, p4, p5, p6, p7, p8, p9, p10, p11, p12, p13⟩ := zap_pl hz hp c0
    obtain ⟨z1, z2⟩ := id hz
    obtain ⟨m1, m2', m3⟩ := id hm
    obtain ⟨v1, v2, v3⟩ := hv
    have o7 : (7 : Int32).toInt = 7 := rfl
    have o1 : (1 : Int32).toInt = 1 := rfl
    have e1 : (m2 - dn).toInt = m2.toInt - dn.toInt := by have := h2.2.1; rw [zsub] <;> omega
    have hpv : (pv + 1).toInt = pv.toInt + 1 := by rw [zadd] <;> rw [o1] <;> omega
    have hg : ¬ 400 < pv := by
      have o4 : (400 : Int32).toInt = 400 := rfl
      rw [Int32.lt_iff_toInt_lt, o4]
      omega
    rw [qlp_s, if_neg hg]
    by_cases c1 : 7 ≤ (z - zMod m z)
    · have c1' := c1
      rw [Int32.le_iff_toInt_le, o7] at c1'
      have hf : f_X0_fillBlock F z m = (1, F, m) := by
        unfold f_X0_fillBlock
        rw [qpl2', if_neg (Int32.not_lt.mpr c1)]
      rw [hf]
      dsimp only
      rw [if_neg c0, qpl2']
      by_cases c2 : ((z - zMod m z) - 7) ≤ (m2 - dn)
      · have c2' := c2
        rw [Int32.le_iff_toInt_le] at c2'
        rw [qmin_c c2]
        obtain ⟨_, e2, e3, e4⟩ := qend (tk := (z - zMod m z) - 7) h2 hd (by omega) (by omega)
        refine qpiece (k := k) hz hm (Int.le_refl _) ⟨by omega, by omega⟩ (fun he => ?_) (fun he => ?_) (fun he hok G => ?_)
        · rw [lp_X6_appendedSize, if_neg c0, if_pos c1, if_pos c2, if_pos (e4.mp he)]
          exact zap_0 (zap_e hp c0) rfl
        · rw [lp_X6_appendedSize, if_neg c0, if_pos c1, if_pos c2, if_neg (fun q => he (e4.mpr q)), zsub_add]
          exact ⟨rfl, zap_a hz hp c0 c1 c2 (fun q => he (e4.mpr q))⟩
        · have he' : ¬ ((m2 - dn) - ((z - zMod m z) - 7)).toInt ≤ 0 := fun q => he (e4.mpr (Int32.le_iff_toInt_le.mpr q))
          refine ih k _ _ G _ hok ⟨by omega, by omega⟩ (by rw [zsub_add]; exact zap_a hz hp c0 c1 c2 (fun q => he (e4.mpr q))) ⟨by omega, by omega, Or.inr ⟨by omega, by rw [zsub_add]; omega, ?_, ?_⟩⟩
          · rw [zsub_add, e2, hpv]
            rcases v3 with ⟨w1, w2⟩ | ⟨w1, w2, w3, w4⟩
            · omega
            · omega
          · rw [p10]; exact zmod_fill _ _
      · have c2' := c2
        rw [Int32.le_iff_toInt_le] at c2'
        rw [qmin_x c2]
        obtain ⟨_, e2, e3, e4⟩ := qend (tk := m2 - dn) h2 hd (by omega) (by omega)
        have he0 : dn + (m2 - dn) = m2 := e4.mpr (by rw [zsub_self]; decide)
        refine qpiece (k := k) hz hm (Int.le_refl _) ⟨by omega, by omega⟩ (fun he => ?_) (fun he => absurd he0 he) (fun he => absurd he0 he)
        rw [lp_X6_appendedSize, if_neg c0, if_pos c1, if_neg c2, if_pos (by rw [zsub_self]; decide)]
        exact zap_0 (zap_e hp c0) rfl
    · have c1' := c1
      rw [Int32.le_iff_toInt_le, o7] at c1'
      have hrl : 0 ≤ (z - zMod m z).toInt := by omega
      have hrk := zclamp hrl
      have q4 : (m + (z - zMod m z)).toInt = m.toInt + (z.toInt - m.toInt % z.toInt) := by rw [zadd] <;> rw [p5] <;> omega
      by_cases hr : f_X3_hasRoomFor 4096 m (z - zMod m z) = 0
      · have hr' := (zhr_room hm ⟨hrl, by omega⟩).mp hr
        have hf : f_X0_fillBlock F z m = (0, F, m) := by
          unfold f_X0_fillBlock
          rw [qpl2', if_pos (Int32.not_le.mp c1), if_pos hr]
        rw [hf]
        dsimp only
        rw [if_pos rfl]
        refine ⟨fun q => ?_, fun _ => ⟨rfl, Int.le_refl _⟩⟩
        have hl := (zap_le hz hp q c0)
        obtain ⟨-, -, l3, l4⟩ := hl
        by_cases c2 : (z - 7) ≤ (m2 - dn)
        · have := l3 c1 c2; omega
        · have := l4 c1 c2; omega
      · have hr' : ¬ (4096 : Int) < m.toInt + (z - zMod m z).toInt := fun q => hr ((zhr_room hm ⟨hrl, by omega⟩).mpr q)
        have hal := zalf (N := 4096) (x := 0) (b := z - zMod m z) (F := F) (m := m) ⟨m1, by omega, by decide⟩ hrl
        generalize hT : f_X3_addLowestFirst 4096 F m 0 (z - zMod m z) = T at hal
        obtain ⟨G0, b0⟩ := T
        have hb0 : b0 = m + (z - zMod m z) := hal
        have hf : f_X0_fillBlock F z m = (1, G0, b0) := by
          unfold f_X0_fillBlock
          rw [qpl2', if_pos (Int32.not_le.mp c1), if_neg hr, hT]
        have hok0 : zok 4096 b0 := ⟨by rw [hb0]; omega, by rw [hb0]; omega, by decide⟩
        have hmod : zMod b0 z = 0 := by
          have := zmodI hok0.1 hz
          rw [hb0, q4, zmod_fill] at this
          rw [hb0]
          exact Int32.toInt_inj.mp this
        rw [hf]
        dsimp only
        rw [if_neg c0, qpl2', hmod, Int32.sub_zero]
        by_cases c2 : (z - 7) ≤ (m2 - dn)
        · have c2' := c2
          rw [Int32.le_iff_toInt_le] at c2'
          rw [qmin_c c2]
          obtain ⟨_, e2, e3, e4⟩ := qend (tk := z - 7) h2 hd (by omega) (by omega)
          refine qpiece (k := k) hz hok0 (by rw [hb0]; omega) ⟨by omega, by omega⟩ (fun he => ?_) (fun he => ?_) (fun he hok G => ?_)
          · rw [lp_X6_appendedSize, if_neg c0, if_neg c1, if_pos c2, if_pos (e4.mp he), hb0]
            exact zap_0 (zap_e hp c0) rfl
          · rw [lp_X6_appendedSize, if_neg c0, if_neg c1, if_pos c2, if_neg (fun q => he (e4.mpr q)), zsub_add, hb0]
            exact ⟨rfl, zap_b hz hp c0 c1 c2 (fun q => he (e4.mpr q))⟩
          · have he' : ¬ ((m2 - dn) - (z - 7)).toInt ≤ 0 := fun q => he (e4.mpr (Int32.le_iff_toInt_le.mpr q))
            refine ih k _ _ G _ hok ⟨by omega, by omega⟩ (by rw [zsub_add, hb0]; exact zap_b hz hp c0 c1 c2 (fun q => he (e4.mpr q))) ⟨by omega, by omega, Or.inr ⟨by omega, by rw [zsub_add]; omega, ?_, ?_⟩⟩
            · rw [zsub_add, e2, hpv]
              rcases v3 with ⟨w1, w2⟩ | ⟨w1, w2, w3, w4⟩
              · omega
              · omega
            · rw [hb0, p12, Int.add_emod_right]; exact zmod_fill _ _
        · have c2' := c2
          rw [Int32.le_iff_toInt_le] at c2'
          rw [qmin_x c2]
          obtain ⟨_, e2, e3, e4⟩ := qend (tk := m2 - dn) h2 hd (by omega) (by omega)
          have he0 : dn + (m2 - dn) = m2 := e4.mpr (by rw [zsub_self]; decide)
          refine qpiece (k := k) hz hok0 (by rw [hb0]; omega) ⟨by omega, by omega⟩ (fun he => ?_) (fun he => absurd he0 he) (fun he => absurd he0 he)
          rw [lp_X6_appendedSize, if_neg c0, if_neg c1, if_neg c2, if_pos (by rw [zsub_self]; decide), hb0]
          exact zap_0 (zap_e hp c0) rfl
theorem zapp_sz_lp {MU : Nat → Int32} {z bs : Int32} (hz : zsz z) (hu : zok 400 bs) : ∀ (n : Nat) (bq mo : Int32) (MB : Nat → Int32) (al hb : Int32), zap z n al (bs - bq) mo → (lp_X6_appendedSize z n al (bs - bq) mo).toInt ≤ 4096 → 0 ≤ bq.toInt ∧ bq.toInt ≤ bs.toInt → (lp_X6_append MU z bs n bq mo MB al hb).1 = lp_X6_appendedSize z n al (bs - bq) mo ∧ (lp_X6_append MU z bs n bq mo MB al hb).2.2.2.1 = lp_X6_appendedSize z n al (bs - bq) mo := by
  intro n
  induction n with
  | zero => intro bq mo MB al hb hp; exact absurd (zap_z hp) id
  | succ n ih =>
    intro bq mo MB al hb hp hq hb_
    by_cases c0 : mo = 0
    · rw [zap_0 hp c0]
      unfold lp_X6_append
      rw [if_pos c0]
      exact ⟨rfl, rfl⟩
    obtain ⟨p1, p2, p3, p4, p5, p6, p7, p8, p9, p10, p11, p12, p13⟩ := zap_pl hz hp c0
    obtain ⟨z1, z2⟩ := id hz
    unfold lp_X6_append
    rw [if_neg c0]
    by_cases c1 : 7 ≤ (z - zMod al z)
    · rw [if_pos c1]
      by_cases c2 : ((z - zMod al z) - 7) ≤ (bs - bq)
      · rw [if_pos c2]
        by_cases c3 : ((z - zMod al z) - 7) = (bs - bq)
        · rw [if_pos c3]
          by_cases c4 : bq = 0
          · rw [if_pos c4]
            by_cases c5 : hb = 0
            · rw [if_pos c5]
              generalize hT : f_X6_putFragment MB MU al 1 bq ((z - zMod al z) - 7) = T
              obtain ⟨B1, a1⟩ := T
              have hi := ih _ _ B1 _ 1 (zap_e hp c0) (zapp_q0_at hz hp hq c0 c1 c2 hT) (zapp_b_at hz hu hp hb_ c0 c1 c2)
              rw [zsub_add, zpf_al (zapp_seg_at hz hu hp hb_ c0 c1 c2).2.1 hT] at hi
              rw [lp_X6_appendedSize, if_neg c0, if_pos c1, if_pos c2, if_pos (show (bs - bq) - ((z - zMod al z) - 7) ≤ 0 by rw [← c3, zsub_self]; decide), zpf_al (zapp_seg_at hz hu hp hb_ c0 c1 c2).2.1 hT]
              exact hi
            · rw [if_neg c5]
              generalize hT : f_X6_putFragment MB MU al 4 bq ((z - zMod al z) - 7) = T
              obtain ⟨B1, a1⟩ := T
              have hi := ih _ _ B1 _ 1 (zap_e hp c0) (zapp_q0_at hz hp hq c0 c1 c2 hT) (zapp_b_at hz hu hp hb_ c0 c1 c2)
              rw [zsub_add, zpf_al (zapp_seg_at hz hu hp hb_ c0 c1 c2).2.1 hT] at hi
              rw [lp_X6_appendedSize, if_neg c0, if_pos c1, if_pos c2, if_pos (show (bs - bq) - ((z - zMod al z) - 7) ≤ 0 by rw [← c3, zsub_self]; decide), zpf_al (zapp_seg_at hz hu hp hb_ c0 c1 c2).2.1 hT]
              exact hi
          · rw [if_neg c4]
            generalize hT : f_X6_putFragment MB MU al 4 bq ((z - zMod al z) - 7) = T
            obtain ⟨B1, a1⟩ := T
            have hi := ih _ _ B1 _ 1 (zap_e hp c0) (zapp_q0_at hz hp hq c0 c1 c2 hT) (zapp_b_at hz hu hp hb_ c0 c1 c2)
            rw [zsub_add, zpf_al (zapp_seg_at hz hu hp hb_ c0 c1 c2).2.1 hT] at hi
            rw [lp_X6_appendedSize, if_neg c0, if_pos c1, if_pos c2, if_pos (show (bs - bq) - ((z - zMod al z) - 7) ≤ 0 by rw [← c3, zsub_self]; decide), zpf_al (zapp_seg_at hz hu hp hb_ c0 c1 c2).2.1 hT]
            exact hi
        · rw [if_neg c3]
          by_cases c4 : bq = 0
          · rw [if_pos c4]
            by_cases c5 : hb = 0
            · rw [if_pos c5]
              generalize hT : f_X6_putFragment MB MU al 2 bq ((z - zMod al z) - 7) = T
              obtain ⟨B1, a1⟩ := T
              have hi := ih _ _ B1 _ 1 (zapp_p1_at hz hp hq c0 c1 c2 c3 hT) (zapp_q1_at hz hp hq c0 c1 c2 c3 hT) (zapp_b_at hz hu hp hb_ c0 c1 c2)
              rw [zsub_add, zpf_al (zapp_seg_at hz hu hp hb_ c0 c1 c2).2.1 hT] at hi
              rw [lp_X6_appendedSize, if_neg c0, if_pos c1, if_pos c2, if_neg (zapp_c3 ⟨(zapp_seg_at hz hu hp hb_ c0 c1 c2).2.1, by have := (zapp_seg_at hz hu hp hb_ c0 c1 c2).2.2.1; have := (zapp_seg_at hz hu hp hb_ c0 c1 c2).1; omega⟩ ⟨p2, by omega⟩ c2 c3), zpf_al (zapp_seg_at hz hu hp hb_ c0 c1 c2).2.1 hT]
              exact hi
            · rw [if_neg c5]
              generalize hT : f_X6_putFragment MB MU al 3 bq ((z - zMod al z) - 7) = T
              obtain ⟨B1, a1⟩ := T
              have hi := ih _ _ B1 _ 1 (zapp_p1_at hz hp hq c0 c1 c2 c3 hT) (zapp_q1_at hz hp hq c0 c1 c2 c3 hT) (zapp_b_at hz hu hp hb_ c0 c1 c2)
              rw [zsub_add, zpf_al (zapp_seg_at hz hu hp hb_ c0 c1 c2).2.1 hT] at hi
              rw [lp_X6_appendedSize, if_neg c0, if_pos c1, if_pos c2, if_neg (zapp_c3 ⟨(zapp_seg_at hz hu hp hb_ c0 c1 c2).2.1, by have := (zapp_seg_at hz hu hp hb_ c0 c1 c2).2.2.1; have := (zapp_seg_at hz hu hp hb_ c0 c1 c2).1; omega⟩ ⟨p2, by omega⟩ c2 c3), zpf_al (zapp_seg_at hz hu hp hb_ c0 c1 c2).2.1 hT]
              exact hi
          · rw [if_neg c4]
            generalize hT : f_X6_putFragment MB MU al 3 bq ((z - zMod al z) - 7) = T
            obtain ⟨B1, a1⟩ := T
            have hi := ih _ _ B1 _ 1 (zapp_p1_at hz hp hq c0 c1 c2 c3 hT) (zapp_q1_at hz hp hq c0 c1 c2 c3 hT) (zapp_b_at hz hu hp hb_ c0 c1 c2)
            rw [zsub_add, zpf_al (zapp_seg_at hz hu hp hb_ c0 c1 c2).2.1 hT] at hi
            rw [lp_X6_appendedSize, if_neg c0, if_pos c1, if_pos c2, if_neg (zapp_c3 ⟨(zapp_seg_at hz hu hp hb_ c0 c1 c2).2.1, by have := (zapp_seg_at hz hu hp hb_ c0 c1 c2).2.2.1; have := (zapp_seg_at hz hu hp hb_ c0 c1 c2).1; omega⟩ ⟨p2, by omega⟩ c2 c3), zpf_al (zapp_seg_at hz hu hp hb_ c0 c1 c2).2.1 hT]
            exact hi
      · rw [if_neg c2]
        by_cases c4 : bq = 0
        · rw [if_pos c4]
          by_cases c5 : hb = 0
          · rw [if_pos c5]
            generalize hT : f_X6_putFragment MB MU al 1 bq (bs - bq) = T
            obtain ⟨B1, a1⟩ := T
            have hi := ih _ _ B1 _ 1 (zap_e hp c0) (zapp_q0_af hz hp hq c0 c1 c2 hT) (zapp_b_af hz hu hp hb_ c0 c1 c2)
            rw [zsub_add, zpf_al (zapp_seg_af hz hu hp hb_ c0 c1 c2).2.1 hT] at hi
            rw [lp_X6_appendedSize, if_neg c0, if_pos c1, if_neg c2, if_pos (show (bs - bq) - (bs - bq) ≤ 0 by rw [zsub_self]; decide), zpf_al (zapp_seg_af hz hu hp hb_ c0 c1 c2).2.1 hT]
            exact hi
          · rw [if_neg c5]
            generalize hT : f_X6_putFragment MB MU al 4 bq (bs - bq) = T
            obtain ⟨B1, a1⟩ := T
            have hi := ih _ _ B1 _ 1 (zap_e hp c0) (zapp_q0_af hz hp hq c0 c1 c2 hT) (zapp_b_af hz hu hp hb_ c0 c1 c2)
            rw [zsub_add, zpf_al (zapp_seg_af hz hu hp hb_ c0 c1 c2).2.1 hT] at hi
            rw [lp_X6_appendedSize, if_neg c0, if_pos c1, if_neg c2, if_pos (show (bs - bq) - (bs - bq) ≤ 0 by rw [zsub_self]; decide), zpf_al (zapp_seg_af hz hu hp hb_ c0 c1 c2).2.1 hT]
            exact hi
        · rw [if_neg c4]
          generalize hT : f_X6_putFragment MB MU al 4 bq (bs - bq) = T
          obtain ⟨B1, a1⟩ := T
          have hi := ih _ _ B1 _ 1 (zap_e hp c0) (zapp_q0_af hz hp hq c0 c1 c2 hT) (zapp_b_af hz hu hp hb_ c0 c1 c2)
          rw [zsub_add, zpf_al (zapp_seg_af hz hu hp hb_ c0 c1 c2).2.1 hT] at hi
          rw [lp_X6_appendedSize, if_neg c0, if_pos c1, if_neg c2, if_pos (show (bs - bq) - (bs - bq) ≤ 0 by rw [zsub_self]; decide), zpf_al (zapp_seg_af hz hu hp hb_ c0 c1 c2).2.1 hT]
          exact hi
    · rw [if_neg c1]
      have hm0 := zlpp_al (MB := MB) (a := al) (z - zMod al z).toNatClampNeg
      generalize hTp : lpp_X6_append (MB, al) (z - zMod al z).toNatClampNeg = Tp at hm0 ⊢
      obtain ⟨Bp, ap⟩ := Tp
      have hm : ap = al + nI (z - zMod al z).toNatClampNeg := hm0
      have hap := zapp_al hz hp c0 hm rfl
      dsimp only
      by_cases c2 : (z - 7) ≤ (bs - bq)
      · rw [if_pos c2]
        by_cases c3 : (z - 7) = (bs - bq)
        · rw [if_pos c3]
          by_cases c4 : bq = 0
          · rw [if_pos c4]
            by_cases c5 : hb = 0
            · rw [if_pos c5]
              generalize hT : f_X6_putFragment Bp MU ap 1 bq (z - 7) = T
              obtain ⟨B1, a1⟩ := T
              have hi := ih _ _ B1 _ 1 (zap_e hp c0) (zapp_q0_bt hz hp hq c0 c1 c2 hm rfl hT) (zapp_b_bt hz hu hp hb_ c0 c1 c2)
              rw [zsub_add, zpf_al (zapp_seg_bt hz hu hp hb_ c0 c1 c2).2.1 hT, hap] at hi
              rw [lp_X6_appendedSize, if_neg c0, if_neg c1, if_pos c2, if_pos (show (bs - bq) - (z - 7) ≤ 0 by rw [← c3, zsub_self]; decide), zpf_al (zapp_seg_bt hz hu hp hb_ c0 c1 c2).2.1 hT, hap]
              exact hi
            · rw [if_neg c5]
              generalize hT : f_X6_putFragment Bp MU ap 4 bq (z - 7) = T
              obtain ⟨B1, a1⟩ := T
              have hi := ih _ _ B1 _ 1 (zap_e hp c0) (zapp_q0_bt hz hp hq c0 c1 c2 hm rfl hT) (zapp_b_bt hz hu hp hb_ c0 c1 c2)
              rw [zsub_add, zpf_al (zapp_seg_bt hz hu hp hb_ c0 c1 c2).2.1 hT, hap] at hi
              rw [lp_X6_appendedSize, if_neg c0, if_neg c1, if_pos c2, if_pos (show (bs - bq) - (z - 7) ≤ 0 by rw [← c3, zsub_self]; decide), zpf_al (zapp_seg_bt hz hu hp hb_ c0 c1 c2).2.1 hT, hap]
              exact hi
          · rw [if_neg c4]
            generalize hT : f_X6_putFragment Bp MU ap 4 bq (z - 7) = T
            obtain ⟨B1, a1⟩ := T
            have hi := ih _ _ B1 _ 1 (zap_e hp c0) (zapp_q0_bt hz hp hq c0 c1 c2 hm rfl hT) (zapp_b_bt hz hu hp hb_ c0 c1 c2)
            rw [zsub_add, zpf_al (zapp_seg_bt hz hu hp hb_ c0 c1 c2).2.1 hT, hap] at hi
            rw [lp_X6_appendedSize, if_neg c0, if_neg c1, if_pos c2, if_pos (show (bs - bq) - (z - 7) ≤ 0 by rw [← c3, zsub_self]; decide), zpf_al (zapp_seg_bt hz hu hp hb_ c0 c1 c2).2.1 hT, hap]
            exact hi
        · rw [if_neg c3]
          by_cases c4 : bq = 0
          · rw [if_pos c4]
            by_cases c5 : hb = 0
            · rw [if_pos c5]
              generalize hT : f_X6_putFragment Bp MU ap 2 bq (z - 7) = T
              obtain ⟨B1, a1⟩ := T
              have hi := ih _ _ B1 _ 1 (zapp_p1_bt hz hp hq c0 c1 c2 c3 hm rfl hT) (zapp_q1_bt hz hp hq c0 c1 c2 c3 hm rfl hT) (zapp_b_bt hz hu hp hb_ c0 c1 c2)
              rw [zsub_add, zpf_al (zapp_seg_bt hz hu hp hb_ c0 c1 c2).2.1 hT, hap] at hi
              rw [lp_X6_appendedSize, if_neg c0, if_neg c1, if_pos c2, if_neg (zapp_c3 ⟨(zapp_seg_bt hz hu hp hb_ c0 c1 c2).2.1, by have := (zapp_seg_bt hz hu hp hb_ c0 c1 c2).2.2.1; have := (zapp_seg_bt hz hu hp hb_ c0 c1 c2).1; omega⟩ ⟨p2, by omega⟩ c2 c3), zpf_al (zapp_seg_bt hz hu hp hb_ c0 c1 c2).2.1 hT, hap]
              exact hi
            · rw [if_neg c5]
              generalize hT : f_X6_putFragment Bp MU ap 3 bq (z - 7) = T
              obtain ⟨B1, a1⟩ := T
              have hi := ih _ _ B1 _ 1 (zapp_p1_bt hz hp hq c0 c1 c2 c3 hm rfl hT) (zapp_q1_bt hz hp hq c0 c1 c2 c3 hm rfl hT) (zapp_b_bt hz hu hp hb_ c0 c1 c2)
              rw [zsub_add, zpf_al (zapp_seg_bt hz hu hp hb_ c0 c1 c2).2.1 hT, hap] at hi
              rw [lp_X6_appendedSize, if_neg c0, if_neg c1, if_pos c2, if_neg (zapp_c3 ⟨(zapp_seg_bt hz hu hp hb_ c0 c1 c2).2.1, by have := (zapp_seg_bt hz hu hp hb_ c0 c1 c2).2.2.1; have := (zapp_seg_bt hz hu hp hb_ c0 c1 c2).1; omega⟩ ⟨p2, by omega⟩ c2 c3), zpf_al (zapp_seg_bt hz hu hp hb_ c0 c1 c2).2.1 hT, hap]
              exact hi
          · rw [if_neg c4]
            generalize hT : f_X6_putFragment Bp MU ap 3 bq (z - 7) = T
            obtain ⟨B1, a1⟩ := T
            have hi := ih _ _ B1 _ 1 (zapp_p1_bt hz hp hq c0 c1 c2 c3 hm rfl hT) (zapp_q1_bt hz hp hq c0 c1 c2 c3 hm rfl hT) (zapp_b_bt hz hu hp hb_ c0 c1 c2)
            rw [zsub_add, zpf_al (zapp_seg_bt hz hu hp hb_ c0 c1 c2).2.1 hT, hap] at hi
            rw [lp_X6_appendedSize, if_neg c0, if_neg c1, if_pos c2, if_neg (zapp_c3 ⟨(zapp_seg_bt hz hu hp hb_ c0 c1 c2).2.1, by have := (zapp_seg_bt hz hu hp hb_ c0 c1 c2).2.2.1; have := (zapp_seg_bt hz hu hp hb_ c0 c1 c2).1; omega⟩ ⟨p2, by omega⟩ c2 c3), zpf_al (zapp_seg_bt hz hu hp hb_ c0 c1 c2).2.1 hT, hap]
            exact hi
      · rw [if_neg c2]
        by_cases c4 : bq = 0
        · rw [if_pos c4]
          by_cases c5 : hb = 0
          · rw [if_pos c5]
            generalize hT : f_X6_putFragment Bp MU ap 1 bq (bs - bq) = T
            obtain ⟨B1, a1⟩ := T
            have hi := ih _ _ B1 _ 1 (zap_e hp c0) (zapp_q0_bf hz hp hq c0 c1 c2 hm rfl hT) (zapp_b_bf hz hu hp hb_ c0 c1 c2)
            rw [zsub_add, zpf_al (zapp_seg_bf hz hu hp hb_ c0 c1 c2).2.1 hT, hap] at hi
            rw [lp_X6_appendedSize, if_neg c0, if_neg c1, if_neg c2, if_pos (show (bs - bq) - (bs - bq) ≤ 0 by rw [zsub_self]; decide), zpf_al (zapp_seg_bf hz hu hp hb_ c0 c1 c2).2.1 hT, hap]
            exact hi
          · rw [if_neg c5]
            generalize hT : f_X6_putFragment Bp MU ap 4 bq (bs - bq) = T
            obtain ⟨B1, a1⟩ := T
            have hi := ih _ _ B1 _ 1 (zap_e hp c0) (zapp_q0_bf hz hp hq c0 c1 c2 hm rfl hT) (zapp_b_bf hz hu hp hb_ c0 c1 c2)
            rw [zsub_add, zpf_al (zapp_seg_bf hz hu hp hb_ c0 c1 c2).2.1 hT, hap] at hi
            rw [lp_X6_appendedSize, if_neg c0, if_neg c1, if_neg c2, if_pos (show (bs - bq) - (bs - bq) ≤ 0 by rw [zsub_self]; decide), zpf_al (zapp_seg_bf hz hu hp hb_ c0 c1 c2).2.1 hT, hap]
            exact hi
        · rw [if_neg c4]
          generalize hT : f_X6_putFragment Bp MU ap 4 bq (bs - bq) = T
          obtain ⟨B1, a1⟩ := T
          have hi := ih _ _ B1 _ 1 (zap_e hp c0) (zapp_q0_bf hz hp hq c0 c1 c2 hm rfl hT) (zapp_b_bf hz hu hp hb_ c0 c1 c2)
          rw [zsub_add, zpf_al (zapp_seg_bf hz hu hp hb_ c0 c1 c2).2.1 hT, hap] at hi
          rw [lp_X6_appendedSize, if_neg c0, if_neg c1, if_neg c2, if_pos (show (bs - bq) - (bs - bq) ≤ 0 by rw [zsub_self]; decide), zpf_al (zapp_seg_bf hz hu hp hb_ c0 c1 c2).2.1 hT, hap]
          exact hi
theorem qshort {m m0 : Int32} (h0 : 0 ≤ m0.toInt) (h : m0.toInt ≤ m.toInt) : f_X3_shorten m m0 = m0 := by
  unfold f_X3_shorten
  have o0 : (0 : Int32).toInt = 0 := rfl
  rw [if_neg (by rw [Int32.lt_iff_toInt_lt, o0]; omega)]
  split
  · next c => rw [Int32.le_iff_toInt_le] at c; exact Int32.toInt_inj.mp (by omega)
  · rfl
theorem q_append {Bf F F1 MB MU B1 : Nat → Int32} {bm z m bs Z al r1 m1 hb r2 ft a1 h1 : Int32} (hz : zsz z) (hm : zok 4096 m) (hu : zok 400 bm) (ez : z = Z) (eb : bm = bs) (em : m = al) (e1 : f_X5_append Bf F bm z m = (r1, F1, m1)) (e2 : f_X6_append MB MU Z al bs hb = (r2, B1, ft, a1, h1)) : r1 = r2 ∧ m1 = a1 := by
  subst ez; subst eb; subst em
  have hz0 : bm - 0 = bm := Int32.sub_zero bm
  have hp : zap z 1000 m (bm - 0) 1 := by rw [hz0]; exact zap_i hz hm hu
  have hP := qpieces (F2 := Bf) hz hu 402 1000 0 0 F m hm ⟨by decide, hu.1⟩ hp ⟨by decide, by decide, Or.inl ⟨by decide, by rw [hz0]; exact hu.2.1⟩⟩
  unfold f_X6_append at e2
  unfold f_X5_append f_X0_addRecord f_X0_addPieces at e1
  generalize lp_X0_addPieces Bf z bm 402 0 0 F m = T at e1 hP
  obtain ⟨r3, F3, m3⟩ := T
  by_cases c : f_X6_appendedSize z m bm ≤ 4096
  · have c' : (lp_X6_appendedSize z 1000 m (bm - 0) 1).toInt ≤ 4096 := by rw [hz0]; exact zapp_i rfl c
    rw [if_pos c] at e2
    have hS := zapp_sz_lp (MU := MU) hz hu 1000 0 1 MB m hb hp c' ⟨by decide, hu.1⟩
    rw [e2] at hS
    obtain ⟨q1, q2⟩ := hP.1 c'
    dsimp only at q1 q2 hS
    subst q1
    have e1' : (m3, F3, m3) = (r1, F1, m1) := e1
    cases e1'
    exact ⟨q2.trans hS.1.symm, q2.trans hS.2.symm⟩
  · have c' : ¬ (lp_X6_appendedSize z 1000 m (bm - 0) 1).toInt ≤ 4096 := fun q => c (by rw [hz0] at q; exact Int32.le_iff_toInt_le.mpr q)
    rw [if_neg c] at e2
    obtain ⟨q1, q2⟩ := hP.2 c'
    dsimp only at q1 q2
    subst q1
    have e1' : ((-2 : Int32), F3, f_X3_shorten m3 m) = (r1, F1, m1) := e1
    cases e1'
    cases e2
    exact ⟨rfl, qshort hm.1 q2⟩
section
variable {z al pl bg lo hs hf rs rf to tb v r ft z1 al1 pl1 bg1 lo1 hs1 hf1 rs1 rf1 to1 tb1 Z pl0 bg0 lo0 dm da m bm bs hb h1 r1 m1 a1 r2 : Int32} {Bf F F1 MB MU B1 : Nat → Int32}
theorem rm_append (hm : zok 4096 m) (_ : zok 4096 al) (hz : zsz z) (hu : zok 400 bm) (ez : z = Z) (eb : bm = bs) (em : m = al) (e1 : f_X5_append Bf F bm z m = (r1, F1, m1)) (e2 : f_X6_append MB MU Z al bs hb = (r2, B1, ft, a1, h1)) : m1 = a1 := (q_append hz hm hu ez eb em e1 e2).2
theorem qd_append (ez : z = Z) (eb : bm = bs) (em : m = al) (hz : zsz z) (hm : zok 4096 m) (hu : zok 400 bm) (_ : zsz Z) (_ : zok 4096 al) (_ : zok 400 bs) (e1 : f_X5_append Bf F bm z m = (r1, F1, m1)) (e2 : f_X6_append MB MU Z al bs hb = (r2, B1, ft, a1, h1)) : r1 = r2 := (q_append hz hm hu ez eb em e1 e2).1
theorem qx_raw0 (hx : x_X5_raw v = none) : ¬ f_X5_isByte v = 0 ∧ ¬ f_X6_isIn v 0 255 = 0 := by
  unfold x_X5_raw at hx
  split at hx
  · exact nomatch hx
  · next c => exact ⟨c, c⟩
theorem qx_raw1 (hx : x_X5_raw v = some zIAE) : f_X6_isIn v 0 255 = 0 := by
  unfold x_X5_raw at hx
  split at hx
  · next c => exact c
  · exact nomatch hx
theorem q_raw (hm : zok 4096 m) (hu : zok 400 bm) (eb : bm = bs) (em : m = al) (hx : x_X5_raw v = none) (e : f_X6_raw MB MU al bs v = (r, B1, ft, a1)) : (f_X5_raw Bf F bm m v).1 = r ∧ (f_X5_raw Bf F bm m v).2.2 = a1 ∧ ft = 0 := by
  subst eb; subst em
  obtain ⟨c1, c2⟩ := qx_raw0 hx
  obtain ⟨u1, u2, u3⟩ := id hu
  obtain ⟨m1', m2', m3'⟩ := id hm
  have o7 : (7 : Int32).toInt = 7 := rfl
  have o4 : (4096 : Int32).toInt = 4096 := rfl
  have e7 : (m + 7).toInt = m.toInt + 7 := by rw [zadd] <;> rw [o7] <;> omega
  have e8 : ((m + 7) + bm).toInt = m.toInt + 7 + bm.toInt := by rw [zadd (by omega) (by omega), e7]
  unfold f_X6_raw at e
  rw [if_neg c2] at e
  unfold f_X5_raw
  rw [if_neg c1]
  by_cases c : ((m + 7) + bm) ≤ 4096
  · rw [if_pos c] at e
    generalize hT : f_X6_putFragment MB MU m v 0 bm = T at e
    obtain ⟨B2, a2⟩ := T
    have ha := zpf_al u1 hT
    dsimp only at e
    cases e
    obtain ⟨G, eg⟩ := zaf_1 (F := F) (F2 := Bf) (m := m) (m2 := bm) (q := v) (x := 0) (v := bm) (zraw_room hm hu c) u1
    rw [eg, ha]
    exact ⟨rfl, rfl, rfl⟩
  · rw [if_neg c] at e
    rw [Int32.le_iff_toInt_le, e8, o4] at c
    cases e
    rw [qaf_0 hm ⟨u1, by omega⟩ (by omega)]
    exact ⟨rfl, rfl, rfl⟩
theorem rm_raw_0 (hm : zok 4096 m) (_ : zok 4096 al) (_ : zsz z) (hu : zok 400 bm) (_ : z = Z) (eb : bm = bs) (em : m = al) (hx : x_X5_raw v = none) (e : f_X6_raw MB MU al bs v = (r, B1, ft, a1)) : (f_X5_raw Bf F bm m v).2.2 = a1 := (q_raw hm hu eb em hx e).2.1
theorem rm_raw_1 (_ : zok 4096 m) (_ : zok 4096 al) (_ : zsz z) (_ : zok 400 bm) (_ : z = Z) (_ : bm = bs) (em : m = al) (hx : x_X5_raw v = some zIAE) (e : f_X6_raw MB MU al bs v = (r, B1, ft, a1)) : m = a1 := by
  unfold f_X6_raw at e
  rw [if_pos (qx_raw1 hx)] at e
  cases e
  exact em
theorem rm_clear_0 (hm : zok 4096 m) (_ : zok 4096 al) (_ : zsz z) (_ : zok 400 bm) (_ : z = Z) (_ : bm = bs) (_ : m = al) (hx : x_X5_clear v = none) (e : f_X6_clear Z al pl bg lo hs hf rs rf to tb v = (ft, z1, al1, pl1, bg1, lo1, hs1, hf1, rs1, rf1, to1, tb1)) : (f_X5_clear pl0 bg0 lo0 dm da z m v).2.2.2.2.2.2 = al1 := by
  obtain ⟨c1, c2⟩ := qx_clear0 hx
  have e1 : (f_X5_clear pl0 bg0 lo0 dm da z m v).2.2.2.2.2.2 = f_X3_shorten m 0 := by
    have hs : f_X0_startAnew m v = (v, f_X3_shorten m 0) := rfl
    unfold f_X5_clear
    rw [if_neg c1, if_pos c2, hs]
  unfold f_X6_clear at e
  rw [if_neg (qisIn1 (Int32.not_lt.mp c1) c2)] at e
  generalize f_X6_beginAt v 0 = T at e
  obtain ⟨t1, t2, t3, t4, t5, t6, t7, t8, t9⟩ := T
  dsimp only at e
  cases e
  rw [e1]
  exact qshort (by decide) hm.1
theorem rm_clear_1 (_ : zok 4096 m) (_ : zok 4096 al) (_ : zsz z) (_ : zok 400 bm) (_ : z = Z) (_ : bm = bs) (em : m = al) (hx : x_X5_clear v = some zIAE) (e : f_X6_clear Z al pl bg lo hs hf rs rf to tb v = (ft, z1, al1, pl1, bg1, lo1, hs1, hf1, rs1, rf1, to1, tb1)) : m = al1 := by
  unfold f_X6_clear at e
  rw [if_pos (qx_clear1 hx)] at e
  cases e
  exact em
theorem qx_cut0 (hx : x_X5_cut m v = none) : ¬ v < 0 ∧ v ≤ m := by
  unfold x_X5_cut at hx
  split at hx
  · exact nomatch hx
  · next c1 =>
    split at hx
    · next c2 => exact ⟨c1, c2⟩
    · exact nomatch hx
theorem qx_cut1 (hx : x_X5_cut m v = some zIAE) : f_X6_isIn v 0 m = 0 := by
  unfold x_X5_cut at hx
  split at hx
  · next c => exact qisIn0 (fun q => absurd c (Int32.not_lt.mpr q.1))
  · split at hx
    · exact nomatch hx
    · next c2 => exact qisIn0 (fun q => c2 q.2)
theorem q_cut (em : m = al) (hx : x_X5_cut m v = none) (e : f_X6_cut Z al pl bg lo hs hf rs rf to tb v = (r, ft, al1, pl1, bg1, lo1, hs1, hf1, rs1, rf1, to1, tb1)) : (f_X5_cut pl0 bg0 lo0 dm da z m v).1 = r ∧ (f_X5_cut pl0 bg0 lo0 dm da z m v).2.2.2.2.2.2 = al1 ∧ ft = 0 := by
  subst em
  obtain ⟨c1, c2⟩ := qx_cut0 hx
  have s1 : f_X3_shorten m v = v := qshort (by rw [Int32.lt_iff_toInt_lt] at c1; have o0 : (0 : Int32).toInt = 0 := rfl; omega) (Int32.le_iff_toInt_le.mp c2)
  unfold f_X6_cut at e
  rw [if_neg (qisIn1 (Int32.not_lt.mp c1) c2)] at e
  generalize f_X6_beginAt Z 0 = T at e
  obtain ⟨t1, t2, t3, t4, t5, t6, t7, t8, t9⟩ := T
  dsimp only at e
  cases e
  unfold f_X5_cut
  rw [if_neg c1, if_pos c2, s1]
  exact ⟨rfl, rfl, rfl⟩
theorem rm_cut_0 (_ : zok 4096 m) (_ : zok 4096 al) (_ : zsz z) (_ : zok 400 bm) (_ : z = Z) (_ : bm = bs) (em : m = al) (hx : x_X5_cut m v = none) (e : f_X6_cut Z al pl bg lo hs hf rs rf to tb v = (r, ft, al1, pl1, bg1, lo1, hs1, hf1, rs1, rf1, to1, tb1)) : (f_X5_cut pl0 bg0 lo0 dm da z m v).2.2.2.2.2.2 = al1 := (q_cut em hx e).2.1
theorem rm_cut_1 (_ : zok 4096 m) (_ : zok 4096 al) (_ : zsz z) (_ : zok 400 bm) (_ : z = Z) (_ : bm = bs) (em : m = al) (hx : x_X5_cut m v = some zIAE) (e : f_X6_cut Z al pl bg lo hs hf rs rf to tb v = (r, ft, al1, pl1, bg1, lo1, hs1, hf1, rs1, rf1, to1, tb1)) : m = al1 := by
  subst em
  unfold f_X6_cut at e
  rw [if_pos (qx_cut1 hx)] at e
  cases e
  rfl
theorem qt_cut_0 (_ : z = Z) (_ : bm = bs) (em : m = al) (hx : x_X5_cut m v = none) (e : f_X6_cut Z al pl bg lo hs hf rs rf to tb v = (r, ft, al1, pl1, bg1, lo1, hs1, hf1, rs1, rf1, to1, tb1)) : ft = 0 := (q_cut (pl0 := 0) (bg0 := 0) (lo0 := 0) (dm := 0) (da := 0) (z := 0) em hx e).2.2
theorem qt_cut_1 (_ : z = Z) (_ : bm = bs) (em : m = al) (hx : x_X5_cut m v = some zIAE) (e : f_X6_cut Z al pl bg lo hs hf rs rf to tb v = (r, ft, al1, pl1, bg1, lo1, hs1, hf1, rs1, rf1, to1, tb1)) : ft = 1 := by
  subst em
  unfold f_X6_cut at e
  rw [if_pos (qx_cut1 hx)] at e
  cases e
  rfl
theorem qr_cut (_ : z = Z) (_ : bm = bs) (em : m = al) (hx : x_X5_cut m v = none) (e : f_X6_cut Z al pl bg lo hs hf rs rf to tb v = (r, ft, al1, pl1, bg1, lo1, hs1, hf1, rs1, rf1, to1, tb1)) : (f_X5_cut pl0 bg0 lo0 dm da z m v).1 = r := (q_cut em hx e).1
theorem qt_raw_0 (_ : z = Z) (eb : bm = bs) (em : m = al) (hm : zok 4096 m) (hu : zok 400 bm) (hx : x_X5_raw v = none) (e : f_X6_raw MB MU al bs v = (r, B1, ft, a1)) : ft = 0 := (q_raw (Bf := MU) (F := MU) hm hu eb em hx e).2.2
theorem qt_raw_1 (_ : z = Z) (_ : bm = bs) (_ : m = al) (_ : zok 4096 m) (_ : zok 400 bm) (hx : x_X5_raw v = some zIAE) (e : f_X6_raw MB MU al bs v = (r, B1, ft, a1)) : ft = 1 := by
  unfold f_X6_raw at e
  rw [if_pos (qx_raw1 hx)] at e
  cases e
  rfl
theorem qr_raw (_ : z = Z) (eb : bm = bs) (em : m = al) (hm : zok 4096 m) (hu : zok 400 bm) (hx : x_X5_raw v = none) (e : f_X6_raw MB MU al bs v = (r, B1, ft, a1)) : (f_X5_raw Bf F bm m v).1 = r := (q_raw hm hu eb em hx e).1
end
def zInv (n : Nat) (Bf : Nat → Int32) (Wf : Nat → Int32) (Yf : Nat → Int32) (Cf : Nat → Int32) (F : Nat → Int32) (MB : Nat → Int32) (MU : Nat → Int32) (MH : Nat → Int32) (MR : Nat → Int32) (MW : Nat → Int32) (MY : Nat → Int32) (bm : Int32) (rp : Int32) (hf : Int32) (pl : Int32) (bg : Int32) (lo : Int32) (fp : Int32) (fb : Int32) (dm : Int32) (da : Int32) (cm : Int32) (z : Int32) (m : Int32) (Mft : Int32) (Msz : Int32) (Mal : Int32) (Mbs : Int32) (Mpl : Int32) (Mbg : Int32) (Mlo : Int32) (Mhs : Int32) (Mhf : Int32) (Mhp : Int32) (Mrs : Int32) (Mrf : Int32) (Mto : Int32) (Mtb : Int32) (Mfr : Int32) (Mln : Int32) (Mhb : Int32) : Prop := zok 400 bm ∧ zok 4096 m ∧ zok 4096 cm ∧ zsz z ∧ zbo lo ∧ zdok (8196 * (512 - n)) dm ∧ zsz Msz ∧ zok 4096 Mal ∧ zok 400 Mbs ∧ zby 4096 MB ∧ zpl Mpl ∧ zdok (10020 * (512 - n)) Mto ∧ (0 ≤ Mhs.toInt ∧ Mhs.toInt ≤ Mpl.toInt ∧ Mhs.toInt ≤ 4096) ∧ zrs Mrs ∧ z = Msz ∧ bm = Mbs ∧ m = Mal
theorem zdok_eq {k : Nat} {x y : Int32} (e : x = 0) (h : zdok k y) : zdok k x := by
  rw [e]
  exact zdok_0 h
theorem zInv_0 : zInv 0 (fun _ => 0) (fun _ => 0) (fun _ => 0) (fun _ => 0) (fun _ => 0) (fun _ => 0) (fun _ => 0) (fun _ => 0) (fun _ => 0) (fun _ => 0) (fun _ => 0) 0 (-1) 0 0 0 0 0 0 0 0 0 64 0 0 64 0 0 0 0 0 0 0 0 (-1) (-1) 0 0 0 0 0 := ⟨⟨by decide, by decide, by decide⟩, ⟨by decide, by decide, by decide⟩, ⟨by decide, by decide, by decide⟩, ⟨by decide, by decide⟩, rfl, ⟨by decide, by decide⟩, ⟨by decide, by decide⟩, ⟨by decide, by decide, by decide⟩, ⟨by decide, by decide, by decide⟩, (fun _ _ => ⟨(by show 0 ≤ (0 : Int32).toInt; decide), (by show (0 : Int32).toInt ≤ 255; decide)⟩), ⟨by decide, by decide⟩, ⟨by decide, by decide⟩, ⟨by decide, by decide, by decide⟩, ⟨by decide, by decide⟩, rfl, rfl, rfl⟩
theorem zI_bm {n : Nat} {Bf Wf Yf Cf F MB MU MH MR MW MY : Nat → Int32} {bm rp hf pl bg lo fp fb dm da cm z m Mft Msz Mal Mbs Mpl Mbg Mlo Mhs Mhf Mhp Mrs Mrf Mto Mtb Mfr Mln Mhb : Int32} (hI : (zInv n Bf Wf Yf Cf F MB MU MH MR MW MY bm rp hf pl bg lo fp fb dm da cm z m Mft Msz Mal Mbs Mpl Mbg Mlo Mhs Mhf Mhp Mrs Mrf Mto Mtb Mfr Mln Mhb)) : zok 400 bm := by
  obtain ⟨h_b, h_m, h_c, h_z, h_l, h_d, h_Z, h_A, h_B, h_Y, h_P, h_T, h_H, h_R, h_rz, h_rb, h_rm⟩ := hI
  exact h_b
theorem zI_m {n : Nat} {Bf Wf Yf Cf F MB MU MH MR MW MY : Nat → Int32} {bm rp hf pl bg lo fp fb dm da cm z m Mft Msz Mal Mbs Mpl Mbg Mlo Mhs Mhf Mhp Mrs Mrf Mto Mtb Mfr Mln Mhb : Int32} (hI : (zInv n Bf Wf Yf Cf F MB MU MH MR MW MY bm rp hf pl bg lo fp fb dm da cm z m Mft Msz Mal Mbs Mpl Mbg Mlo Mhs Mhf Mhp Mrs Mrf Mto Mtb Mfr Mln Mhb)) : zok 4096 m := by
  obtain ⟨h_b, h_m, h_c, h_z, h_l, h_d, h_Z, h_A, h_B, h_Y, h_P, h_T, h_H, h_R, h_rz, h_rb, h_rm⟩ := hI
  exact h_m
theorem zI_cm {n : Nat} {Bf Wf Yf Cf F MB MU MH MR MW MY : Nat → Int32} {bm rp hf pl bg lo fp fb dm da cm z m Mft Msz Mal Mbs Mpl Mbg Mlo Mhs Mhf Mhp Mrs Mrf Mto Mtb Mfr Mln Mhb : Int32} (hI : (zInv n Bf Wf Yf Cf F MB MU MH MR MW MY bm rp hf pl bg lo fp fb dm da cm z m Mft Msz Mal Mbs Mpl Mbg Mlo Mhs Mhf Mhp Mrs Mrf Mto Mtb Mfr Mln Mhb)) : zok 4096 cm := by
  obtain ⟨h_b, h_m, h_c, h_z, h_l, h_d, h_Z, h_A, h_B, h_Y, h_P, h_T, h_H, h_R, h_rz, h_rb, h_rm⟩ := hI
  exact h_c
theorem zI_z {n : Nat} {Bf Wf Yf Cf F MB MU MH MR MW MY : Nat → Int32} {bm rp hf pl bg lo fp fb dm da cm z m Mft Msz Mal Mbs Mpl Mbg Mlo Mhs Mhf Mhp Mrs Mrf Mto Mtb Mfr Mln Mhb : Int32} (hI : (zInv n Bf Wf Yf Cf F MB MU MH MR MW MY bm rp hf pl bg lo fp fb dm da cm z m Mft Msz Mal Mbs Mpl Mbg Mlo Mhs Mhf Mhp Mrs Mrf Mto Mtb Mfr Mln Mhb)) : zsz z := by
  obtain ⟨h_b, h_m, h_c, h_z, h_l, h_d, h_Z, h_A, h_B, h_Y, h_P, h_T, h_H, h_R, h_rz, h_rb, h_rm⟩ := hI
  exact h_z
theorem zI_lo {n : Nat} {Bf Wf Yf Cf F MB MU MH MR MW MY : Nat → Int32} {bm rp hf pl bg lo fp fb dm da cm z m Mft Msz Mal Mbs Mpl Mbg Mlo Mhs Mhf Mhp Mrs Mrf Mto Mtb Mfr Mln Mhb : Int32} (hI : (zInv n Bf Wf Yf Cf F MB MU MH MR MW MY bm rp hf pl bg lo fp fb dm da cm z m Mft Msz Mal Mbs Mpl Mbg Mlo Mhs Mhf Mhp Mrs Mrf Mto Mtb Mfr Mln Mhb)) : zbo lo := by
  obtain ⟨h_b, h_m, h_c, h_z, h_l, h_d, h_Z, h_A, h_B, h_Y, h_P, h_T, h_H, h_R, h_rz, h_rb, h_rm⟩ := hI
  exact h_l
theorem zI_Msz {n : Nat} {Bf Wf Yf Cf F MB MU MH MR MW MY : Nat → Int32} {bm rp hf pl bg lo fp fb dm da cm z m Mft Msz Mal Mbs Mpl Mbg Mlo Mhs Mhf Mhp Mrs Mrf Mto Mtb Mfr Mln Mhb : Int32} (hI : (zInv n Bf Wf Yf Cf F MB MU MH MR MW MY bm rp hf pl bg lo fp fb dm da cm z m Mft Msz Mal Mbs Mpl Mbg Mlo Mhs Mhf Mhp Mrs Mrf Mto Mtb Mfr Mln Mhb)) : zsz Msz := by
  obtain ⟨h_b, h_m, h_c, h_z, h_l, h_d, h_Z, h_A, h_B, h_Y, h_P, h_T, h_H, h_R, h_rz, h_rb, h_rm⟩ := hI
  exact h_Z
theorem zI_Mal {n : Nat} {Bf Wf Yf Cf F MB MU MH MR MW MY : Nat → Int32} {bm rp hf pl bg lo fp fb dm da cm z m Mft Msz Mal Mbs Mpl Mbg Mlo Mhs Mhf Mhp Mrs Mrf Mto Mtb Mfr Mln Mhb : Int32} (hI : (zInv n Bf Wf Yf Cf F MB MU MH MR MW MY bm rp hf pl bg lo fp fb dm da cm z m Mft Msz Mal Mbs Mpl Mbg Mlo Mhs Mhf Mhp Mrs Mrf Mto Mtb Mfr Mln Mhb)) : zok 4096 Mal := by
  obtain ⟨h_b, h_m, h_c, h_z, h_l, h_d, h_Z, h_A, h_B, h_Y, h_P, h_T, h_H, h_R, h_rz, h_rb, h_rm⟩ := hI
  exact h_A
theorem zI_Mbs {n : Nat} {Bf Wf Yf Cf F MB MU MH MR MW MY : Nat → Int32} {bm rp hf pl bg lo fp fb dm da cm z m Mft Msz Mal Mbs Mpl Mbg Mlo Mhs Mhf Mhp Mrs Mrf Mto Mtb Mfr Mln Mhb : Int32} (hI : (zInv n Bf Wf Yf Cf F MB MU MH MR MW MY bm rp hf pl bg lo fp fb dm da cm z m Mft Msz Mal Mbs Mpl Mbg Mlo Mhs Mhf Mhp Mrs Mrf Mto Mtb Mfr Mln Mhb)) : zok 400 Mbs := by
  obtain ⟨h_b, h_m, h_c, h_z, h_l, h_d, h_Z, h_A, h_B, h_Y, h_P, h_T, h_H, h_R, h_rz, h_rb, h_rm⟩ := hI
  exact h_B
theorem zI_MB {n : Nat} {Bf Wf Yf Cf F MB MU MH MR MW MY : Nat → Int32} {bm rp hf pl bg lo fp fb dm da cm z m Mft Msz Mal Mbs Mpl Mbg Mlo Mhs Mhf Mhp Mrs Mrf Mto Mtb Mfr Mln Mhb : Int32} (hI : (zInv n Bf Wf Yf Cf F MB MU MH MR MW MY bm rp hf pl bg lo fp fb dm da cm z m Mft Msz Mal Mbs Mpl Mbg Mlo Mhs Mhf Mhp Mrs Mrf Mto Mtb Mfr Mln Mhb)) : zby 4096 MB := by
  obtain ⟨h_b, h_m, h_c, h_z, h_l, h_d, h_Z, h_A, h_B, h_Y, h_P, h_T, h_H, h_R, h_rz, h_rb, h_rm⟩ := hI
  exact h_Y
theorem zI_Mpl {n : Nat} {Bf Wf Yf Cf F MB MU MH MR MW MY : Nat → Int32} {bm rp hf pl bg lo fp fb dm da cm z m Mft Msz Mal Mbs Mpl Mbg Mlo Mhs Mhf Mhp Mrs Mrf Mto Mtb Mfr Mln Mhb : Int32} (hI : (zInv n Bf Wf Yf Cf F MB MU MH MR MW MY bm rp hf pl bg lo fp fb dm da cm z m Mft Msz Mal Mbs Mpl Mbg Mlo Mhs Mhf Mhp Mrs Mrf Mto Mtb Mfr Mln Mhb)) : zpl Mpl := by
  obtain ⟨h_b, h_m, h_c, h_z, h_l, h_d, h_Z, h_A, h_B, h_Y, h_P, h_T, h_H, h_R, h_rz, h_rb, h_rm⟩ := hI
  exact h_P
theorem zI_Mhs {n : Nat} {Bf Wf Yf Cf F MB MU MH MR MW MY : Nat → Int32} {bm rp hf pl bg lo fp fb dm da cm z m Mft Msz Mal Mbs Mpl Mbg Mlo Mhs Mhf Mhp Mrs Mrf Mto Mtb Mfr Mln Mhb : Int32} (hI : (zInv n Bf Wf Yf Cf F MB MU MH MR MW MY bm rp hf pl bg lo fp fb dm da cm z m Mft Msz Mal Mbs Mpl Mbg Mlo Mhs Mhf Mhp Mrs Mrf Mto Mtb Mfr Mln Mhb)) : (0 ≤ Mhs.toInt ∧ Mhs.toInt ≤ Mpl.toInt ∧ Mhs.toInt ≤ 4096) := by
  obtain ⟨h_b, h_m, h_c, h_z, h_l, h_d, h_Z, h_A, h_B, h_Y, h_P, h_T, h_H, h_R, h_rz, h_rb, h_rm⟩ := hI
  exact h_H
theorem zI_Mrs {n : Nat} {Bf Wf Yf Cf F MB MU MH MR MW MY : Nat → Int32} {bm rp hf pl bg lo fp fb dm da cm z m Mft Msz Mal Mbs Mpl Mbg Mlo Mhs Mhf Mhp Mrs Mrf Mto Mtb Mfr Mln Mhb : Int32} (hI : (zInv n Bf Wf Yf Cf F MB MU MH MR MW MY bm rp hf pl bg lo fp fb dm da cm z m Mft Msz Mal Mbs Mpl Mbg Mlo Mhs Mhf Mhp Mrs Mrf Mto Mtb Mfr Mln Mhb)) : zrs Mrs := by
  obtain ⟨h_b, h_m, h_c, h_z, h_l, h_d, h_Z, h_A, h_B, h_Y, h_P, h_T, h_H, h_R, h_rz, h_rb, h_rm⟩ := hI
  exact h_R
theorem zI_dm {n : Nat} (hn : n < 512) {Bf Wf Yf Cf F MB MU MH MR MW MY : Nat → Int32} {bm rp hf pl bg lo fp fb dm da cm z m Mft Msz Mal Mbs Mpl Mbg Mlo Mhs Mhf Mhp Mrs Mrf Mto Mtb Mfr Mln Mhb : Int32} (hI : (zInv n Bf Wf Yf Cf F MB MU MH MR MW MY bm rp hf pl bg lo fp fb dm da cm z m Mft Msz Mal Mbs Mpl Mbg Mlo Mhs Mhf Mhp Mrs Mrf Mto Mtb Mfr Mln Mhb)) : zdok 8196 dm := by
  obtain ⟨h_b, h_m, h_c, h_z, h_l, h_d, h_Z, h_A, h_B, h_Y, h_P, h_T, h_H, h_R, h_rz, h_rb, h_rm⟩ := hI
  exact zdok_le h_d (by omega)
theorem zI_Mto {n : Nat} (hn : n < 512) {Bf Wf Yf Cf F MB MU MH MR MW MY : Nat → Int32} {bm rp hf pl bg lo fp fb dm da cm z m Mft Msz Mal Mbs Mpl Mbg Mlo Mhs Mhf Mhp Mrs Mrf Mto Mtb Mfr Mln Mhb : Int32} (hI : (zInv n Bf Wf Yf Cf F MB MU MH MR MW MY bm rp hf pl bg lo fp fb dm da cm z m Mft Msz Mal Mbs Mpl Mbg Mlo Mhs Mhf Mhp Mrs Mrf Mto Mtb Mfr Mln Mhb)) : zdok 10020 Mto := by
  obtain ⟨h_b, h_m, h_c, h_z, h_l, h_d, h_Z, h_A, h_B, h_Y, h_P, h_T, h_H, h_R, h_rz, h_rb, h_rm⟩ := hI
  exact zdok_le h_T (by omega)
theorem zI_rz {n : Nat} {Bf Wf Yf Cf F MB MU MH MR MW MY : Nat → Int32} {bm rp hf pl bg lo fp fb dm da cm z m Mft Msz Mal Mbs Mpl Mbg Mlo Mhs Mhf Mhp Mrs Mrf Mto Mtb Mfr Mln Mhb : Int32} (hI : (zInv n Bf Wf Yf Cf F MB MU MH MR MW MY bm rp hf pl bg lo fp fb dm da cm z m Mft Msz Mal Mbs Mpl Mbg Mlo Mhs Mhf Mhp Mrs Mrf Mto Mtb Mfr Mln Mhb)) : z = Msz := by
  obtain ⟨h_b, h_m, h_c, h_z, h_l, h_d, h_Z, h_A, h_B, h_Y, h_P, h_T, h_H, h_R, h_rz, h_rb, h_rm⟩ := hI
  exact h_rz
theorem zI_rb {n : Nat} {Bf Wf Yf Cf F MB MU MH MR MW MY : Nat → Int32} {bm rp hf pl bg lo fp fb dm da cm z m Mft Msz Mal Mbs Mpl Mbg Mlo Mhs Mhf Mhp Mrs Mrf Mto Mtb Mfr Mln Mhb : Int32} (hI : (zInv n Bf Wf Yf Cf F MB MU MH MR MW MY bm rp hf pl bg lo fp fb dm da cm z m Mft Msz Mal Mbs Mpl Mbg Mlo Mhs Mhf Mhp Mrs Mrf Mto Mtb Mfr Mln Mhb)) : bm = Mbs := by
  obtain ⟨h_b, h_m, h_c, h_z, h_l, h_d, h_Z, h_A, h_B, h_Y, h_P, h_T, h_H, h_R, h_rz, h_rb, h_rm⟩ := hI
  exact h_rb
theorem zI_rm {n : Nat} {Bf Wf Yf Cf F MB MU MH MR MW MY : Nat → Int32} {bm rp hf pl bg lo fp fb dm da cm z m Mft Msz Mal Mbs Mpl Mbg Mlo Mhs Mhf Mhp Mrs Mrf Mto Mtb Mfr Mln Mhb : Int32} (hI : (zInv n Bf Wf Yf Cf F MB MU MH MR MW MY bm rp hf pl bg lo fp fb dm da cm z m Mft Msz Mal Mbs Mpl Mbg Mlo Mhs Mhf Mhp Mrs Mrf Mto Mtb Mfr Mln Mhb)) : m = Mal := by
  obtain ⟨h_b, h_m, h_c, h_z, h_l, h_d, h_Z, h_A, h_B, h_Y, h_P, h_T, h_H, h_R, h_rz, h_rb, h_rm⟩ := hI
  exact h_rm
theorem ci_clear_0 {n : Nat} (hn : n < 512) {Bf Wf Yf Cf F MB MU MH MR MW MY : Nat → Int32} {bm rp hf pl bg lo fp fb dm da cm z m Mft Msz Mal Mbs Mpl Mbg Mlo Mhs Mhf Mhp Mrs Mrf Mto Mtb Mfr Mln Mhb : Int32} (hI : (zInv n Bf Wf Yf Cf F MB MU MH MR MW MY bm rp hf pl bg lo fp fb dm da cm z m Mft Msz Mal Mbs Mpl Mbg Mlo Mhs Mhf Mhp Mrs Mrf Mto Mtb Mfr Mln Mhb)) {a1 : Int32} (hx : x_X5_clear a1 = none) {Mftq1 : Int32} {Mszq1 : Int32} {Malq1 : Int32} {Mplq1 : Int32} {Mbgq1 : Int32} {Mloq1 : Int32} {Mhsq1 : Int32} {Mhfq1 : Int32} {Mrsq1 : Int32} {Mrfq1 : Int32} {Mtoq1 : Int32} {Mtbq1 : Int32} (hT1 : (f_X6_clear Msz Mal Mpl Mbg Mlo Mhs Mhf Mrs Mrf Mto Mtb a1) = (Mftq1, Mszq1, Malq1, Mplq1, Mbgq1, Mloq1, Mhsq1, Mhfq1, Mrsq1, Mrfq1, Mtoq1, Mtbq1)) : zInv (n + 1) Bf Wf Yf Cf F MB MU MH MR MW MY bm rp hf ((f_X5_clear pl bg lo dm da z m a1).1) ((f_X5_clear pl bg lo dm da z m a1).2.1) ((f_X5_clear pl bg lo dm da z m a1).2.2.1) fp fb ((f_X5_clear pl bg lo dm da z m a1).2.2.2.1) ((f_X5_clear pl bg lo dm da z m a1).2.2.2.2.1) cm ((f_X5_clear pl bg lo dm da z m a1).2.2.2.2.2.1) ((f_X5_clear pl bg lo dm da z m a1).2.2.2.2.2.2) Mftq1 Mszq1 Malq1 Mbs Mplq1 Mbgq1 Mloq1 Mhsq1 Mhfq1 Mhp Mrsq1 Mrfq1 Mtoq1 Mtbq1 Mfr Mln Mhb := by
  obtain ⟨h_b, h_m, h_c, h_z, h_l, h_d, h_Z, h_A, h_B, h_Y, h_P, h_T, h_H, h_R, h_rz, h_rb, h_rm⟩ := hI
  exact ⟨h_b, (sc_clear hx h_m).2.2.2, h_c, (sc_clear hx h_m).2.2.1, (sc_clear hx h_m).1, (zdok_eq (sc_clear hx h_m).2.1 (zdok_le (j := 8196 * (512 - (n + 1))) h_d (by omega))), (sm_clear h_Z h_A h_P (zdok_le (j := 10020 * (512 - (n + 1))) h_T (by omega)) h_H h_R hT1).1, (sm_clear h_Z h_A h_P (zdok_le (j := 10020 * (512 - (n + 1))) h_T (by omega)) h_H h_R hT1).2.1, h_B, h_Y, (sm_clear h_Z h_A h_P (zdok_le (j := 10020 * (512 - (n + 1))) h_T (by omega)) h_H h_R hT1).2.2.1, (sm_clear h_Z h_A h_P (zdok_le (j := 10020 * (512 - (n + 1))) h_T (by omega)) h_H h_R hT1).2.2.2.1, (sm_clear h_Z h_A h_P (zdok_le (j := 10020 * (512 - (n + 1))) h_T (by omega)) h_H h_R hT1).2.2.2.2.1, (sm_clear h_Z h_A h_P (zdok_le (j := 10020 * (512 - (n + 1))) h_T (by omega)) h_H h_R hT1).2.2.2.2.2, (rz_clear_0 h_rz hx hT1), h_rb, (rm_clear_0 h_m h_A h_z h_b h_rz h_rb h_rm hx hT1)⟩
theorem ci_clear_1 {n : Nat} (hn : n < 512) {Bf Wf Yf Cf F MB MU MH MR MW MY : Nat → Int32} {bm rp hf pl bg lo fp fb dm da cm z m Mft Msz Mal Mbs Mpl Mbg Mlo Mhs Mhf Mhp Mrs Mrf Mto Mtb Mfr Mln Mhb : Int32} (hI : (zInv n Bf Wf Yf Cf F MB MU MH MR MW MY bm rp hf pl bg lo fp fb dm da cm z m Mft Msz Mal Mbs Mpl Mbg Mlo Mhs Mhf Mhp Mrs Mrf Mto Mtb Mfr Mln Mhb)) {a1 : Int32} (hx : x_X5_clear a1 = some zIAE) {Mftq2 : Int32} {Mszq2 : Int32} {Malq2 : Int32} {Mplq2 : Int32} {Mbgq2 : Int32} {Mloq2 : Int32} {Mhsq2 : Int32} {Mhfq2 : Int32} {Mrsq2 : Int32} {Mrfq2 : Int32} {Mtoq2 : Int32} {Mtbq2 : Int32} (hT2 : (f_X6_clear Msz Mal Mpl Mbg Mlo Mhs Mhf Mrs Mrf Mto Mtb a1) = (Mftq2, Mszq2, Malq2, Mplq2, Mbgq2, Mloq2, Mhsq2, Mhfq2, Mrsq2, Mrfq2, Mtoq2, Mtbq2)) : zInv (n + 1) Bf Wf Yf Cf F MB MU MH MR MW MY bm rp hf pl bg lo fp fb dm da cm z m Mftq2 Mszq2 Malq2 Mbs Mplq2 Mbgq2 Mloq2 Mhsq2 Mhfq2 Mhp Mrsq2 Mrfq2 Mtoq2 Mtbq2 Mfr Mln Mhb := by
  obtain ⟨h_b, h_m, h_c, h_z, h_l, h_d, h_Z, h_A, h_B, h_Y, h_P, h_T, h_H, h_R, h_rz, h_rb, h_rm⟩ := hI
  exact ⟨h_b, h_m, h_c, h_z, h_l, (zdok_le (j := 8196 * (512 - (n + 1))) h_d (by omega)), (sm_clear h_Z h_A h_P (zdok_le (j := 10020 * (512 - (n + 1))) h_T (by omega)) h_H h_R hT2).1, (sm_clear h_Z h_A h_P (zdok_le (j := 10020 * (512 - (n + 1))) h_T (by omega)) h_H h_R hT2).2.1, h_B, h_Y, (sm_clear h_Z h_A h_P (zdok_le (j := 10020 * (512 - (n + 1))) h_T (by omega)) h_H h_R hT2).2.2.1, (sm_clear h_Z h_A h_P (zdok_le (j := 10020 * (512 - (n + 1))) h_T (by omega)) h_H h_R hT2).2.2.2.1, (sm_clear h_Z h_A h_P (zdok_le (j := 10020 * (512 - (n + 1))) h_T (by omega)) h_H h_R hT2).2.2.2.2.1, (sm_clear h_Z h_A h_P (zdok_le (j := 10020 * (512 - (n + 1))) h_T (by omega)) h_H h_R hT2).2.2.2.2.2, (rz_clear_1 h_rz hx hT2), h_rb, (rm_clear_1 h_m h_A h_z h_b h_rz h_rb h_rm hx hT2)⟩
theorem ci_feed_0 {n : Nat} (hn : n < 512) {Bf Wf Yf Cf F MB MU MH MR MW MY : Nat → Int32} {bm rp hf pl bg lo fp fb dm da cm z m Mft Msz Mal Mbs Mpl Mbg Mlo Mhs Mhf Mhp Mrs Mrf Mto Mtb Mfr Mln Mhb : Int32} (hI : (zInv n Bf Wf Yf Cf F MB MU MH MR MW MY bm rp hf pl bg lo fp fb dm da cm z m Mft Msz Mal Mbs Mpl Mbg Mlo Mhs Mhf Mhp Mrs Mrf Mto Mtb Mfr Mln Mhb)) {a1 a2 a3 a4 a5 : Int32} (hx : x_X5_feed bm a1 = none) {rq1 : Int32} {MUq1 : Nat → Int32} {Mftq1 : Int32} {Mbsq1 : Int32} (hT1 : (f_X6_feed MU Mbs a1 a2 a3 a4 a5) = (rq1, MUq1, Mftq1, Mbsq1)) : zInv (n + 1) ((f_X5_feed Bf bm a1 a2 a3 a4 a5).2.1) Wf Yf Cf F MB MUq1 MH MR MW MY ((f_X5_feed Bf bm a1 a2 a3 a4 a5).2.2) rp hf pl bg lo fp fb dm da cm z m Mftq1 Msz Mal Mbsq1 Mpl Mbg Mlo Mhs Mhf Mhp Mrs Mrf Mto Mtb Mfr Mln Mhb := by
  obtain ⟨h_b, h_m, h_c, h_z, h_l, h_d, h_Z, h_A, h_B, h_Y, h_P, h_T, h_H, h_R, h_rz, h_rb, h_rm⟩ := hI
  exact ⟨(sc_feed h_b), h_m, h_c, h_z, h_l, (zdok_le (j := 8196 * (512 - (n + 1))) h_d (by omega)), h_Z, h_A, (sm_feed h_B hT1), h_Y, h_P, (zdok_le (j := 10020 * (512 - (n + 1))) h_T (by omega)), h_H, h_R, h_rz, (rb_feed_0 h_b h_B h_rb hx hT1), h_rm⟩
theorem ci_feed_1 {n : Nat} (hn : n < 512) {Bf Wf Yf Cf F MB MU MH MR MW MY : Nat → Int32} {bm rp hf pl bg lo fp fb dm da cm z m Mft Msz Mal Mbs Mpl Mbg Mlo Mhs Mhf Mhp Mrs Mrf Mto Mtb Mfr Mln Mhb : Int32} (hI : (zInv n Bf Wf Yf Cf F MB MU MH MR MW MY bm rp hf pl bg lo fp fb dm da cm z m Mft Msz Mal Mbs Mpl Mbg Mlo Mhs Mhf Mhp Mrs Mrf Mto Mtb Mfr Mln Mhb)) {a1 a2 a3 a4 a5 : Int32} (hx : x_X5_feed bm a1 = some zIAE) {rq2 : Int32} {MUq2 : Nat → Int32} {Mftq2 : Int32} {Mbsq2 : Int32} (hT2 : (f_X6_feed MU Mbs a1 a2 a3 a4 a5) = (rq2, MUq2, Mftq2, Mbsq2)) : zInv (n + 1) Bf Wf Yf Cf F MB MUq2 MH MR MW MY bm rp hf pl bg lo fp fb dm da cm z m Mftq2 Msz Mal Mbsq2 Mpl Mbg Mlo Mhs Mhf Mhp Mrs Mrf Mto Mtb Mfr Mln Mhb := by
  obtain ⟨h_b, h_m, h_c, h_z, h_l, h_d, h_Z, h_A, h_B, h_Y, h_P, h_T, h_H, h_R, h_rz, h_rb, h_rm⟩ := hI
  exact ⟨h_b, h_m, h_c, h_z, h_l, (zdok_le (j := 8196 * (512 - (n + 1))) h_d (by omega)), h_Z, h_A, (sm_feed h_B hT2), h_Y, h_P, (zdok_le (j := 10020 * (512 - (n + 1))) h_T (by omega)), h_H, h_R, h_rz, (rb_feed_1 h_b h_B h_rb hx hT2), h_rm⟩
theorem ci_feed_2 {n : Nat} (hn : n < 512) {Bf Wf Yf Cf F MB MU MH MR MW MY : Nat → Int32} {bm rp hf pl bg lo fp fb dm da cm z m Mft Msz Mal Mbs Mpl Mbg Mlo Mhs Mhf Mhp Mrs Mrf Mto Mtb Mfr Mln Mhb : Int32} (hI : (zInv n Bf Wf Yf Cf F MB MU MH MR MW MY bm rp hf pl bg lo fp fb dm da cm z m Mft Msz Mal Mbs Mpl Mbg Mlo Mhs Mhf Mhp Mrs Mrf Mto Mtb Mfr Mln Mhb)) {a1 a2 a3 a4 a5 : Int32} (hx : x_X5_feed bm a1 = some zISE) {rq3 : Int32} {MUq3 : Nat → Int32} {Mftq3 : Int32} {Mbsq3 : Int32} (hT3 : (f_X6_feed MU Mbs a1 a2 a3 a4 a5) = (rq3, MUq3, Mftq3, Mbsq3)) : zInv (n + 1) Bf Wf Yf Cf F MB MUq3 MH MR MW MY bm rp hf pl bg lo fp fb dm da cm z m Mftq3 Msz Mal Mbsq3 Mpl Mbg Mlo Mhs Mhf Mhp Mrs Mrf Mto Mtb Mfr Mln Mhb := by
  obtain ⟨h_b, h_m, h_c, h_z, h_l, h_d, h_Z, h_A, h_B, h_Y, h_P, h_T, h_H, h_R, h_rz, h_rb, h_rm⟩ := hI
  exact ⟨h_b, h_m, h_c, h_z, h_l, (zdok_le (j := 8196 * (512 - (n + 1))) h_d (by omega)), h_Z, h_A, (sm_feed h_B hT3), h_Y, h_P, (zdok_le (j := 10020 * (512 - (n + 1))) h_T (by omega)), h_H, h_R, h_rz, (rb_feed_2 h_b h_B h_rb hx hT3), h_rm⟩
theorem ci_erase {n : Nat} (hn : n < 512) {Bf Wf Yf Cf F MB MU MH MR MW MY : Nat → Int32} {bm rp hf pl bg lo fp fb dm da cm z m Mft Msz Mal Mbs Mpl Mbg Mlo Mhs Mhf Mhp Mrs Mrf Mto Mtb Mfr Mln Mhb : Int32} (hI : (zInv n Bf Wf Yf Cf F MB MU MH MR MW MY bm rp hf pl bg lo fp fb dm da cm z m Mft Msz Mal Mbs Mpl Mbg Mlo Mhs Mhf Mhp Mrs Mrf Mto Mtb Mfr Mln Mhb)) {rq1 : Int32} {bmq1 : Int32} (hT1 : (f_X5_erase bm) = (rq1, bmq1)) : zInv (n + 1) Bf Wf Yf Cf F MB MU MH MR MW MY bmq1 rp hf pl bg lo fp fb dm da cm z m 0 Msz Mal 0 Mpl Mbg Mlo Mhs Mhf Mhp Mrs Mrf Mto Mtb Mfr Mln Mhb := by
  obtain ⟨h_b, h_m, h_c, h_z, h_l, h_d, h_Z, h_A, h_B, h_Y, h_P, h_T, h_H, h_R, h_rz, h_rb, h_rm⟩ := hI
  exact ⟨(sc_erase h_b hT1), h_m, h_c, h_z, h_l, (zdok_le (j := 8196 * (512 - (n + 1))) h_d (by omega)), h_Z, h_A, ⟨by decide, by decide, by decide⟩, h_Y, h_P, (zdok_le (j := 10020 * (512 - (n + 1))) h_T (by omega)), h_H, h_R, h_rz, (rb_erase h_b h_B h_rb hT1), h_rm⟩
theorem ci_check_0 {n : Nat} (hn : n < 512) {Bf Wf Yf Cf F MB MU MH MR MW MY : Nat → Int32} {bm rp hf pl bg lo fp fb dm da cm z m Mft Msz Mal Mbs Mpl Mbg Mlo Mhs Mhf Mhp Mrs Mrf Mto Mtb Mfr Mln Mhb : Int32} (hI : (zInv n Bf Wf Yf Cf F MB MU MH MR MW MY bm rp hf pl bg lo fp fb dm da cm z m Mft Msz Mal Mbs Mpl Mbg Mlo Mhs Mhf Mhp Mrs Mrf Mto Mtb Mfr Mln Mhb)) {a1 : Int32} (hx : x_X5_check a1 = none) {rq1 : Int32} {Mftq1 : Int32} (hT1 : (f_X6_check MU Mbs a1) = (rq1, Mftq1)) : zInv (n + 1) Bf Wf Yf Cf F MB MU MH MR MW MY bm rp hf pl bg lo fp fb dm da cm z m Mftq1 Msz Mal Mbs Mpl Mbg Mlo Mhs Mhf Mhp Mrs Mrf Mto Mtb Mfr Mln Mhb := by
  obtain ⟨h_b, h_m, h_c, h_z, h_l, h_d, h_Z, h_A, h_B, h_Y, h_P, h_T, h_H, h_R, h_rz, h_rb, h_rm⟩ := hI
  exact ⟨h_b, h_m, h_c, h_z, h_l, (zdok_le (j := 8196 * (512 - (n + 1))) h_d (by omega)), h_Z, h_A, h_B, h_Y, h_P, (zdok_le (j := 10020 * (512 - (n + 1))) h_T (by omega)), h_H, h_R, h_rz, h_rb, h_rm⟩
theorem ci_check_1 {n : Nat} (hn : n < 512) {Bf Wf Yf Cf F MB MU MH MR MW MY : Nat → Int32} {bm rp hf pl bg lo fp fb dm da cm z m Mft Msz Mal Mbs Mpl Mbg Mlo Mhs Mhf Mhp Mrs Mrf Mto Mtb Mfr Mln Mhb : Int32} (hI : (zInv n Bf Wf Yf Cf F MB MU MH MR MW MY bm rp hf pl bg lo fp fb dm da cm z m Mft Msz Mal Mbs Mpl Mbg Mlo Mhs Mhf Mhp Mrs Mrf Mto Mtb Mfr Mln Mhb)) {a1 : Int32} (hx : x_X5_check a1 = some zIAE) {rq2 : Int32} {Mftq2 : Int32} (hT2 : (f_X6_check MU Mbs a1) = (rq2, Mftq2)) : zInv (n + 1) Bf Wf Yf Cf F MB MU MH MR MW MY bm rp hf pl bg lo fp fb dm da cm z m Mftq2 Msz Mal Mbs Mpl Mbg Mlo Mhs Mhf Mhp Mrs Mrf Mto Mtb Mfr Mln Mhb := by
  obtain ⟨h_b, h_m, h_c, h_z, h_l, h_d, h_Z, h_A, h_B, h_Y, h_P, h_T, h_H, h_R, h_rz, h_rb, h_rm⟩ := hI
  exact ⟨h_b, h_m, h_c, h_z, h_l, (zdok_le (j := 8196 * (512 - (n + 1))) h_d (by omega)), h_Z, h_A, h_B, h_Y, h_P, (zdok_le (j := 10020 * (512 - (n + 1))) h_T (by omega)), h_H, h_R, h_rz, h_rb, h_rm⟩
theorem ci_append {n : Nat} (hn : n < 512) {Bf Wf Yf Cf F MB MU MH MR MW MY : Nat → Int32} {bm rp hf pl bg lo fp fb dm da cm z m Mft Msz Mal Mbs Mpl Mbg Mlo Mhs Mhf Mhp Mrs Mrf Mto Mtb Mfr Mln Mhb : Int32} (hI : (zInv n Bf Wf Yf Cf F MB MU MH MR MW MY bm rp hf pl bg lo fp fb dm da cm z m Mft Msz Mal Mbs Mpl Mbg Mlo Mhs Mhf Mhp Mrs Mrf Mto Mtb Mfr Mln Mhb)) {rq1 : Int32} {Fq1 : Nat → Int32} {mq1 : Int32} (hT1 : (f_X5_append Bf F bm z m) = (rq1, Fq1, mq1)) {rq2 : Int32} {MBq2 : Nat → Int32} {Mftq2 : Int32} {Malq2 : Int32} {Mhbq2 : Int32} (hT2 : (f_X6_append MB MU Msz Mal Mbs Mhb) = (rq2, MBq2, Mftq2, Malq2, Mhbq2)) : zInv (n + 1) Bf Wf Yf Cf Fq1 MBq2 MU MH MR MW MY bm rp hf pl bg lo fp fb dm da cm z mq1 Mftq2 Msz Malq2 Mbs Mpl Mbg Mlo Mhs Mhf Mhp Mrs Mrf Mto Mtb Mfr Mln Mhbq2 := by
  obtain ⟨h_b, h_m, h_c, h_z, h_l, h_d, h_Z, h_A, h_B, h_Y, h_P, h_T, h_H, h_R, h_rz, h_rb, h_rm⟩ := hI
  exact ⟨h_b, (sc_append h_z h_m h_b hT1), h_c, h_z, h_l, (zdok_le (j := 8196 * (512 - (n + 1))) h_d (by omega)), h_Z, (sm_append h_Z h_A h_B h_Y hT2).2, h_B, (sm_append h_Z h_A h_B h_Y hT2).1, h_P, (zdok_le (j := 10020 * (512 - (n + 1))) h_T (by omega)), h_H, h_R, h_rz, h_rb, (rm_append h_m h_A h_z h_b h_rz h_rb h_rm hT1 hT2)⟩
theorem ci_raw_0 {n : Nat} (hn : n < 512) {Bf Wf Yf Cf F MB MU MH MR MW MY : Nat → Int32} {bm rp hf pl bg lo fp fb dm da cm z m Mft Msz Mal Mbs Mpl Mbg Mlo Mhs Mhf Mhp Mrs Mrf Mto Mtb Mfr Mln Mhb : Int32} (hI : (zInv n Bf Wf Yf Cf F MB MU MH MR MW MY bm rp hf pl bg lo fp fb dm da cm z m Mft Msz Mal Mbs Mpl Mbg Mlo Mhs Mhf Mhp Mrs Mrf Mto Mtb Mfr Mln Mhb)) {a1 : Int32} (hx : x_X5_raw a1 = none) {rq1 : Int32} {MBq1 : Nat → Int32} {Mftq1 : Int32} {Malq1 : Int32} (hT1 : (f_X6_raw MB MU Mal Mbs a1) = (rq1, MBq1, Mftq1, Malq1)) : zInv (n + 1) Bf Wf Yf Cf ((f_X5_raw Bf F bm m a1).2.1) MBq1 MU MH MR MW MY bm rp hf pl bg lo fp fb dm da cm z ((f_X5_raw Bf F bm m a1).2.2) Mftq1 Msz Malq1 Mbs Mpl Mbg Mlo Mhs Mhf Mhp Mrs Mrf Mto Mtb Mfr Mln Mhb := by
  obtain ⟨h_b, h_m, h_c, h_z, h_l, h_d, h_Z, h_A, h_B, h_Y, h_P, h_T, h_H, h_R, h_rz, h_rb, h_rm⟩ := hI
  exact ⟨h_b, (sc_raw h_m h_b), h_c, h_z, h_l, (zdok_le (j := 8196 * (512 - (n + 1))) h_d (by omega)), h_Z, (sm_raw h_A h_B h_Y hT1).2, h_B, (sm_raw h_A h_B h_Y hT1).1, h_P, (zdok_le (j := 10020 * (512 - (n + 1))) h_T (by omega)), h_H, h_R, h_rz, h_rb, (rm_raw_0 h_m h_A h_z h_b h_rz h_rb h_rm hx hT1)⟩
theorem ci_raw_1 {n : Nat} (hn : n < 512) {Bf Wf Yf Cf F MB MU MH MR MW MY : Nat → Int32} {bm rp hf pl bg lo fp fb dm da cm z m Mft Msz Mal Mbs Mpl Mbg Mlo Mhs Mhf Mhp Mrs Mrf Mto Mtb Mfr Mln Mhb : Int32} (hI : (zInv n Bf Wf Yf Cf F MB MU MH MR MW MY bm rp hf pl bg lo fp fb dm da cm z m Mft Msz Mal Mbs Mpl Mbg Mlo Mhs Mhf Mhp Mrs Mrf Mto Mtb Mfr Mln Mhb)) {a1 : Int32} (hx : x_X5_raw a1 = some zIAE) {rq6 : Int32} {MBq6 : Nat → Int32} {Mftq6 : Int32} {Malq6 : Int32} (hT6 : (f_X6_raw MB MU Mal Mbs a1) = (rq6, MBq6, Mftq6, Malq6)) : zInv (n + 1) Bf Wf Yf Cf F MBq6 MU MH MR MW MY bm rp hf pl bg lo fp fb dm da cm z m Mftq6 Msz Malq6 Mbs Mpl Mbg Mlo Mhs Mhf Mhp Mrs Mrf Mto Mtb Mfr Mln Mhb := by
  obtain ⟨h_b, h_m, h_c, h_z, h_l, h_d, h_Z, h_A, h_B, h_Y, h_P, h_T, h_H, h_R, h_rz, h_rb, h_rm⟩ := hI
  exact ⟨h_b, h_m, h_c, h_z, h_l, (zdok_le (j := 8196 * (512 - (n + 1))) h_d (by omega)), h_Z, (sm_raw h_A h_B h_Y hT6).2, h_B, (sm_raw h_A h_B h_Y hT6).1, h_P, (zdok_le (j := 10020 * (512 - (n + 1))) h_T (by omega)), h_H, h_R, h_rz, h_rb, (rm_raw_1 h_m h_A h_z h_b h_rz h_rb h_rm hx hT6)⟩
theorem ci_put_0 {n : Nat} (hn : n < 512) {Bf Wf Yf Cf F MB MU MH MR MW MY : Nat → Int32} {bm rp hf pl bg lo fp fb dm da cm z m Mft Msz Mal Mbs Mpl Mbg Mlo Mhs Mhf Mhp Mrs Mrf Mto Mtb Mfr Mln Mhb : Int32} (hI : (zInv n Bf Wf Yf Cf F MB MU MH MR MW MY bm rp hf pl bg lo fp fb dm da cm z m Mft Msz Mal Mbs Mpl Mbg Mlo Mhs Mhf Mhp Mrs Mrf Mto Mtb Mfr Mln Mhb)) {a1 a2 : Int32} (hx : x_X5_put m a1 a2 = none) {rq1 : Int32} {MBq1 : Nat → Int32} {Mftq1 : Int32} (hT1 : (f_X6_put_ MB Mal a1 a2) = (rq1, MBq1, Mftq1)) : zInv (n + 1) Bf Wf Yf Cf ((f_X5_put F m a1 a2).2) MBq1 MU MH MR MW MY bm rp hf pl bg lo fp fb dm da cm z m Mftq1 Msz Mal Mbs Mpl Mbg Mlo Mhs Mhf Mhp Mrs Mrf Mto Mtb Mfr Mln Mhb := by
  obtain ⟨h_b, h_m, h_c, h_z, h_l, h_d, h_Z, h_A, h_B, h_Y, h_P, h_T, h_H, h_R, h_rz, h_rb, h_rm⟩ := hI
  exact ⟨h_b, h_m, h_c, h_z, h_l, (zdok_le (j := 8196 * (512 - (n + 1))) h_d (by omega)), h_Z, h_A, h_B, (sm_put h_Y hT1), h_P, (zdok_le (j := 10020 * (512 - (n + 1))) h_T (by omega)), h_H, h_R, h_rz, h_rb, h_rm⟩
theorem ci_put_1 {n : Nat} (hn : n < 512) {Bf Wf Yf Cf F MB MU MH MR MW MY : Nat → Int32} {bm rp hf pl bg lo fp fb dm da cm z m Mft Msz Mal Mbs Mpl Mbg Mlo Mhs Mhf Mhp Mrs Mrf Mto Mtb Mfr Mln Mhb : Int32} (hI : (zInv n Bf Wf Yf Cf F MB MU MH MR MW MY bm rp hf pl bg lo fp fb dm da cm z m Mft Msz Mal Mbs Mpl Mbg Mlo Mhs Mhf Mhp Mrs Mrf Mto Mtb Mfr Mln Mhb)) {a1 a2 : Int32} (hx : x_X5_put m a1 a2 = some zIOE) {rq2 : Int32} {MBq2 : Nat → Int32} {Mftq2 : Int32} (hT2 : (f_X6_put_ MB Mal a1 a2) = (rq2, MBq2, Mftq2)) : zInv (n + 1) Bf Wf Yf Cf F MBq2 MU MH MR MW MY bm rp hf pl bg lo fp fb dm da cm z m Mftq2 Msz Mal Mbs Mpl Mbg Mlo Mhs Mhf Mhp Mrs Mrf Mto Mtb Mfr Mln Mhb := by
  obtain ⟨h_b, h_m, h_c, h_z, h_l, h_d, h_Z, h_A, h_B, h_Y, h_P, h_T, h_H, h_R, h_rz, h_rb, h_rm⟩ := hI
  exact ⟨h_b, h_m, h_c, h_z, h_l, (zdok_le (j := 8196 * (512 - (n + 1))) h_d (by omega)), h_Z, h_A, h_B, (sm_put h_Y hT2), h_P, (zdok_le (j := 10020 * (512 - (n + 1))) h_T (by omega)), h_H, h_R, h_rz, h_rb, h_rm⟩
theorem ci_put_2 {n : Nat} (hn : n < 512) {Bf Wf Yf Cf F MB MU MH MR MW MY : Nat → Int32} {bm rp hf pl bg lo fp fb dm da cm z m Mft Msz Mal Mbs Mpl Mbg Mlo Mhs Mhf Mhp Mrs Mrf Mto Mtb Mfr Mln Mhb : Int32} (hI : (zInv n Bf Wf Yf Cf F MB MU MH MR MW MY bm rp hf pl bg lo fp fb dm da cm z m Mft Msz Mal Mbs Mpl Mbg Mlo Mhs Mhf Mhp Mrs Mrf Mto Mtb Mfr Mln Mhb)) {a1 a2 : Int32} (hx : x_X5_put m a1 a2 = some zIAE) {rq3 : Int32} {MBq3 : Nat → Int32} {Mftq3 : Int32} (hT3 : (f_X6_put_ MB Mal a1 a2) = (rq3, MBq3, Mftq3)) : zInv (n + 1) Bf Wf Yf Cf F MBq3 MU MH MR MW MY bm rp hf pl bg lo fp fb dm da cm z m Mftq3 Msz Mal Mbs Mpl Mbg Mlo Mhs Mhf Mhp Mrs Mrf Mto Mtb Mfr Mln Mhb := by
  obtain ⟨h_b, h_m, h_c, h_z, h_l, h_d, h_Z, h_A, h_B, h_Y, h_P, h_T, h_H, h_R, h_rz, h_rb, h_rm⟩ := hI
  exact ⟨h_b, h_m, h_c, h_z, h_l, (zdok_le (j := 8196 * (512 - (n + 1))) h_d (by omega)), h_Z, h_A, h_B, (sm_put h_Y hT3), h_P, (zdok_le (j := 10020 * (512 - (n + 1))) h_T (by omega)), h_H, h_R, h_rz, h_rb, h_rm⟩
theorem ci_cut_0 {n : Nat} (hn : n < 512) {Bf Wf Yf Cf F MB MU MH MR MW MY : Nat → Int32} {bm rp hf pl bg lo fp fb dm da cm z m Mft Msz Mal Mbs Mpl Mbg Mlo Mhs Mhf Mhp Mrs Mrf Mto Mtb Mfr Mln Mhb : Int32} (hI : (zInv n Bf Wf Yf Cf F MB MU MH MR MW MY bm rp hf pl bg lo fp fb dm da cm z m Mft Msz Mal Mbs Mpl Mbg Mlo Mhs Mhf Mhp Mrs Mrf Mto Mtb Mfr Mln Mhb)) {a1 : Int32} (hx : x_X5_cut m a1 = none) {rq1 : Int32} {Mftq1 : Int32} {Malq1 : Int32} {Mplq1 : Int32} {Mbgq1 : Int32} {Mloq1 : Int32} {Mhsq1 : Int32} {Mhfq1 : Int32} {Mrsq1 : Int32} {Mrfq1 : Int32} {Mtoq1 : Int32} {Mtbq1 : Int32} (hT1 : (f_X6_cut Msz Mal Mpl Mbg Mlo Mhs Mhf Mrs Mrf Mto Mtb a1) = (rq1, Mftq1, Malq1, Mplq1, Mbgq1, Mloq1, Mhsq1, Mhfq1, Mrsq1, Mrfq1, Mtoq1, Mtbq1)) : zInv (n + 1) Bf Wf Yf Cf F MB MU MH MR MW MY bm rp hf ((f_X5_cut pl bg lo dm da z m a1).2.1) ((f_X5_cut pl bg lo dm da z m a1).2.2.1) ((f_X5_cut pl bg lo dm da z m a1).2.2.2.1) fp fb ((f_X5_cut pl bg lo dm da z m a1).2.2.2.2.1) ((f_X5_cut pl bg lo dm da z m a1).2.2.2.2.2.1) cm z ((f_X5_cut pl bg lo dm da z m a1).2.2.2.2.2.2) Mftq1 Msz Malq1 Mbs Mplq1 Mbgq1 Mloq1 Mhsq1 Mhfq1 Mhp Mrsq1 Mrfq1 Mtoq1 Mtbq1 Mfr Mln Mhb := by
  obtain ⟨h_b, h_m, h_c, h_z, h_l, h_d, h_Z, h_A, h_B, h_Y, h_P, h_T, h_H, h_R, h_rz, h_rb, h_rm⟩ := hI
  exact ⟨h_b, (sc_cut hx h_m).2.2, h_c, h_z, (sc_cut hx h_m).1, (zdok_eq (sc_cut hx h_m).2.1 (zdok_le (j := 8196 * (512 - (n + 1))) h_d (by omega))), h_Z, (sm_cut h_Z h_A h_P (zdok_le (j := 10020 * (512 - (n + 1))) h_T (by omega)) h_H h_R hT1).1, h_B, h_Y, (sm_cut h_Z h_A h_P (zdok_le (j := 10020 * (512 - (n + 1))) h_T (by omega)) h_H h_R hT1).2.1, (sm_cut h_Z h_A h_P (zdok_le (j := 10020 * (512 - (n + 1))) h_T (by omega)) h_H h_R hT1).2.2.1, (sm_cut h_Z h_A h_P (zdok_le (j := 10020 * (512 - (n + 1))) h_T (by omega)) h_H h_R hT1).2.2.2.1, (sm_cut h_Z h_A h_P (zdok_le (j := 10020 * (512 - (n + 1))) h_T (by omega)) h_H h_R hT1).2.2.2.2, h_rz, h_rb, (rm_cut_0 h_m h_A h_z h_b h_rz h_rb h_rm hx hT1)⟩
theorem ci_cut_1 {n : Nat} (hn : n < 512) {Bf Wf Yf Cf F MB MU MH MR MW MY : Nat → Int32} {bm rp hf pl bg lo fp fb dm da cm z m Mft Msz Mal Mbs Mpl Mbg Mlo Mhs Mhf Mhp Mrs Mrf Mto Mtb Mfr Mln Mhb : Int32} (hI : (zInv n Bf Wf Yf Cf F MB MU MH MR MW MY bm rp hf pl bg lo fp fb dm da cm z m Mft Msz Mal Mbs Mpl Mbg Mlo Mhs Mhf Mhp Mrs Mrf Mto Mtb Mfr Mln Mhb)) {a1 : Int32} (hx : x_X5_cut m a1 = some zIAE) {rq2 : Int32} {Mftq2 : Int32} {Malq2 : Int32} {Mplq2 : Int32} {Mbgq2 : Int32} {Mloq2 : Int32} {Mhsq2 : Int32} {Mhfq2 : Int32} {Mrsq2 : Int32} {Mrfq2 : Int32} {Mtoq2 : Int32} {Mtbq2 : Int32} (hT2 : (f_X6_cut Msz Mal Mpl Mbg Mlo Mhs Mhf Mrs Mrf Mto Mtb a1) = (rq2, Mftq2, Malq2, Mplq2, Mbgq2, Mloq2, Mhsq2, Mhfq2, Mrsq2, Mrfq2, Mtoq2, Mtbq2)) : zInv (n + 1) Bf Wf Yf Cf F MB MU MH MR MW MY bm rp hf pl bg lo fp fb dm da cm z m Mftq2 Msz Malq2 Mbs Mplq2 Mbgq2 Mloq2 Mhsq2 Mhfq2 Mhp Mrsq2 Mrfq2 Mtoq2 Mtbq2 Mfr Mln Mhb := by
  obtain ⟨h_b, h_m, h_c, h_z, h_l, h_d, h_Z, h_A, h_B, h_Y, h_P, h_T, h_H, h_R, h_rz, h_rb, h_rm⟩ := hI
  exact ⟨h_b, h_m, h_c, h_z, h_l, (zdok_le (j := 8196 * (512 - (n + 1))) h_d (by omega)), h_Z, (sm_cut h_Z h_A h_P (zdok_le (j := 10020 * (512 - (n + 1))) h_T (by omega)) h_H h_R hT2).1, h_B, h_Y, (sm_cut h_Z h_A h_P (zdok_le (j := 10020 * (512 - (n + 1))) h_T (by omega)) h_H h_R hT2).2.1, (sm_cut h_Z h_A h_P (zdok_le (j := 10020 * (512 - (n + 1))) h_T (by omega)) h_H h_R hT2).2.2.1, (sm_cut h_Z h_A h_P (zdok_le (j := 10020 * (512 - (n + 1))) h_T (by omega)) h_H h_R hT2).2.2.2.1, (sm_cut h_Z h_A h_P (zdok_le (j := 10020 * (512 - (n + 1))) h_T (by omega)) h_H h_R hT2).2.2.2.2, h_rz, h_rb, (rm_cut_1 h_m h_A h_z h_b h_rz h_rb h_rm hx hT2)⟩
theorem ci_begin_0 {n : Nat} (hn : n < 512) {Bf Wf Yf Cf F MB MU MH MR MW MY : Nat → Int32} {bm rp hf pl bg lo fp fb dm da cm z m Mft Msz Mal Mbs Mpl Mbg Mlo Mhs Mhf Mhp Mrs Mrf Mto Mtb Mfr Mln Mhb : Int32} (hI : (zInv n Bf Wf Yf Cf F MB MU MH MR MW MY bm rp hf pl bg lo fp fb dm da cm z m Mft Msz Mal Mbs Mpl Mbg Mlo Mhs Mhf Mhp Mrs Mrf Mto Mtb Mfr Mln Mhb)) {a1 : Int32} (hx : x_X5_begin a1 = none) {rq1 : Int32} {Mftq1 : Int32} {Mplq1 : Int32} {Mbgq1 : Int32} {Mloq1 : Int32} {Mhsq1 : Int32} {Mhfq1 : Int32} {Mrsq1 : Int32} {Mrfq1 : Int32} {Mtoq1 : Int32} {Mtbq1 : Int32} (hT1 : (f_X6_begin Msz Mpl Mbg Mlo Mhs Mhf Mrs Mrf Mto Mtb a1) = (rq1, Mftq1, Mplq1, Mbgq1, Mloq1, Mhsq1, Mhfq1, Mrsq1, Mrfq1, Mtoq1, Mtbq1)) : zInv (n + 1) Bf Wf Yf Cf F MB MU MH MR MW MY bm rp hf ((f_X5_begin pl bg lo dm da z a1).2.1) ((f_X5_begin pl bg lo dm da z a1).2.2.1) ((f_X5_begin pl bg lo dm da z a1).2.2.2.1) fp fb ((f_X5_begin pl bg lo dm da z a1).2.2.2.2.1) ((f_X5_begin pl bg lo dm da z a1).2.2.2.2.2) cm z m Mftq1 Msz Mal Mbs Mplq1 Mbgq1 Mloq1 Mhsq1 Mhfq1 Mhp Mrsq1 Mrfq1 Mtoq1 Mtbq1 Mfr Mln Mhb := by
  obtain ⟨h_b, h_m, h_c, h_z, h_l, h_d, h_Z, h_A, h_B, h_Y, h_P, h_T, h_H, h_R, h_rz, h_rb, h_rm⟩ := hI
  exact ⟨h_b, h_m, h_c, h_z, (sc_begin hx).1, (zdok_eq (sc_begin hx).2 (zdok_le (j := 8196 * (512 - (n + 1))) h_d (by omega))), h_Z, h_A, h_B, h_Y, (sm_begin h_Z h_P (zdok_le (j := 10020 * (512 - (n + 1))) h_T (by omega)) h_H h_R hT1).1, (sm_begin h_Z h_P (zdok_le (j := 10020 * (512 - (n + 1))) h_T (by omega)) h_H h_R hT1).2.1, (sm_begin h_Z h_P (zdok_le (j := 10020 * (512 - (n + 1))) h_T (by omega)) h_H h_R hT1).2.2.1, (sm_begin h_Z h_P (zdok_le (j := 10020 * (512 - (n + 1))) h_T (by omega)) h_H h_R hT1).2.2.2, h_rz, h_rb, h_rm⟩
theorem ci_begin_1 {n : Nat} (hn : n < 512) {Bf Wf Yf Cf F MB MU MH MR MW MY : Nat → Int32} {bm rp hf pl bg lo fp fb dm da cm z m Mft Msz Mal Mbs Mpl Mbg Mlo Mhs Mhf Mhp Mrs Mrf Mto Mtb Mfr Mln Mhb : Int32} (hI : (zInv n Bf Wf Yf Cf F MB MU MH MR MW MY bm rp hf pl bg lo fp fb dm da cm z m Mft Msz Mal Mbs Mpl Mbg Mlo Mhs Mhf Mhp Mrs Mrf Mto Mtb Mfr Mln Mhb)) {a1 : Int32} (hx : x_X5_begin a1 = some zIAE) {rq2 : Int32} {Mftq2 : Int32} {Mplq2 : Int32} {Mbgq2 : Int32} {Mloq2 : Int32} {Mhsq2 : Int32} {Mhfq2 : Int32} {Mrsq2 : Int32} {Mrfq2 : Int32} {Mtoq2 : Int32} {Mtbq2 : Int32} (hT2 : (f_X6_begin Msz Mpl Mbg Mlo Mhs Mhf Mrs Mrf Mto Mtb a1) = (rq2, Mftq2, Mplq2, Mbgq2, Mloq2, Mhsq2, Mhfq2, Mrsq2, Mrfq2, Mtoq2, Mtbq2)) : zInv (n + 1) Bf Wf Yf Cf F MB MU MH MR MW MY bm rp hf pl bg lo fp fb dm da cm z m Mftq2 Msz Mal Mbs Mplq2 Mbgq2 Mloq2 Mhsq2 Mhfq2 Mhp Mrsq2 Mrfq2 Mtoq2 Mtbq2 Mfr Mln Mhb := by
  obtain ⟨h_b, h_m, h_c, h_z, h_l, h_d, h_Z, h_A, h_B, h_Y, h_P, h_T, h_H, h_R, h_rz, h_rb, h_rm⟩ := hI
  exact ⟨h_b, h_m, h_c, h_z, h_l, (zdok_le (j := 8196 * (512 - (n + 1))) h_d (by omega)), h_Z, h_A, h_B, h_Y, (sm_begin h_Z h_P (zdok_le (j := 10020 * (512 - (n + 1))) h_T (by omega)) h_H h_R hT2).1, (sm_begin h_Z h_P (zdok_le (j := 10020 * (512 - (n + 1))) h_T (by omega)) h_H h_R hT2).2.1, (sm_begin h_Z h_P (zdok_le (j := 10020 * (512 - (n + 1))) h_T (by omega)) h_H h_R hT2).2.2.1, (sm_begin h_Z h_P (zdok_le (j := 10020 * (512 - (n + 1))) h_T (by omega)) h_H h_R hT2).2.2.2, h_rz, h_rb, h_rm⟩
theorem ci_read {n : Nat} (hn : n < 512) {Bf Wf Yf Cf F MB MU MH MR MW MY : Nat → Int32} {bm rp hf pl bg lo fp fb dm da cm z m Mft Msz Mal Mbs Mpl Mbg Mlo Mhs Mhf Mhp Mrs Mrf Mto Mtb Mfr Mln Mhb : Int32} (hI : (zInv n Bf Wf Yf Cf F MB MU MH MR MW MY bm rp hf pl bg lo fp fb dm da cm z m Mft Msz Mal Mbs Mpl Mbg Mlo Mhs Mhf Mhp Mrs Mrf Mto Mtb Mfr Mln Mhb)) {rq1 : Int32} {Wfq1 : Nat → Int32} {Yfq1 : Nat → Int32} {Cfq1 : Nat → Int32} {rpq1 : Int32} {hfq1 : Int32} {plq1 : Int32} {loq1 : Int32} {fpq1 : Int32} {fbq1 : Int32} {dmq1 : Int32} {daq1 : Int32} {cmq1 : Int32} (hT1 : (f_X5_read Wf Yf Cf F pl bg lo fp fb dm da cm z m) = (rq1, Wfq1, Yfq1, Cfq1, rpq1, hfq1, plq1, loq1, fpq1, fbq1, dmq1, daq1, cmq1)) {rq2 : Int32} {MHq2 : Nat → Int32} {MRq2 : Nat → Int32} {MWq2 : Nat → Int32} {MYq2 : Nat → Int32} {Mftq2 : Int32} {Mplq2 : Int32} {Mloq2 : Int32} {Mhsq2 : Int32} {Mhfq2 : Int32} {Mhpq2 : Int32} {Mrsq2 : Int32} {Mrfq2 : Int32} {Mtoq2 : Int32} {Mtbq2 : Int32} {Mfrq2 : Int32} {Mlnq2 : Int32} (hT2 : (f_X6_read MB MH MR MW MY Msz Mal Mpl Mbg Mlo Mhs Mhf Mhp Mto Mtb Mfr Mln) = (rq2, MHq2, MRq2, MWq2, MYq2, Mftq2, Mplq2, Mloq2, Mhsq2, Mhfq2, Mhpq2, Mrsq2, Mrfq2, Mtoq2, Mtbq2, Mfrq2, Mlnq2)) : zInv (n + 1) Bf Wfq1 Yfq1 Cfq1 F MB MU MHq2 MRq2 MWq2 MYq2 bm rpq1 hfq1 plq1 bg loq1 fpq1 fbq1 dmq1 daq1 cmq1 z m Mftq2 Msz Mal Mbs Mplq2 Mbg Mloq2 Mhsq2 Mhfq2 Mhpq2 Mrsq2 Mrfq2 Mtoq2 Mtbq2 Mfrq2 Mlnq2 Mhb := by
  obtain ⟨h_b, h_m, h_c, h_z, h_l, h_d, h_Z, h_A, h_B, h_Y, h_P, h_T, h_H, h_R, h_rz, h_rb, h_rm⟩ := hI
  exact ⟨h_b, h_m, (sc_read h_m h_c h_l (zdok_le h_d (show 8196 * (512 - (n + 1)) + 8196 ≤ 8196 * (512 - n) by omega)) hT1).1, h_z, (sc_read h_m h_c h_l (zdok_le h_d (show 8196 * (512 - (n + 1)) + 8196 ≤ 8196 * (512 - n) by omega)) hT1).2.1, (sc_read h_m h_c h_l (zdok_le h_d (show 8196 * (512 - (n + 1)) + 8196 ≤ 8196 * (512 - n) by omega)) hT1).2.2, h_Z, h_A, h_B, h_Y, (sm_read h_Z h_A h_Y h_P (zdok_le h_T (show 10020 * (512 - (n + 1)) + 10020 ≤ 10020 * (512 - n) by omega)) h_H hT2).1, (sm_read h_Z h_A h_Y h_P (zdok_le h_T (show 10020 * (512 - (n + 1)) + 10020 ≤ 10020 * (512 - n) by omega)) h_H hT2).2.2.2, (sm_read h_Z h_A h_Y h_P (zdok_le h_T (show 10020 * (512 - (n + 1)) + 10020 ≤ 10020 * (512 - n) by omega)) h_H hT2).2.1, (sm_read h_Z h_A h_Y h_P (zdok_le h_T (show 10020 * (512 - (n + 1)) + 10020 ≤ 10020 * (512 - n) by omega)) h_H hT2).2.2.1, h_rz, h_rb, h_rm⟩
theorem ci_octet {n : Nat} (hn : n < 512) {Bf Wf Yf Cf F MB MU MH MR MW MY : Nat → Int32} {bm rp hf pl bg lo fp fb dm da cm z m Mft Msz Mal Mbs Mpl Mbg Mlo Mhs Mhf Mhp Mrs Mrf Mto Mtb Mfr Mln Mhb : Int32} (hI : (zInv n Bf Wf Yf Cf F MB MU MH MR MW MY bm rp hf pl bg lo fp fb dm da cm z m Mft Msz Mal Mbs Mpl Mbg Mlo Mhs Mhf Mhp Mrs Mrf Mto Mtb Mfr Mln Mhb)) {a1 : Int32} {rq1 : Int32} (hT1 : (f_X5_octet Cf cm a1) = rq1) {rq2 : Int32} {Mftq2 : Int32} (hT2 : (f_X6_octet MR Mrs a1) = (rq2, Mftq2)) : zInv (n + 1) Bf Wf Yf Cf F MB MU MH MR MW MY bm rp hf pl bg lo fp fb dm da cm z m Mftq2 Msz Mal Mbs Mpl Mbg Mlo Mhs Mhf Mhp Mrs Mrf Mto Mtb Mfr Mln Mhb := by
  obtain ⟨h_b, h_m, h_c, h_z, h_l, h_d, h_Z, h_A, h_B, h_Y, h_P, h_T, h_H, h_R, h_rz, h_rb, h_rm⟩ := hI
  exact ⟨h_b, h_m, h_c, h_z, h_l, (zdok_le (j := 8196 * (512 - (n + 1))) h_d (by omega)), h_Z, h_A, h_B, h_Y, h_P, (zdok_le (j := 10020 * (512 - (n + 1))) h_T (by omega)), h_H, h_R, h_rz, h_rb, h_rm⟩
theorem ci_first {n : Nat} (hn : n < 512) {Bf Wf Yf Cf F MB MU MH MR MW MY : Nat → Int32} {bm rp hf pl bg lo fp fb dm da cm z m Mft Msz Mal Mbs Mpl Mbg Mlo Mhs Mhf Mhp Mrs Mrf Mto Mtb Mfr Mln Mhb : Int32} (hI : (zInv n Bf Wf Yf Cf F MB MU MH MR MW MY bm rp hf pl bg lo fp fb dm da cm z m Mft Msz Mal Mbs Mpl Mbg Mlo Mhs Mhf Mhp Mrs Mrf Mto Mtb Mfr Mln Mhb)) : zInv (n + 1) Bf Wf Yf Cf F MB MU MH MR MW MY bm rp hf pl bg lo fp fb dm da cm z m 0 Msz Mal Mbs Mpl Mbg Mlo Mhs Mhf Mhp Mrs Mrf Mto Mtb Mfr Mln Mhb := by
  obtain ⟨h_b, h_m, h_c, h_z, h_l, h_d, h_Z, h_A, h_B, h_Y, h_P, h_T, h_H, h_R, h_rz, h_rb, h_rm⟩ := hI
  exact ⟨h_b, h_m, h_c, h_z, h_l, (zdok_le (j := 8196 * (512 - (n + 1))) h_d (by omega)), h_Z, h_A, h_B, h_Y, h_P, (zdok_le (j := 10020 * (512 - (n + 1))) h_T (by omega)), h_H, h_R, h_rz, h_rb, h_rm⟩
theorem ci_count_0 {n : Nat} (hn : n < 512) {Bf Wf Yf Cf F MB MU MH MR MW MY : Nat → Int32} {bm rp hf pl bg lo fp fb dm da cm z m Mft Msz Mal Mbs Mpl Mbg Mlo Mhs Mhf Mhp Mrs Mrf Mto Mtb Mfr Mln Mhb : Int32} (hI : (zInv n Bf Wf Yf Cf F MB MU MH MR MW MY bm rp hf pl bg lo fp fb dm da cm z m Mft Msz Mal Mbs Mpl Mbg Mlo Mhs Mhf Mhp Mrs Mrf Mto Mtb Mfr Mln Mhb)) {a1 : Int32} (hx : x_X5_count a1 = none) {rq1 : Int32} {Mftq1 : Int32} (hT1 : (f_X6_count Mal Mbs Mpl Mlo Mto Mtb a1) = (rq1, Mftq1)) : zInv (n + 1) Bf Wf Yf Cf F MB MU MH MR MW MY bm rp hf pl bg lo fp fb dm da cm z m Mftq1 Msz Mal Mbs Mpl Mbg Mlo Mhs Mhf Mhp Mrs Mrf Mto Mtb Mfr Mln Mhb := by
  obtain ⟨h_b, h_m, h_c, h_z, h_l, h_d, h_Z, h_A, h_B, h_Y, h_P, h_T, h_H, h_R, h_rz, h_rb, h_rm⟩ := hI
  exact ⟨h_b, h_m, h_c, h_z, h_l, (zdok_le (j := 8196 * (512 - (n + 1))) h_d (by omega)), h_Z, h_A, h_B, h_Y, h_P, (zdok_le (j := 10020 * (512 - (n + 1))) h_T (by omega)), h_H, h_R, h_rz, h_rb, h_rm⟩
theorem ci_count_1 {n : Nat} (hn : n < 512) {Bf Wf Yf Cf F MB MU MH MR MW MY : Nat → Int32} {bm rp hf pl bg lo fp fb dm da cm z m Mft Msz Mal Mbs Mpl Mbg Mlo Mhs Mhf Mhp Mrs Mrf Mto Mtb Mfr Mln Mhb : Int32} (hI : (zInv n Bf Wf Yf Cf F MB MU MH MR MW MY bm rp hf pl bg lo fp fb dm da cm z m Mft Msz Mal Mbs Mpl Mbg Mlo Mhs Mhf Mhp Mrs Mrf Mto Mtb Mfr Mln Mhb)) {a1 : Int32} (hx : x_X5_count a1 = some zIAE) {rq2 : Int32} {Mftq2 : Int32} (hT2 : (f_X6_count Mal Mbs Mpl Mlo Mto Mtb a1) = (rq2, Mftq2)) : zInv (n + 1) Bf Wf Yf Cf F MB MU MH MR MW MY bm rp hf pl bg lo fp fb dm da cm z m Mftq2 Msz Mal Mbs Mpl Mbg Mlo Mhs Mhf Mhp Mrs Mrf Mto Mtb Mfr Mln Mhb := by
  obtain ⟨h_b, h_m, h_c, h_z, h_l, h_d, h_Z, h_A, h_B, h_Y, h_P, h_T, h_H, h_R, h_rz, h_rb, h_rm⟩ := hI
  exact ⟨h_b, h_m, h_c, h_z, h_l, (zdok_le (j := 8196 * (512 - (n + 1))) h_d (by omega)), h_Z, h_A, h_B, h_Y, h_P, (zdok_le (j := 10020 * (512 - (n + 1))) h_T (by omega)), h_H, h_R, h_rz, h_rb, h_rm⟩
theorem ci_told_0 {n : Nat} (hn : n < 512) {Bf Wf Yf Cf F MB MU MH MR MW MY : Nat → Int32} {bm rp hf pl bg lo fp fb dm da cm z m Mft Msz Mal Mbs Mpl Mbg Mlo Mhs Mhf Mhp Mrs Mrf Mto Mtb Mfr Mln Mhb : Int32} (hI : (zInv n Bf Wf Yf Cf F MB MU MH MR MW MY bm rp hf pl bg lo fp fb dm da cm z m Mft Msz Mal Mbs Mpl Mbg Mlo Mhs Mhf Mhp Mrs Mrf Mto Mtb Mfr Mln Mhb)) {a1 a2 : Int32} (hx : x_X5_told a2 = none) {rq1 : Int32} {Mftq1 : Int32} (hT1 : (f_X6_told MW MY Mto a1 a2) = (rq1, Mftq1)) : zInv (n + 1) Bf Wf Yf Cf F MB MU MH MR MW MY bm rp hf pl bg lo fp fb dm da cm z m Mftq1 Msz Mal Mbs Mpl Mbg Mlo Mhs Mhf Mhp Mrs Mrf Mto Mtb Mfr Mln Mhb := by
  obtain ⟨h_b, h_m, h_c, h_z, h_l, h_d, h_Z, h_A, h_B, h_Y, h_P, h_T, h_H, h_R, h_rz, h_rb, h_rm⟩ := hI
  exact ⟨h_b, h_m, h_c, h_z, h_l, (zdok_le (j := 8196 * (512 - (n + 1))) h_d (by omega)), h_Z, h_A, h_B, h_Y, h_P, (zdok_le (j := 10020 * (512 - (n + 1))) h_T (by omega)), h_H, h_R, h_rz, h_rb, h_rm⟩
theorem ci_told_1 {n : Nat} (hn : n < 512) {Bf Wf Yf Cf F MB MU MH MR MW MY : Nat → Int32} {bm rp hf pl bg lo fp fb dm da cm z m Mft Msz Mal Mbs Mpl Mbg Mlo Mhs Mhf Mhp Mrs Mrf Mto Mtb Mfr Mln Mhb : Int32} (hI : (zInv n Bf Wf Yf Cf F MB MU MH MR MW MY bm rp hf pl bg lo fp fb dm da cm z m Mft Msz Mal Mbs Mpl Mbg Mlo Mhs Mhf Mhp Mrs Mrf Mto Mtb Mfr Mln Mhb)) {a1 a2 : Int32} (hx : x_X5_told a2 = some zIAE) {rq2 : Int32} {Mftq2 : Int32} (hT2 : (f_X6_told MW MY Mto a1 a2) = (rq2, Mftq2)) : zInv (n + 1) Bf Wf Yf Cf F MB MU MH MR MW MY bm rp hf pl bg lo fp fb dm da cm z m Mftq2 Msz Mal Mbs Mpl Mbg Mlo Mhs Mhf Mhp Mrs Mrf Mto Mtb Mfr Mln Mhb := by
  obtain ⟨h_b, h_m, h_c, h_z, h_l, h_d, h_Z, h_A, h_B, h_Y, h_P, h_T, h_H, h_R, h_rz, h_rb, h_rm⟩ := hI
  exact ⟨h_b, h_m, h_c, h_z, h_l, (zdok_le (j := 8196 * (512 - (n + 1))) h_d (by omega)), h_Z, h_A, h_B, h_Y, h_P, (zdok_le (j := 10020 * (512 - (n + 1))) h_T (by omega)), h_H, h_R, h_rz, h_rb, h_rm⟩
theorem ci_log {n : Nat} (hn : n < 512) {Bf Wf Yf Cf F MB MU MH MR MW MY : Nat → Int32} {bm rp hf pl bg lo fp fb dm da cm z m Mft Msz Mal Mbs Mpl Mbg Mlo Mhs Mhf Mhp Mrs Mrf Mto Mtb Mfr Mln Mhb : Int32} (hI : (zInv n Bf Wf Yf Cf F MB MU MH MR MW MY bm rp hf pl bg lo fp fb dm da cm z m Mft Msz Mal Mbs Mpl Mbg Mlo Mhs Mhf Mhp Mrs Mrf Mto Mtb Mfr Mln Mhb)) {a1 : Int32} {rq1 : Int32} (hT1 : (f_X5_log F m a1) = rq1) {rq2 : Int32} {Mftq2 : Int32} (hT2 : (f_X6_log MB Mal a1) = (rq2, Mftq2)) : zInv (n + 1) Bf Wf Yf Cf F MB MU MH MR MW MY bm rp hf pl bg lo fp fb dm da cm z m Mftq2 Msz Mal Mbs Mpl Mbg Mlo Mhs Mhf Mhp Mrs Mrf Mto Mtb Mfr Mln Mhb := by
  obtain ⟨h_b, h_m, h_c, h_z, h_l, h_d, h_Z, h_A, h_B, h_Y, h_P, h_T, h_H, h_R, h_rz, h_rb, h_rm⟩ := hI
  exact ⟨h_b, h_m, h_c, h_z, h_l, (zdok_le (j := 8196 * (512 - (n + 1))) h_d (by omega)), h_Z, h_A, h_B, h_Y, h_P, (zdok_le (j := 10020 * (512 - (n + 1))) h_T (by omega)), h_H, h_R, h_rz, h_rb, h_rm⟩
theorem ci_default {n : Nat} (hn : n < 512) {Bf Wf Yf Cf F MB MU MH MR MW MY : Nat → Int32} {bm rp hf pl bg lo fp fb dm da cm z m Mft Msz Mal Mbs Mpl Mbg Mlo Mhs Mhf Mhp Mrs Mrf Mto Mtb Mfr Mln Mhb : Int32} (hI : (zInv n Bf Wf Yf Cf F MB MU MH MR MW MY bm rp hf pl bg lo fp fb dm da cm z m Mft Msz Mal Mbs Mpl Mbg Mlo Mhs Mhf Mhp Mrs Mrf Mto Mtb Mfr Mln Mhb)) : zInv (n + 1) Bf Wf Yf Cf F MB MU MH MR MW MY bm rp hf pl bg lo fp fb dm da cm z m Mft Msz Mal Mbs Mpl Mbg Mlo Mhs Mhf Mhp Mrs Mrf Mto Mtb Mfr Mln Mhb := by
  obtain ⟨h_b, h_m, h_c, h_z, h_l, h_d, h_Z, h_A, h_B, h_Y, h_P, h_T, h_H, h_R, h_rz, h_rb, h_rm⟩ := hI
  exact ⟨h_b, h_m, h_c, h_z, h_l, (zdok_le (j := 8196 * (512 - (n + 1))) h_d (by omega)), h_Z, h_A, h_B, h_Y, h_P, (zdok_le (j := 10020 * (512 - (n + 1))) h_T (by omega)), h_H, h_R, h_rz, h_rb, h_rm⟩
theorem ct_raw_0 {n : Nat} {Bf Wf Yf Cf F MB MU MH MR MW MY : Nat → Int32} {bm rp hf pl bg lo fp fb dm da cm z m Mft Msz Mal Mbs Mpl Mbg Mlo Mhs Mhf Mhp Mrs Mrf Mto Mtb Mfr Mln Mhb : Int32} (hI : (zInv n Bf Wf Yf Cf F MB MU MH MR MW MY bm rp hf pl bg lo fp fb dm da cm z m Mft Msz Mal Mbs Mpl Mbg Mlo Mhs Mhf Mhp Mrs Mrf Mto Mtb Mfr Mln Mhb)) {a1 : Int32} (hx : x_X5_raw a1 = none) {rq1 : Int32} {MBq1 : Nat → Int32} {Mftq1 : Int32} {Malq1 : Int32} (hT1 : (f_X6_raw MB MU Mal Mbs a1) = (rq1, MBq1, Mftq1, Malq1)) : Mftq1 = 0 := by
  obtain ⟨h_b, h_m, h_c, h_z, h_l, h_d, h_Z, h_A, h_B, h_Y, h_P, h_T, h_H, h_R, h_rz, h_rb, h_rm⟩ := hI
  exact qt_raw_0 h_rz h_rb h_rm h_m h_b hx hT1
theorem cr_raw {n : Nat} {Bf Wf Yf Cf F MB MU MH MR MW MY : Nat → Int32} {bm rp hf pl bg lo fp fb dm da cm z m Mft Msz Mal Mbs Mpl Mbg Mlo Mhs Mhf Mhp Mrs Mrf Mto Mtb Mfr Mln Mhb : Int32} (hI : (zInv n Bf Wf Yf Cf F MB MU MH MR MW MY bm rp hf pl bg lo fp fb dm da cm z m Mft Msz Mal Mbs Mpl Mbg Mlo Mhs Mhf Mhp Mrs Mrf Mto Mtb Mfr Mln Mhb)) {J : Nat → Int64} {a1 : Int32} (hx : x_X5_raw a1 = none) {rq1 : Int32} {MBq1 : Nat → Int32} {Mftq1 : Int32} {Malq1 : Int32} (hT1 : (f_X6_raw MB MU Mal Mbs a1) = (rq1, MBq1, Mftq1, Malq1)) : (vp_updL J (0 : Int32).toNatClampNeg ((f_X5_raw Bf F bm m a1).1.toInt64)) (0 : Int32).toNatClampNeg = rq1.toInt64 := by
  obtain ⟨h_b, h_m, h_c, h_z, h_l, h_d, h_Z, h_A, h_B, h_Y, h_P, h_T, h_H, h_R, h_rz, h_rb, h_rm⟩ := hI
  rw [pk_uLs, qr_raw h_rz h_rb h_rm h_m h_b hx hT1]
theorem ct_raw_1 {n : Nat} {Bf Wf Yf Cf F MB MU MH MR MW MY : Nat → Int32} {bm rp hf pl bg lo fp fb dm da cm z m Mft Msz Mal Mbs Mpl Mbg Mlo Mhs Mhf Mhp Mrs Mrf Mto Mtb Mfr Mln Mhb : Int32} (hI : (zInv n Bf Wf Yf Cf F MB MU MH MR MW MY bm rp hf pl bg lo fp fb dm da cm z m Mft Msz Mal Mbs Mpl Mbg Mlo Mhs Mhf Mhp Mrs Mrf Mto Mtb Mfr Mln Mhb)) {a1 : Int32} (hx : x_X5_raw a1 = some zIAE) {rq6 : Int32} {MBq6 : Nat → Int32} {Mftq6 : Int32} {Malq6 : Int32} (hT6 : (f_X6_raw MB MU Mal Mbs a1) = (rq6, MBq6, Mftq6, Malq6)) : Mftq6 = 1 := by
  obtain ⟨h_b, h_m, h_c, h_z, h_l, h_d, h_Z, h_A, h_B, h_Y, h_P, h_T, h_H, h_R, h_rz, h_rb, h_rm⟩ := hI
  exact qt_raw_1 h_rz h_rb h_rm h_m h_b hx hT6
