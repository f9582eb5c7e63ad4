/-! how many bytes the class's rows get -/
theorem zadd_m {N : Nat} {F : Nat → Int32} {m v : Int32} (h : zroom N 1 m) : (f_X3_add N F m v).2 = m + 1 := by
  have c : ¬ nI N ≤ m := by
    obtain ⟨a, b, d⟩ := h
    simp only [Int32.le_iff_toInt_le, nI_toInt d]
    omega
  unfold f_X3_add
  rw [if_neg c]
theorem zroom_nI {N k i : Nat} {m : Int32} (h : zroom N k m) (hi : i ≤ k) : zroom N (k - i) (m + nI i) := by
  obtain ⟨a, b, d⟩ := h
  have e := nI_toInt (n := i) (by omega)
  refine ⟨?_, ?_, d⟩ <;> rw [zadd] <;> rw [e] <;> omega
theorem zalf_lp {N k : Nat} {x : Int32} {F : Nat → Int32} {m : Int32} (h : zroom N k m) : ∀ i, i ≤ k → (lp_X3_addLowestFirst N x (F, m) i).2 = m + nI i := by
  intro i
  induction i with
  | zero => intro _; exact zpad_0 m
  | succ i ih =>
    intro hi
    have h1 := ih (by omega)
    show (b_X3_addLowestFirst N x (nI i) (lp_X3_addLowestFirst N x (F, m) i)).2 = _
    generalize lp_X3_addLowestFirst N x (F, m) i = T at h1 ⊢
    obtain ⟨G, n⟩ := T
    have h2 : n = m + nI i := h1
    have h3 : zroom N 1 n := h2 ▸ zroom_le (zroom_nI h (by omega : i ≤ k)) (by omega)
    exact (zadd_m (F := G) h3).trans (zpad_s h2)
theorem zalf {N : Nat} {x b : Int32} {F : Nat → Int32} {m : Int32} (h : zroom N b.toNatClampNeg m) (hb : 0 ≤ b.toInt) : (f_X3_addLowestFirst N F m x b).2 = m + b := by
  have := zalf_lp (x := x) (F := F) h _ (Nat.le_refl _)
  rw [znI_clamp hb] at this
  exact this
theorem zapt_lp {N k : Nat} {F2 : Nat → Int32} {m2 x : Int32} {F : Nat → Int32} {m : Int32} (h : zroom N k m) : ∀ i, i ≤ k → (lp_X3_addPart N F2 m2 x (F, m) i).2 = m + nI i := by
  intro i
  induction i with
  | zero => intro _; exact zpad_0 m
  | succ i ih =>
    intro hi
    have h1 := ih (by omega)
    show (b_X3_addPart N F2 m2 x (nI i) (lp_X3_addPart N F2 m2 x (F, m) i)).2 = _
    generalize lp_X3_addPart N F2 m2 x (F, m) i = T at h1 ⊢
    obtain ⟨G, n⟩ := T
    have h2 : n = m + nI i := h1
    have h3 : zroom N 1 n := h2 ▸ zroom_le (zroom_nI h (by omega : i ≤ k)) (by omega)
    exact (zadd_m (F := G) h3).trans (zpad_s h2)
theorem zapt {N : Nat} {F2 : Nat → Int32} {m2 x b : Int32} {F : Nat → Int32} {m : Int32} (h : zroom N b.toNatClampNeg m) (hb : 0 ≤ b.toInt) : (f_X3_addPart N F F2 m m2 x b).2 = m + b := by
  have := zapt_lp (F2 := F2) (m2 := m2) (x := x) (F := F) h _ (Nat.le_refl _)
  rw [znI_clamp hb] at this
  exact this
theorem zhr_room {N : Nat} {m v : Int32} (hm : zok N m) (hv : 0 ≤ v.toInt ∧ v.toInt < 2147483648 - N) : (f_X3_hasRoomFor N m v = 0 ↔ (N : Int) < m.toInt + v.toInt) := by
  obtain ⟨a, b, d⟩ := hm
  have e : (nI N - m).toInt = N - m.toInt := by rw [zsub] <;> rw [nI_toInt d] <;> omega
  unfold f_X3_hasRoomFor
  split
  · next c =>
    simp only [Int32.lt_iff_toInt_lt] at c
    exact ⟨fun _ => by omega, fun _ => rfl⟩
  · next c =>
    simp only [Int32.lt_iff_toInt_lt] at c
    exact ⟨fun h => absurd h (by decide), fun h => by omega⟩
theorem zaf_1 {F F2 : Nat → Int32} {m m2 q x v : Int32} (h : zroom 4096 (7 + v.toNatClampNeg) m) (hv : 0 ≤ v.toInt) : ∃ G : Nat → Int32, f_X0_addFragment F F2 m m2 q x v = (1, G, (m + 7) + v) := by
  have hc := zclamp hv
  obtain ⟨a, b, d⟩ := id h
  have o7 : (7 : Int32).toInt = 7 := rfl
  have e7 : (7 + v).toInt = 7 + v.toInt := by rw [zadd] <;> rw [o7] <;> omega
  have hr : ¬ f_X3_hasRoomFor 4096 m (7 + v) = 0 := fun e => by
    have := (zhr_room (zroom_ok h) ⟨by omega, by omega⟩).mp e
    omega
  unfold f_X0_addFragment
  rw [if_neg hr]
  generalize hT1 : f_X3_addLowestFirst 4096 F m (f_X4_of F2 m2 q x v) 4 = T1
  obtain ⟨F1, m1⟩ := T1
  have k1 : zroom 4096 ((4 : Int32).toNatClampNeg) m := zroom_le h (by have : (4 : Int32).toNatClampNeg = 4 := rfl; omega)
  have e1 : m1 = m + 4 := by have := zalf (x := f_X4_of F2 m2 q x v) (F := F) k1 (by decide); rw [hT1] at this; exact this
  generalize hT2 : f_X3_addLowestFirst 4096 F1 m1 v 2 = T2
  obtain ⟨F3, m3⟩ := T2
  have z1 : zroom 4096 (3 + v.toNatClampNeg) m1 := by
    rw [e1]
    exact zroom_le (zroom_nI (i := 4) h (by omega)) (by omega)
  have e2 : m3 = m1 + 2 := by have := zalf (x := v) (F := F1) (b := 2) (zroom_le z1 (by have : (2 : Int32).toNatClampNeg = 2 := rfl; omega)) (by decide); rw [hT2] at this; exact this
  generalize hT3 : f_X3_add 4096 F3 m3 q = T3
  obtain ⟨F4, m4⟩ := T3
  have z2 : zroom 4096 (1 + v.toNatClampNeg) m3 := by
    rw [e2]
    exact zroom_le (zroom_nI (i := 2) z1 (by omega)) (by omega)
  have e3 : m4 = m3 + 1 := by have := zadd_m (F := F3) (v := q) (zroom_le z2 (by omega)); rw [hT3] at this; exact this
  generalize hT4 : f_X3_addPart 4096 F4 F2 m4 m2 x v = T4
  obtain ⟨F5, m5⟩ := T4
  have z3 : zroom 4096 v.toNatClampNeg m4 := by
    rw [e3]
    exact zroom_s (zroom_le z2 (by omega))
  have e4 : m5 = m4 + v := by have := zapt (F2 := F2) (m2 := m2) (x := x) (F := F4) z3 hv; rw [hT4] at this; exact this
  refine ⟨F5, ?_⟩
  dsimp only
  rw [hT2]
  dsimp only
  rw [hT3]
  dsimp only
  rw [hT4]
  dsimp only
  rw [e4, e3, e2, e1, show (7 : Int32) = 4 + (2 + 1) from rfl]
  simp only [Int32.add_assoc]
theorem zff_lp {k : Nat} {x : Int32} {F : Nat → Int32} {m : Int32} (h : zroom 400 k m) : ∀ i, i ≤ k → (lp_X5_feedFrom x (F, m) i).2 = m + nI i := by
  intro i
  induction i with
  | zero => intro _; exact zpad_0 m
  | succ i ih =>
    intro hi
    have h1 := ih (by omega)
    show (b_X5_feedFrom x (nI i) (lp_X5_feedFrom x (F, m) i)).2 = _
    generalize lp_X5_feedFrom x (F, m) i = T at h1 ⊢
    obtain ⟨G, n⟩ := T
    have h2 : n = m + nI i := h1
    have h3 : zroom 400 1 n := h2 ▸ zroom_le (zroom_nI h (by omega : i ≤ k)) (by omega)
    exact (zadd_m (F := G) h3).trans (zpad_s h2)
theorem zff {x b : Int32} {F : Nat → Int32} {m : Int32} (h : zroom 400 b.toNatClampNeg m) : (f_X5_feedFrom F m x b).2 = m + nI b.toNatClampNeg := zff_lp (x := x) (F := F) h _ (Nat.le_refl _)
theorem zff_sum : ∀ k, k < 17 → (zMin (nI k) 4).toNatClampNeg + (zMin (nI k - 4) 4).toNatClampNeg + (zMin (nI k - 8) 4).toNatClampNeg + (zMin (nI k - 12) 4).toNatClampNeg = k := by decide +kernel
theorem zfeed_m {F : Nat → Int32} {m pa pb pc pd : Int32} {k : Nat} (hk : k < 17) (h : zroom 400 k m) : ∀ {G1 G2 G3 G4 : Nat → Int32} {m1 m2 m3 m4 : Int32}, f_X5_feedFrom F m pa (zMin (nI k) 4) = (G1, m1) → f_X5_feedFrom G1 m1 pb (zMin (nI k - 4) 4) = (G2, m2) → f_X5_feedFrom G2 m2 pc (zMin (nI k - 8) 4) = (G3, m3) → f_X5_feedFrom G3 m3 pd (zMin (nI k - 12) 4) = (G4, m4) → m4 = m + nI k := by
  intro G1 G2 G3 G4 m1 m2 m3 m4 h1 h2 h3 h4
  have hs := zff_sum k hk
  generalize zMin (nI k) 4 = v1 at hs h1
  generalize zMin (nI k - 4) 4 = v2 at hs h2
  generalize zMin (nI k - 8) 4 = v3 at hs h3
  generalize zMin (nI k - 12) 4 = v4 at hs h4
  have e1 : m1 = m + nI v1.toNatClampNeg := by have := zff (x := pa) (F := F) (b := v1) (zroom_le h (by omega)); rw [h1] at this; exact this
  have z1 : zroom 400 (k - v1.toNatClampNeg) m1 := e1 ▸ zroom_nI h (by omega)
  have e2 : m2 = m1 + nI v2.toNatClampNeg := by have := zff (x := pb) (F := G1) (b := v2) (zroom_le z1 (by omega)); rw [h2] at this; exact this
  have z2 : zroom 400 (k - v1.toNatClampNeg - v2.toNatClampNeg) m2 := e2 ▸ zroom_nI z1 (by omega)
  have e3 : m3 = m2 + nI v3.toNatClampNeg := by have := zff (x := pc) (F := G2) (b := v3) (zroom_le z2 (by omega)); rw [h3] at this; exact this
  have z3 : zroom 400 (k - v1.toNatClampNeg - v2.toNatClampNeg - v3.toNatClampNeg) m3 := e3 ▸ zroom_nI z2 (by omega)
  have e4 : m4 = m3 + nI v4.toNatClampNeg := by have := zff (x := pd) (F := G3) (b := v4) (zroom_le z3 (by omega)); rw [h4] at this; exact this
  rw [e4, e3, e2, e1, Int32.add_assoc, Int32.add_assoc, nI_add, Int32.add_assoc, nI_add, nI_add]
  congr 2
  omega
theorem zmf_lp {pa pb pc pd : Int32} {U : Nat → Int32} {m : Int32} : ∀ i, (lp_X6_feed pa pb pc pd (U, m) i).2 = m + nI i := by
  intro i
  induction i with
  | zero => exact zpad_0 m
  | succ i ih =>
    show (b_X6_feed pa pb pc pd (nI i) (lp_X6_feed pa pb pc pd (U, m) i)).2 = _
    generalize lp_X6_feed pa pb pc pd (U, m) i = T at ih ⊢
    obtain ⟨G, n⟩ := T
    unfold b_X6_feed
    dsimp only
    repeat' split
    all_goals exact zpad_s ih
