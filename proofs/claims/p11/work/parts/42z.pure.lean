/-! the model's append stays within its array -/
theorem znI_clamp {x : Int32} (h : 0 ≤ x.toInt) : nI x.toNatClampNeg = x := by
  apply Int32.toInt_inj.mp
  have h1 := zclamp h
  have h2 := Int32.toInt_lt x
  rw [nI_toInt (by omega)]
  exact h1
theorem zpad_0 (m : Int32) : m = m + nI 0 := by rw [nI_0, Int32.add_zero]
theorem zpad_s {m a : Int32} {i : Nat} (h : m = a + nI i) : (m + 1) = a + nI (i + 1) := by rw [h, ← nI_1, Int32.add_assoc]
theorem zpf_lpa {q : Int32} {MB : Nat → Int32} {a : Int32} : ∀ i, (lpa_X6_putFragment q (MB, a) i).2 = a + nI i := by
  intro i
  induction i with
  | zero => exact zpad_0 a
  | succ i ih =>
    show (ba_X6_putFragment q (nI i) (lpa_X6_putFragment q (MB, a) i)).2 = _
    generalize lpa_X6_putFragment q (MB, a) i = T at ih ⊢
    obtain ⟨B, m⟩ := T
    exact zpad_s ih
theorem zpf_lpb {MU : Nat → Int32} {x : Int32} {MB : Nat → Int32} {a : Int32} : ∀ i, (lpb_X6_putFragment MU x (MB, a) i).2 = a + nI i := by
  intro i
  induction i with
  | zero => exact zpad_0 a
  | succ i ih =>
    show (bb_X6_putFragment MU x (nI i) (lpb_X6_putFragment MU x (MB, a) i)).2 = _
    generalize lpb_X6_putFragment MU x (MB, a) i = T at ih ⊢
    obtain ⟨B, m⟩ := T
    exact zpad_s ih
theorem zpf_al {MB MU B1 : Nat → Int32} {a q x v a1 : Int32} (hv : 0 ≤ v.toInt) (h : f_X6_putFragment MB MU a q x v = (B1, a1)) : a1 = (a + 7) + v := by
  unfold f_X6_putFragment at h
  split at h
  next B2 a2 e2 =>
  split at h
  next B3 a3 e3 =>
  cases h
  have h2 := zpf_lpa (q := f_X6_checkOf MU q x v) (MB := MB) (a := a) (4 : Int32).toNatClampNeg
  rw [e2] at h2
  have h3 := zpf_lpb (MU := MU) (x := x) (MB := upd (upd (upd B2 a2.toNatClampNeg (v &&& 255)) (a2 + 1).toNatClampNeg ((v >>> ((8 : Int32) &&& 31)) &&& 255)) ((a2 + 1) + 1).toNatClampNeg (q &&& 255)) (a := ((a2 + 1) + 1) + 1) v.toNatClampNeg
  rw [e3] at h3
  have h4 : a2 = a + nI (4 : Int32).toNatClampNeg := h2
  have h5 : a1 = ((a2 + 1) + 1) + 1 + nI v.toNatClampNeg := h3
  rw [h5, h4, znI_clamp hv, show nI (4 : Int32).toNatClampNeg = 4 from rfl, show (7 : Int32) = 4 + (1 + (1 + 1)) from rfl]
  simp only [Int32.add_assoc]
theorem zap_le {z al lf mo : Int32} {n : Nat} (hz : zsz z) (hp : zap z (n + 1) al lf mo) (hq : (lp_X6_appendedSize z (n + 1) al lf mo).toInt ≤ 4096) (c0 : ¬ mo = 0) :
    (7 ≤ (z - zMod al z) → ((z - zMod al z) - 7) ≤ lf → al.toInt + (z.toInt - al.toInt % z.toInt) ≤ 4096) ∧
    (7 ≤ (z - zMod al z) → ¬ ((z - zMod al z) - 7) ≤ lf → al.toInt + 7 + lf.toInt ≤ 4096) ∧
    (¬ 7 ≤ (z - zMod al z) → (z - 7) ≤ lf → al.toInt + (z.toInt - al.toInt % z.toInt) + z.toInt ≤ 4096) ∧
    (¬ 7 ≤ (z - zMod al z) → ¬ (z - 7) ≤ lf → al.toInt + (z.toInt - al.toInt % z.toInt) + 7 + lf.toInt ≤ 4096) := by
  obtain ⟨p1, p2, p3, p4, p5, p6, p7, p8, p9, p10, p11, p12, p13⟩ := zap_pl hz hp c0
  unfold lp_X6_appendedSize at hq
  rw [if_neg c0] at hq
  refine ⟨fun c1 c2 => ?_, fun c1 c2 => ?_, fun c1 c2 => ?_, fun c1 c2 => ?_⟩
  · rw [if_pos c1, if_pos c2] at hq
    by_cases c3 : (lf - ((z - zMod al z) - 7)) ≤ 0
    · rw [if_pos c3, zap_0 (zap_e hp c0) rfl] at hq; omega
    · rw [if_neg c3] at hq
      have := zap_ge hz _ _ _ _ (zap_a hz hp c0 c1 c2 c3)
      omega
  · rw [if_pos c1, if_neg c2] at hq
    by_cases c3 : (lf - lf) ≤ 0
    · rw [if_pos c3, zap_0 (zap_e hp c0) rfl] at hq; omega
    · rw [zsub_self] at c3; exact absurd (by decide) c3
  · rw [if_neg c1, if_pos c2] at hq
    by_cases c3 : (lf - (z - 7)) ≤ 0
    · rw [if_pos c3, zap_0 (zap_e hp c0) rfl] at hq; omega
    · rw [if_neg c3] at hq
      have := zap_ge hz _ _ _ _ (zap_b hz hp c0 c1 c2 c3)
      omega
  · rw [if_neg c1, if_neg c2] at hq
    by_cases c3 : (lf - lf) ≤ 0
    · rw [if_pos c3, zap_0 (zap_e hp c0) rfl] at hq; omega
    · rw [zsub_self] at c3; exact absurd (by decide) c3
theorem zapp_i {z a b r : Int32} (h : f_X6_appendedSize z a b = r) (c : r ≤ 4096) : (lp_X6_appendedSize z 1000 a b 1).toInt ≤ 4096 := by
  have e : lp_X6_appendedSize z 1000 a b 1 = r := h
  rw [e]
  simp only [Int32.le_iff_toInt_le] at c
  exact c
section
variable {z al lf mo alp : Int32} {n i r : Nat}
theorem zapp_al (hz : zsz z) (hp : zap z (n + 1) al lf mo) (c0 : ¬ mo = 0) (hm : alp = al + nI i) (hi : i = (z - zMod al z).toNatClampNeg) : alp = al + (z - zMod al z) := by
  obtain ⟨p1, p2, p3, p4, p5, p6, p7, -⟩ := zap_pl hz hp c0
  rw [hm, hi, znI_clamp (by omega)]
theorem zpad_room (hz : zsz z) (hp : zap z (n + 1) al lf mo) (hq : (lp_X6_appendedSize z (n + 1) al lf mo).toInt ≤ 4096) (c0 : ¬ mo = 0) (c1 : ¬ 7 ≤ (z - zMod al z)) (hm : alp = al + nI i) (hi : i + (r + 1) = (z - zMod al z).toNatClampNeg) : zroom 4096 1 alp := by
  obtain ⟨p1, p2, p3, p4, p5, p6, p7, p8, p9, -⟩ := zap_pl hz hp c0
  obtain ⟨-, -, q3, q4⟩ := zap_le hz hp hq c0
  have hR : al.toInt + (z.toInt - al.toInt % z.toInt) ≤ 4096 := by
    by_cases c2 : (z - 7) ≤ lf
    · have := q3 c1 c2
      obtain ⟨z1, z2⟩ := id hz
      omega
    · have := q4 c1 c2
      omega
  have hc := zclamp (x := z - zMod al z) (by omega)
  have hi2 : i < 2 ^ 31 := by omega
  have e : alp.toInt = al.toInt + i := by rw [hm, zadd] <;> rw [nI_toInt hi2] <;> omega
  exact ⟨by omega, by omega, by decide⟩
theorem zapp_room_at (hz : zsz z) (hp : zap z (n + 1) al lf mo) (hq : (lp_X6_appendedSize z (n + 1) al lf mo).toInt ≤ 4096) (c0 : ¬ mo = 0) (c1 : 7 ≤ (z - zMod al z)) (c2 : ((z - zMod al z) - 7) ≤ lf) : zroom 4096 (7 + ((z - zMod al z) - 7).toNatClampNeg) al := by
  obtain ⟨p1, p2, p3, p4, p5, p6, p7, p8, p9, -⟩ := zap_pl hz hp c0
  have h := (zap_le hz hp hq c0).1 c1 c2
  have o7 : (7 : Int32).toInt = 7 := rfl
  simp only [Int32.le_iff_toInt_le] at c1
  have hc := zclamp (x := (z - zMod al z) - 7) (by omega)
  exact ⟨by omega, by omega, by decide⟩
theorem zapp_room_af (hz : zsz z) (hp : zap z (n + 1) al lf mo) (hq : (lp_X6_appendedSize z (n + 1) al lf mo).toInt ≤ 4096) (c0 : ¬ mo = 0) (c1 : 7 ≤ (z - zMod al z)) (c2 : ¬ ((z - zMod al z) - 7) ≤ lf) : zroom 4096 (7 + lf.toNatClampNeg) al := by
  obtain ⟨p1, p2, p3, p4, p5, p6, p7, p8, p9, -⟩ := zap_pl hz hp c0
  have h := (zap_le hz hp hq c0).2.1 c1 c2
  have hc := zclamp p2
  exact ⟨by omega, by omega, by decide⟩
theorem zapp_room_bt (hz : zsz z) (hp : zap z (n + 1) al lf mo) (hq : (lp_X6_appendedSize z (n + 1) al lf mo).toInt ≤ 4096) (c0 : ¬ mo = 0) (c1 : ¬ 7 ≤ (z - zMod al z)) (c2 : (z - 7) ≤ lf) (hm : alp = al + nI i) (hi : i = (z - zMod al z).toNatClampNeg) : zroom 4096 (7 + (z - 7).toNatClampNeg) alp := by
  obtain ⟨p1, p2, p3, p4, p5, p6, p7, p8, p9, -⟩ := zap_pl hz hp c0
  have h := (zap_le hz hp hq c0).2.2.1 c1 c2
  obtain ⟨z1, z2⟩ := id hz
  have hc := zclamp (x := z - 7) (by omega)
  have e : alp.toInt = al.toInt + (z.toInt - al.toInt % z.toInt) := by rw [zapp_al hz hp c0 hm hi, zadd] <;> rw [p5] <;> omega
  exact ⟨by omega, by omega, by decide⟩
theorem zapp_room_bf (hz : zsz z) (hp : zap z (n + 1) al lf mo) (hq : (lp_X6_appendedSize z (n + 1) al lf mo).toInt ≤ 4096) (c0 : ¬ mo = 0) (c1 : ¬ 7 ≤ (z - zMod al z)) (c2 : ¬ (z - 7) ≤ lf) (hm : alp = al + nI i) (hi : i = (z - zMod al z).toNatClampNeg) : zroom 4096 (7 + lf.toNatClampNeg) alp := by
  obtain ⟨p1, p2, p3, p4, p5, p6, p7, p8, p9, -⟩ := zap_pl hz hp c0
  have h := (zap_le hz hp hq c0).2.2.2 c1 c2
  have hc := zclamp p2
  have e : alp.toInt = al.toInt + (z.toInt - al.toInt % z.toInt) := by rw [zapp_al hz hp c0 hm hi, zadd] <;> rw [p5] <;> omega
  exact ⟨by omega, by omega, by decide⟩
variable {bs bq : Int32}
theorem zapp_lf (hu : zok 400 bs) (hb : 0 ≤ bq.toInt ∧ bq.toInt ≤ bs.toInt) : (bs - bq).toInt = bs.toInt - bq.toInt := by
  obtain ⟨a, b, _⟩ := hu
  rw [zsub] <;> omega
theorem zapp_seg (hu : zok 400 bs) (hb : 0 ≤ bq.toInt ∧ bq.toInt ≤ bs.toInt) {v : Int32} (h0 : 0 ≤ v.toInt) (h1 : v.toInt ≤ (bs - bq).toInt) : zseg 400 bq v ∧ (0 ≤ (bq + v).toInt ∧ (bq + v).toInt ≤ bs.toInt) := by
  have e := zapp_lf hu hb
  obtain ⟨a, b, _⟩ := hu
  have e2 : (bq + v).toInt = bq.toInt + v.toInt := by rw [zadd] <;> omega
  exact ⟨⟨by omega, by omega, by omega, by decide⟩, by omega, by omega⟩
theorem zapp_at (hz : zsz z) (hu : zok 400 bs) (hp : zap z (n + 1) al (bs - bq) mo) (hb : 0 ≤ bq.toInt ∧ bq.toInt ≤ bs.toInt) (c0 : ¬ mo = 0) (c1 : 7 ≤ (z - zMod al z)) (c2 : ((z - zMod al z) - 7) ≤ (bs - bq)) : zseg 400 bq ((z - zMod al z) - 7) ∧ (0 ≤ (bq + ((z - zMod al z) - 7)).toInt ∧ (bq + ((z - zMod al z) - 7)).toInt ≤ bs.toInt) := by
  obtain ⟨p1, p2, p3, p4, p5, p6, p7, p8, p9, -⟩ := zap_pl hz hp c0
  have o7 : (7 : Int32).toInt = 7 := rfl
  simp only [Int32.le_iff_toInt_le] at c1 c2
  exact zapp_seg hu hb (by omega) c2
theorem zapp_seg_at (hz : zsz z) (hu : zok 400 bs) (hp : zap z (n + 1) al (bs - bq) mo) (hb : 0 ≤ bq.toInt ∧ bq.toInt ≤ bs.toInt) (c0 : ¬ mo = 0) (c1 : 7 ≤ (z - zMod al z)) (c2 : ((z - zMod al z) - 7) ≤ (bs - bq)) : zseg 400 bq ((z - zMod al z) - 7) := (zapp_at hz hu hp hb c0 c1 c2).1
theorem zapp_b_at (hz : zsz z) (hu : zok 400 bs) (hp : zap z (n + 1) al (bs - bq) mo) (hb : 0 ≤ bq.toInt ∧ bq.toInt ≤ bs.toInt) (c0 : ¬ mo = 0) (c1 : 7 ≤ (z - zMod al z)) (c2 : ((z - zMod al z) - 7) ≤ (bs - bq)) : 0 ≤ (bq + ((z - zMod al z) - 7)).toInt ∧ (bq + ((z - zMod al z) - 7)).toInt ≤ bs.toInt := (zapp_at hz hu hp hb c0 c1 c2).2
theorem zapp_f (hz : zsz z) (hu : zok 400 bs) (hp : zap z (n + 1) al (bs - bq) mo) (hb : 0 ≤ bq.toInt ∧ bq.toInt ≤ bs.toInt) (c0 : ¬ mo = 0) : zseg 400 bq (bs - bq) ∧ (0 ≤ (bq + (bs - bq)).toInt ∧ (bq + (bs - bq)).toInt ≤ bs.toInt) := by
  obtain ⟨p1, p2, -⟩ := zap_pl hz hp c0
  exact zapp_seg hu hb p2 (Int.le_refl _)
theorem zapp_seg_af (hz : zsz z) (hu : zok 400 bs) (hp : zap z (n + 1) al (bs - bq) mo) (hb : 0 ≤ bq.toInt ∧ bq.toInt ≤ bs.toInt) (c0 : ¬ mo = 0) {P Q : Prop} (_ : P) (_ : Q) : zseg 400 bq (bs - bq) := (zapp_f hz hu hp hb c0).1
theorem zapp_b_af (hz : zsz z) (hu : zok 400 bs) (hp : zap z (n + 1) al (bs - bq) mo) (hb : 0 ≤ bq.toInt ∧ bq.toInt ≤ bs.toInt) (c0 : ¬ mo = 0) {P Q : Prop} (_ : P) (_ : Q) : 0 ≤ (bq + (bs - bq)).toInt ∧ (bq + (bs - bq)).toInt ≤ bs.toInt := (zapp_f hz hu hp hb c0).2
theorem zapp_seg_bf (hz : zsz z) (hu : zok 400 bs) (hp : zap z (n + 1) al (bs - bq) mo) (hb : 0 ≤ bq.toInt ∧ bq.toInt ≤ bs.toInt) (c0 : ¬ mo = 0) {P Q : Prop} (_ : P) (_ : Q) : zseg 400 bq (bs - bq) := (zapp_f hz hu hp hb c0).1
theorem zapp_b_bf (hz : zsz z) (hu : zok 400 bs) (hp : zap z (n + 1) al (bs - bq) mo) (hb : 0 ≤ bq.toInt ∧ bq.toInt ≤ bs.toInt) (c0 : ¬ mo = 0) {P Q : Prop} (_ : P) (_ : Q) : 0 ≤ (bq + (bs - bq)).toInt ∧ (bq + (bs - bq)).toInt ≤ bs.toInt := (zapp_f hz hu hp hb c0).2
theorem zapp_bt (hz : zsz z) (hu : zok 400 bs) (hp : zap z (n + 1) al (bs - bq) mo) (hb : 0 ≤ bq.toInt ∧ bq.toInt ≤ bs.toInt) (c0 : ¬ mo = 0) (c2 : (z - 7) ≤ (bs - bq)) : zseg 400 bq (z - 7) ∧ (0 ≤ (bq + (z - 7)).toInt ∧ (bq + (z - 7)).toInt ≤ bs.toInt) := by
  obtain ⟨p1, p2, p3, p4, p5, p6, p7, p8, p9, -⟩ := zap_pl hz hp c0
  obtain ⟨z1, z2⟩ := id hz
  simp only [Int32.le_iff_toInt_le] at c2
  exact zapp_seg hu hb (by omega) c2
theorem zapp_seg_bt (hz : zsz z) (hu : zok 400 bs) (hp : zap z (n + 1) al (bs - bq) mo) (hb : 0 ≤ bq.toInt ∧ bq.toInt ≤ bs.toInt) (c0 : ¬ mo = 0) {P : Prop} (_ : P) (c2 : (z - 7) ≤ (bs - bq)) : zseg 400 bq (z - 7) := (zapp_bt hz hu hp hb c0 c2).1
theorem zapp_b_bt (hz : zsz z) (hu : zok 400 bs) (hp : zap z (n + 1) al (bs - bq) mo) (hb : 0 ≤ bq.toInt ∧ bq.toInt ≤ bs.toInt) (c0 : ¬ mo = 0) {P : Prop} (_ : P) (c2 : (z - 7) ≤ (bs - bq)) : 0 ≤ (bq + (z - 7)).toInt ∧ (bq + (z - 7)).toInt ≤ bs.toInt := (zapp_bt hz hu hp hb c0 c2).2
variable {MB MU B1 : Nat → Int32} {a1 k lf' : Int32}
theorem zapp_q0_at (hz : zsz z) (hp : zap z (n + 1) al lf mo) (hq : (lp_X6_appendedSize z (n + 1) al lf mo).toInt ≤ 4096) (c0 : ¬ mo = 0) (c1 : 7 ≤ (z - zMod al z)) (c2 : ((z - zMod al z) - 7) ≤ lf) (hT : f_X6_putFragment MB MU al k bq ((z - zMod al z) - 7) = (B1, a1)) : (lp_X6_appendedSize z n a1 lf' 0).toInt ≤ 4096 := by
  obtain ⟨p1, p2, p3, p4, p5, p6, p7, p8, p9, p10, -⟩ := zap_pl hz hp c0
  have h := (zap_le hz hp hq c0).1 c1 c2
  have o7 : (7 : Int32).toInt = 7 := rfl
  simp only [Int32.le_iff_toInt_le] at c1
  rw [zap_0 (zap_e hp c0) rfl, zpf_al (by omega) hT]
  omega
theorem zapp_q0_af (hz : zsz z) (hp : zap z (n + 1) al lf mo) (hq : (lp_X6_appendedSize z (n + 1) al lf mo).toInt ≤ 4096) (c0 : ¬ mo = 0) (c1 : 7 ≤ (z - zMod al z)) (c2 : ¬ ((z - zMod al z) - 7) ≤ lf) (hT : f_X6_putFragment MB MU al k bq lf = (B1, a1)) : (lp_X6_appendedSize z n a1 lf' 0).toInt ≤ 4096 := by
  obtain ⟨p1, p2, p3, p4, p5, p6, p7, p8, p9, p10, p11, -⟩ := zap_pl hz hp c0
  have h := (zap_le hz hp hq c0).2.1 c1 c2
  rw [zap_0 (zap_e hp c0) rfl, zpf_al p2 hT]
  omega
theorem zapp_q0_bt (hz : zsz z) (hp : zap z (n + 1) al lf mo) (hq : (lp_X6_appendedSize z (n + 1) al lf mo).toInt ≤ 4096) (c0 : ¬ mo = 0) (c1 : ¬ 7 ≤ (z - zMod al z)) (c2 : (z - 7) ≤ lf) (hm : alp = al + nI i) (hi : i = (z - zMod al z).toNatClampNeg) (hT : f_X6_putFragment MB MU alp k bq (z - 7) = (B1, a1)) : (lp_X6_appendedSize z n a1 lf' 0).toInt ≤ 4096 := by
  obtain ⟨p1, p2, p3, p4, p5, p6, p7, p8, p9, p10, p11, p12, -⟩ := zap_pl hz hp c0
  have h := (zap_le hz hp hq c0).2.2.1 c1 c2
  obtain ⟨z1, z2⟩ := id hz
  rw [zap_0 (zap_e hp c0) rfl, zpf_al (by omega) hT, zapp_al hz hp c0 hm hi]
  omega
theorem zapp_q0_bf (hz : zsz z) (hp : zap z (n + 1) al lf mo) (hq : (lp_X6_appendedSize z (n + 1) al lf mo).toInt ≤ 4096) (c0 : ¬ mo = 0) (c1 : ¬ 7 ≤ (z - zMod al z)) (c2 : ¬ (z - 7) ≤ lf) (hm : alp = al + nI i) (hi : i = (z - zMod al z).toNatClampNeg) (hT : f_X6_putFragment MB MU alp k bq lf = (B1, a1)) : (lp_X6_appendedSize z n a1 lf' 0).toInt ≤ 4096 := by
  obtain ⟨p1, p2, p3, p4, p5, p6, p7, p8, p9, p10, p11, p12, p13⟩ := zap_pl hz hp c0
  have h := (zap_le hz hp hq c0).2.2.2 c1 c2
  rw [zap_0 (zap_e hp c0) rfl, zpf_al p2 hT, zapp_al hz hp c0 hm hi]
  omega
theorem zsub_add (x y w : Int32) : x - (y + w) = (x - y) - w := by rw [Int32.sub_eq_add_neg, Int32.sub_eq_add_neg, Int32.sub_eq_add_neg, Int32.neg_add, Int32.add_assoc, Int32.sub_eq_add_neg]
theorem zapp_c3 {x y : Int32} (hx : 0 ≤ x.toInt ∧ x.toInt ≤ 100000) (hy : 0 ≤ y.toInt ∧ y.toInt ≤ 100000) (c2 : x ≤ y) (c3 : ¬ x = y) : ¬ (y - x) ≤ 0 := by
  have o : (0 : Int32).toInt = 0 := rfl
  have e : (y - x).toInt = y.toInt - x.toInt := by rw [zsub] <;> omega
  have ne : ¬ x.toInt = y.toInt := fun h => c3 (Int32.toInt_inj.mp h)
  simp only [Int32.le_iff_toInt_le] at c2 ⊢
  omega
theorem zapp_1_at (hz : zsz z) (hp : zap z (n + 1) al (bs - bq) mo) (hq : (lp_X6_appendedSize z (n + 1) al (bs - bq) mo).toInt ≤ 4096) (c0 : ¬ mo = 0) (c1 : 7 ≤ (z - zMod al z)) (c2 : ((z - zMod al z) - 7) ≤ (bs - bq)) (c3 : ¬ ((z - zMod al z) - 7) = (bs - bq)) (hT : f_X6_putFragment MB MU al k bq ((z - zMod al z) - 7) = (B1, a1)) :
    zap z n a1 (bs - (bq + ((z - zMod al z) - 7))) 1 ∧ (lp_X6_appendedSize z n a1 (bs - (bq + ((z - zMod al z) - 7))) 1).toInt ≤ 4096 := by
  obtain ⟨p1, p2, p3, p4, p5, p6, p7, p8, p9, p10, -⟩ := zap_pl hz hp c0
  have o7 : (7 : Int32).toInt = 7 := rfl
  have c1' := c1
  simp only [Int32.le_iff_toInt_le] at c1'
  obtain ⟨z1, z2⟩ := id hz
  have h3 := zapp_c3 ⟨by omega, by omega⟩ ⟨p2, by omega⟩ c2 c3
  rw [zpf_al (by omega) hT, zsub_add]
  refine ⟨zap_a hz hp c0 c1 c2 h3, ?_⟩
  unfold lp_X6_appendedSize at hq
  rw [if_neg c0, if_pos c1, if_pos c2, if_neg h3] at hq
  exact hq
theorem zapp_p1_at (hz : zsz z) (hp : zap z (n + 1) al (bs - bq) mo) (hq : (lp_X6_appendedSize z (n + 1) al (bs - bq) mo).toInt ≤ 4096) (c0 : ¬ mo = 0) (c1 : 7 ≤ (z - zMod al z)) (c2 : ((z - zMod al z) - 7) ≤ (bs - bq)) (c3 : ¬ ((z - zMod al z) - 7) = (bs - bq)) (hT : f_X6_putFragment MB MU al k bq ((z - zMod al z) - 7) = (B1, a1)) : zap z n a1 (bs - (bq + ((z - zMod al z) - 7))) 1 := (zapp_1_at hz hp hq c0 c1 c2 c3 hT).1
theorem zapp_q1_at (hz : zsz z) (hp : zap z (n + 1) al (bs - bq) mo) (hq : (lp_X6_appendedSize z (n + 1) al (bs - bq) mo).toInt ≤ 4096) (c0 : ¬ mo = 0) (c1 : 7 ≤ (z - zMod al z)) (c2 : ((z - zMod al z) - 7) ≤ (bs - bq)) (c3 : ¬ ((z - zMod al z) - 7) = (bs - bq)) (hT : f_X6_putFragment MB MU al k bq ((z - zMod al z) - 7) = (B1, a1)) : (lp_X6_appendedSize z n a1 (bs - (bq + ((z - zMod al z) - 7))) 1).toInt ≤ 4096 := (zapp_1_at hz hp hq c0 c1 c2 c3 hT).2
theorem zapp_1_bt (hz : zsz z) (hp : zap z (n + 1) al (bs - bq) mo) (hq : (lp_X6_appendedSize z (n + 1) al (bs - bq) mo).toInt ≤ 4096) (c0 : ¬ mo = 0) (c1 : ¬ 7 ≤ (z - zMod al z)) (c2 : (z - 7) ≤ (bs - bq)) (c3 : ¬ (z - 7) = (bs - bq)) (hm : alp = al + nI i) (hi : i = (z - zMod al z).toNatClampNeg) (hT : f_X6_putFragment MB MU alp k bq (z - 7) = (B1, a1)) :
    zap z n a1 (bs - (bq + (z - 7))) 1 ∧ (lp_X6_appendedSize z n a1 (bs - (bq + (z - 7))) 1).toInt ≤ 4096 := by
  obtain ⟨p1, p2, p3, p4, p5, p6, p7, p8, p9, p10, -⟩ := zap_pl hz hp c0
  obtain ⟨z1, z2⟩ := id hz
  have h3 := zapp_c3 ⟨by omega, by omega⟩ ⟨p2, by omega⟩ c2 c3
  rw [zpf_al (by omega) hT, zsub_add, zapp_al hz hp c0 hm hi]
  refine ⟨zap_b hz hp c0 c1 c2 h3, ?_⟩
  unfold lp_X6_appendedSize at hq
  rw [if_neg c0, if_neg c1, if_pos c2, if_neg h3] at hq
  exact hq
theorem zapp_p1_bt (hz : zsz z) (hp : zap z (n + 1) al (bs - bq) mo) (hq : (lp_X6_appendedSize z (n + 1) al (bs - bq) mo).toInt ≤ 4096) (c0 : ¬ mo = 0) (c1 : ¬ 7 ≤ (z - zMod al z)) (c2 : (z - 7) ≤ (bs - bq)) (c3 : ¬ (z - 7) = (bs - bq)) (hm : alp = al + nI i) (hi : i = (z - zMod al z).toNatClampNeg) (hT : f_X6_putFragment MB MU alp k bq (z - 7) = (B1, a1)) : zap z n a1 (bs - (bq + (z - 7))) 1 := (zapp_1_bt hz hp hq c0 c1 c2 c3 hm hi hT).1
theorem zapp_q1_bt (hz : zsz z) (hp : zap z (n + 1) al (bs - bq) mo) (hq : (lp_X6_appendedSize z (n + 1) al (bs - bq) mo).toInt ≤ 4096) (c0 : ¬ mo = 0) (c1 : ¬ 7 ≤ (z - zMod al z)) (c2 : (z - 7) ≤ (bs - bq)) (c3 : ¬ (z - 7) = (bs - bq)) (hm : alp = al + nI i) (hi : i = (z - zMod al z).toNatClampNeg) (hT : f_X6_putFragment MB MU alp k bq (z - 7) = (B1, a1)) : (lp_X6_appendedSize z n a1 (bs - (bq + (z - 7))) 1).toInt ≤ 4096 := (zapp_1_bt hz hp hq c0 c1 c2 c3 hm hi hT).2
end
