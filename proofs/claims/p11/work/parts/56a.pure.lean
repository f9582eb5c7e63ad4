/-! ===== what every call keeps ===== -/
theorem zand255 (x : Int32) : 0 ≤ (x &&& 255).toInt ∧ (x &&& 255).toInt ≤ 255 := by
  have h : (x &&& 255).toInt = ((x.toBitVec.toNat &&& 255 : Nat) : Int) := by
    have h1 : x.toBitVec.toNat &&& 255 ≤ 255 := Nat.and_le_right
    have e : (x &&& 255).toBitVec.toNat = x.toBitVec.toNat &&& 255 := by
      simp [Int32.toBitVec_and]
    rw [← Int32.toInt_toBitVec, BitVec.toInt_eq_toNat_cond, e]
    omega
  have h1 : x.toBitVec.toNat &&& 255 ≤ 255 := Nat.and_le_right
  omega
theorem zby_upd {N : Nat} {B : Nat → Int32} {i : Nat} {v : Int32} (h : zby N B) (hv : 0 ≤ v.toInt ∧ v.toInt ≤ 255) : zby N (upd B i v) := by
  intro j hj
  unfold upd
  split
  · exact hv
  · exact h j hj
theorem zby_lpa {q : Int32} {MB : Nat → Int32} {a : Int32} (h : zby 4096 MB) : ∀ i, zby 4096 (lpa_X6_putFragment q (MB, a) i).1 := by
  intro i
  induction i with
  | zero => exact h
  | succ i ih =>
    show zby 4096 (ba_X6_putFragment q (nI i) (lpa_X6_putFragment q (MB, a) i)).1
    generalize lpa_X6_putFragment q (MB, a) i = T at ih ⊢
    obtain ⟨B, m⟩ := T
    exact zby_upd ih (zand255 _)
theorem zby_lpb {MU : Nat → Int32} {x : Int32} {MB : Nat → Int32} {a : Int32} (h : zby 4096 MB) : ∀ i, zby 4096 (lpb_X6_putFragment MU x (MB, a) i).1 := by
  intro i
  induction i with
  | zero => exact h
  | succ i ih =>
    show zby 4096 (bb_X6_putFragment MU x (nI i) (lpb_X6_putFragment MU x (MB, a) i)).1
    generalize lpb_X6_putFragment MU x (MB, a) i = T at ih ⊢
    obtain ⟨B, m⟩ := T
    exact zby_upd ih (zand255 _)
theorem zby_lpp {MB : Nat → Int32} {a : Int32} (h : zby 4096 MB) : ∀ i, zby 4096 (lpp_X6_append (MB, a) i).1 := by
  intro i
  induction i with
  | zero => exact h
  | succ i ih =>
    show zby 4096 (bp_X6_append (nI i) (lpp_X6_append (MB, a) i)).1
    generalize lpp_X6_append (MB, a) i = T at ih ⊢
    obtain ⟨B, m⟩ := T
    exact zby_upd ih (zand255 _)
theorem zlpp_al {MB : Nat → Int32} {a : Int32} : ∀ i, (lpp_X6_append (MB, a) i).2 = a + nI i := by
  intro i
  induction i with
  | zero => exact zpad_0 a
  | succ i ih =>
    show (bp_X6_append (nI i) (lpp_X6_append (MB, a) i)).2 = _
    generalize lpp_X6_append (MB, a) i = T at ih ⊢
    obtain ⟨B, m⟩ := T
    exact zpad_s ih
theorem zby_pf {MB MU B1 : Nat → Int32} {a q x v a1 : Int32} (h : zby 4096 MB) (e : f_X6_putFragment MB MU a q x v = (B1, a1)) : zby 4096 B1 := by
  unfold f_X6_putFragment at e
  split at e
  next B2 a2 e2 =>
  split at e
  next B3 a3 e3 =>
  cases e
  have h2 := zby_lpa (q := f_X6_checkOf MU q x v) (a := a) h (4 : Int32).toNatClampNeg
  rw [e2] at h2
  have h3 := zby_lpb (MU := MU) (x := x) (a := ((a2 + 1) + 1) + 1) (zby_upd (i := ((a2 + 1) + 1).toNatClampNeg) (zby_upd (i := (a2 + 1).toNatClampNeg) (zby_upd (i := a2.toNatClampNeg) h2 (zand255 v)) (zand255 (v >>> ((8 : Int32) &&& 31)))) (zand255 q)) v.toNatClampNeg
  rw [e3] at h3
  exact h3
theorem zok_pf {MB MU B1 : Nat → Int32} {a q x v a1 : Int32} (h : zroom 4096 (7 + v.toNatClampNeg) a) (hv : 0 ≤ v.toInt) (e : f_X6_putFragment MB MU a q x v = (B1, a1)) : zok 4096 a1 := by
  rw [zpf_al hv e]
  obtain ⟨h1, h2, h3⟩ := h
  have := zclamp hv
  have o7 : (7 : Int32).toInt = 7 := rfl
  have e7 : (a + 7).toInt = a.toInt + 7 := by rw [zadd] <;> rw [o7] <;> omega
  have e8 : ((a + 7) + v).toInt = a.toInt + 7 + v.toInt := by rw [zadd (by omega) (by omega), e7]
  exact ⟨by omega, by omega, by omega⟩
theorem zapp_safe_lp {MU : Nat → Int32} {z bs : Int32} (hz : zsz z) (hu : zok 400 bs) : ∀ (n : Nat) (bq mo : Int32) (MB : Nat → Int32) (al hb : Int32), zap z n al (bs - bq) mo → (lp_X6_appendedSize z n al (bs - bq) mo).toInt ≤ 4096 → 0 ≤ bq.toInt ∧ bq.toInt ≤ bs.toInt → zok 4096 al → zby 4096 MB → zby 4096 (lp_X6_append MU z bs n bq mo MB al hb).2.1 ∧ zok 4096 (lp_X6_append MU z bs n bq mo MB al hb).2.2.2.1 := by
  intro n
  induction n with
  | zero => intro bq mo MB al hb hp; exact absurd (zap_z hp) id
  | succ n ih =>
    intro bq mo MB al hb hp hq hb_ ha hB
    unfold lp_X6_append
    by_cases c0 : mo = 0
    · rw [if_pos c0]
      exact ⟨hB, ha⟩
    rw [if_neg c0]
    by_cases c1 : 7 ≤ (z - zMod al z)
    · rw [if_pos c1]
      by_cases c2 : ((z - zMod al z) - 7) ≤ (bs - bq)
      · rw [if_pos c2]
        by_cases c3 : ((z - zMod al z) - 7) = (bs - bq)
        · rw [if_pos c3]
          by_cases c4 : bq = 0
          · rw [if_pos c4]
            by_cases c5 : hb = 0
            · rw [if_pos c5]
              generalize hT : f_X6_putFragment MB MU al 1 bq ((z - zMod al z) - 7) = T
              obtain ⟨B1, a1⟩ := T
              exact ih _ _ _ _ _ (zap_e hp c0) (zapp_q0_at hz hp hq c0 c1 c2 hT) (zapp_b_at hz hu hp hb_ c0 c1 c2) (zok_pf (zapp_room_at hz hp hq c0 c1 c2) (zapp_seg_at hz hu hp hb_ c0 c1 c2).2.1 hT) (zby_pf hB hT)
            · rw [if_neg c5]
              generalize hT : f_X6_putFragment MB MU al 4 bq ((z - zMod al z) - 7) = T
              obtain ⟨B1, a1⟩ := T
              exact ih _ _ _ _ _ (zap_e hp c0) (zapp_q0_at hz hp hq c0 c1 c2 hT) (zapp_b_at hz hu hp hb_ c0 c1 c2) (zok_pf (zapp_room_at hz hp hq c0 c1 c2) (zapp_seg_at hz hu hp hb_ c0 c1 c2).2.1 hT) (zby_pf hB hT)
          · rw [if_neg c4]
            generalize hT : f_X6_putFragment MB MU al 4 bq ((z - zMod al z) - 7) = T
            obtain ⟨B1, a1⟩ := T
            exact ih _ _ _ _ _ (zap_e hp c0) (zapp_q0_at hz hp hq c0 c1 c2 hT) (zapp_b_at hz hu hp hb_ c0 c1 c2) (zok_pf (zapp_room_at hz hp hq c0 c1 c2) (zapp_seg_at hz hu hp hb_ c0 c1 c2).2.1 hT) (zby_pf hB hT)
        · rw [if_neg c3]
          by_cases c4 : bq = 0
          · rw [if_pos c4]
            by_cases c5 : hb = 0
            · rw [if_pos c5]
              generalize hT : f_X6_putFragment MB MU al 2 bq ((z - zMod al z) - 7) = T
              obtain ⟨B1, a1⟩ := T
              exact ih _ _ _ _ _ (zapp_p1_at hz hp hq c0 c1 c2 c3 hT) (zapp_q1_at hz hp hq c0 c1 c2 c3 hT) (zapp_b_at hz hu hp hb_ c0 c1 c2) (zok_pf (zapp_room_at hz hp hq c0 c1 c2) (zapp_seg_at hz hu hp hb_ c0 c1 c2).2.1 hT) (zby_pf hB hT)
            · rw [if_neg c5]
              generalize hT : f_X6_putFragment MB MU al 3 bq ((z - zMod al z) - 7) = T
              obtain ⟨B1, a1⟩ := T
              exact ih _ _ _ _ _ (zapp_p1_at hz hp hq c0 c1 c2 c3 hT) (zapp_q1_at hz hp hq c0 c1 c2 c3 hT) (zapp_b_at hz hu hp hb_ c0 c1 c2) (zok_pf (zapp_room_at hz hp hq c0 c1 c2) (zapp_seg_at hz hu hp hb_ c0 c1 c2).2.1 hT) (zby_pf hB hT)
          · rw [if_neg c4]
            generalize hT : f_X6_putFragment MB MU al 3 bq ((z - zMod al z) - 7) = T
            obtain ⟨B1, a1⟩ := T
            exact ih _ _ _ _ _ (zapp_p1_at hz hp hq c0 c1 c2 c3 hT) (zapp_q1_at hz hp hq c0 c1 c2 c3 hT) (zapp_b_at hz hu hp hb_ c0 c1 c2) (zok_pf (zapp_room_at hz hp hq c0 c1 c2) (zapp_seg_at hz hu hp hb_ c0 c1 c2).2.1 hT) (zby_pf hB hT)
      · rw [if_neg c2]
        by_cases c4 : bq = 0
        · rw [if_pos c4]
          by_cases c5 : hb = 0
          · rw [if_pos c5]
            generalize hT : f_X6_putFragment MB MU al 1 bq (bs - bq) = T
            obtain ⟨B1, a1⟩ := T
            exact ih _ _ _ _ _ (zap_e hp c0) (zapp_q0_af hz hp hq c0 c1 c2 hT) (zapp_b_af hz hu hp hb_ c0 c1 c2) (zok_pf (zapp_room_af hz hp hq c0 c1 c2) (zapp_seg_af hz hu hp hb_ c0 c1 c2).2.1 hT) (zby_pf hB hT)
          · rw [if_neg c5]
            generalize hT : f_X6_putFragment MB MU al 4 bq (bs - bq) = T
            obtain ⟨B1, a1⟩ := T
            exact ih _ _ _ _ _ (zap_e hp c0) (zapp_q0_af hz hp hq c0 c1 c2 hT) (zapp_b_af hz hu hp hb_ c0 c1 c2) (zok_pf (zapp_room_af hz hp hq c0 c1 c2) (zapp_seg_af hz hu hp hb_ c0 c1 c2).2.1 hT) (zby_pf hB hT)
        · rw [if_neg c4]
          generalize hT : f_X6_putFragment MB MU al 4 bq (bs - bq) = T
          obtain ⟨B1, a1⟩ := T
          exact ih _ _ _ _ _ (zap_e hp c0) (zapp_q0_af hz hp hq c0 c1 c2 hT) (zapp_b_af hz hu hp hb_ c0 c1 c2) (zok_pf (zapp_room_af hz hp hq c0 c1 c2) (zapp_seg_af hz hu hp hb_ c0 c1 c2).2.1 hT) (zby_pf hB hT)
    · rw [if_neg c1]
      have hm0 := zlpp_al (MB := MB) (a := al) (z - zMod al z).toNatClampNeg
      have hB0 := zby_lpp (a := al) hB (z - zMod al z).toNatClampNeg
      generalize hTp : lpp_X6_append (MB, al) (z - zMod al z).toNatClampNeg = Tp at hm0 hB0 ⊢
      obtain ⟨Bp, ap⟩ := Tp
      have hm : ap = al + nI (z - zMod al z).toNatClampNeg := hm0
      have hBp : zby 4096 Bp := hB0
      dsimp only
      by_cases c2 : (z - 7) ≤ (bs - bq)
      · rw [if_pos c2]
        by_cases c3 : (z - 7) = (bs - bq)
        · rw [if_pos c3]
          by_cases c4 : bq = 0
          · rw [if_pos c4]
            by_cases c5 : hb = 0
            · rw [if_pos c5]
              generalize hT : f_X6_putFragment Bp MU ap 1 bq (z - 7) = T
              obtain ⟨B1, a1⟩ := T
              exact ih _ _ _ _ _ (zap_e hp c0) (zapp_q0_bt hz hp hq c0 c1 c2 hm rfl hT) (zapp_b_bt hz hu hp hb_ c0 c1 c2) (zok_pf (zapp_room_bt hz hp hq c0 c1 c2 hm rfl) (zapp_seg_bt hz hu hp hb_ c0 c1 c2).2.1 hT) (zby_pf hBp hT)
            · rw [if_neg c5]
              generalize hT : f_X6_putFragment Bp MU ap 4 bq (z - 7) = T
              obtain ⟨B1, a1⟩ := T
              exact ih _ _ _ _ _ (zap_e hp c0) (zapp_q0_bt hz hp hq c0 c1 c2 hm rfl hT) (zapp_b_bt hz hu hp hb_ c0 c1 c2) (zok_pf (zapp_room_bt hz hp hq c0 c1 c2 hm rfl) (zapp_seg_bt hz hu hp hb_ c0 c1 c2).2.1 hT) (zby_pf hBp hT)
          · rw [if_neg c4]
            generalize hT : f_X6_putFragment Bp MU ap 4 bq (z - 7) = T
            obtain ⟨B1, a1⟩ := T
            exact ih _ _ _ _ _ (zap_e hp c0) (zapp_q0_bt hz hp hq c0 c1 c2 hm rfl hT) (zapp_b_bt hz hu hp hb_ c0 c1 c2) (zok_pf (zapp_room_bt hz hp hq c0 c1 c2 hm rfl) (zapp_seg_bt hz hu hp hb_ c0 c1 c2).2.1 hT) (zby_pf hBp hT)
        · rw [if_neg c3]
          by_cases c4 : bq = 0
          · rw [if_pos c4]
            by_cases c5 : hb = 0
            · rw [if_pos c5]
              generalize hT : f_X6_putFragment Bp MU ap 2 bq (z - 7) = T
              obtain ⟨B1, a1⟩ := T
              exact ih _ _ _ _ _ (zapp_p1_bt hz hp hq c0 c1 c2 c3 hm rfl hT) (zapp_q1_bt hz hp hq c0 c1 c2 c3 hm rfl hT) (zapp_b_bt hz hu hp hb_ c0 c1 c2) (zok_pf (zapp_room_bt hz hp hq c0 c1 c2 hm rfl) (zapp_seg_bt hz hu hp hb_ c0 c1 c2).2.1 hT) (zby_pf hBp hT)
            · rw [if_neg c5]
              generalize hT : f_X6_putFragment Bp MU ap 3 bq (z - 7) = T
              obtain ⟨B1, a1⟩ := T
              exact ih _ _ _ _ _ (zapp_p1_bt hz hp hq c0 c1 c2 c3 hm rfl hT) (zapp_q1_bt hz hp hq c0 c1 c2 c3 hm rfl hT) (zapp_b_bt hz hu hp hb_ c0 c1 c2) (zok_pf (zapp_room_bt hz hp hq c0 c1 c2 hm rfl) (zapp_seg_bt hz hu hp hb_ c0 c1 c2).2.1 hT) (zby_pf hBp hT)
          · rw [if_neg c4]
            generalize hT : f_X6_putFragment Bp MU ap 3 bq (z - 7) = T
            obtain ⟨B1, a1⟩ := T
            exact ih _ _ _ _ _ (zapp_p1_bt hz hp hq c0 c1 c2 c3 hm rfl hT) (zapp_q1_bt hz hp hq c0 c1 c2 c3 hm rfl hT) (zapp_b_bt hz hu hp hb_ c0 c1 c2) (zok_pf (zapp_room_bt hz hp hq c0 c1 c2 hm rfl) (zapp_seg_bt hz hu hp hb_ c0 c1 c2).2.1 hT) (zby_pf hBp hT)
      · rw [if_neg c2]
        by_cases c4 : bq = 0
        · rw [if_pos c4]
          by_cases c5 : hb = 0
          · rw [if_pos c5]
            generalize hT : f_X6_putFragment Bp MU ap 1 bq (bs - bq) = T
            obtain ⟨B1, a1⟩ := T
            exact ih _ _ _ _ _ (zap_e hp c0) (zapp_q0_bf hz hp hq c0 c1 c2 hm rfl hT) (zapp_b_bf hz hu hp hb_ c0 c1 c2) (zok_pf (zapp_room_bf hz hp hq c0 c1 c2 hm rfl) (zapp_seg_bf hz hu hp hb_ c0 c1 c2).2.1 hT) (zby_pf hBp hT)
          · rw [if_neg c5]
            generalize hT : f_X6_putFragment Bp MU ap 4 bq (bs - bq) = T
            obtain ⟨B1, a1⟩ := T
            exact ih _ _ _ _ _ (zap_e hp c0) (zapp_q0_bf hz hp hq c0 c1 c2 hm rfl hT) (zapp_b_bf hz hu hp hb_ c0 c1 c2) (zok_pf (zapp_room_bf hz hp hq c0 c1 c2 hm rfl) (zapp_seg_bf hz hu hp hb_ c0 c1 c2).2.1 hT) (zby_pf hBp hT)
        · rw [if_neg c4]
          generalize hT : f_X6_putFragment Bp MU ap 4 bq (bs - bq) = T
          obtain ⟨B1, a1⟩ := T
          exact ih _ _ _ _ _ (zap_e hp c0) (zapp_q0_bf hz hp hq c0 c1 c2 hm rfl hT) (zapp_b_bf hz hu hp hb_ c0 c1 c2) (zok_pf (zapp_room_bf hz hp hq c0 c1 c2 hm rfl) (zapp_seg_bf hz hu hp hb_ c0 c1 c2).2.1 hT) (zby_pf hBp hT)
theorem sm_append {MB MU B1 : Nat → Int32} {z al bs hb r ft a1 h1 : Int32} (hz : zsz z) (ha : zok 4096 al) (hu : zok 400 bs) (hB : zby 4096 MB) (e : f_X6_append MB MU z al bs hb = (r, B1, ft, a1, h1)) : zby 4096 B1 ∧ zok 4096 a1 := by
  unfold f_X6_append at e
  split at e
  · next c =>
    have h := zapp_safe_lp (MU := MU) hz hu 1000 0 1 MB al hb (by rw [Int32.sub_zero]; exact zap_i hz ha hu) (by rw [Int32.sub_zero]; exact zapp_i rfl c) ⟨by decide, hu.1⟩ ha hB
    rw [e] at h
    exact h
  · cases e
    exact ⟨hB, ha⟩
theorem zbo0 : zbo 0 := by unfold zbo; rfl
theorem zbo1 : zbo 1 := by unfold zbo; rfl
theorem zbo_passes {lo v r l1 : Int32} (h : zbo lo) (e : f_X2_passesOver lo v = (r, l1)) : zbo l1 := by
  unfold f_X2_passesOver at e
  repeat' split at e
  all_goals cases e
  all_goals first | exact h | exact zbo0 | exact zbo1
theorem zfind_lp {F : Nat → Int32} {bg z m : Int32} (hm : zok 4096 m) : ∀ (n k : Nat) (pv : Int32) (Wf Yf Cf : Nat → Int32) (rp hf pl lo fp fb dm da cm : Int32), zok 4096 cm → zbo lo → zdok (k + 2 * n) dm → zok 4096 (lp_X2_findRecord F bg z m n pv Wf Yf Cf rp hf pl lo fp fb dm da cm).2.2.2.2.2.2.2.2.2.2.2.2 ∧ zbo (lp_X2_findRecord F bg z m n pv Wf Yf Cf rp hf pl lo fp fb dm da cm).2.2.2.2.2.2.2.1 ∧ zdok k (lp_X2_findRecord F bg z m n pv Wf Yf Cf rp hf pl lo fp fb dm da cm).2.2.2.2.2.2.2.2.2.2.1 := by
  intro n
  induction n with
  | zero =>
    intro k pv Wf Yf Cf rp hf pl lo fp fb dm da cm hc hl hd
    show zok 4096 (0 : Int32) ∧ zbo (0 : Int32) ∧ zdok k (0 : Int32)
    exact ⟨⟨by decide, by decide, by decide⟩, zbo0, ⟨by decide, by have := hd.1; have := hd.2; have o : (0 : Int32).toInt = 0 := rfl; omega⟩⟩
  | succ n ih =>
    intro k pv Wf Yf Cf rp hf pl lo fp fb dm da cm hc hl hd
    unfold lp_X2_findRecord
    split
    · generalize hT : f_X2_dropRecord cm = T
      obtain ⟨r3, h3, c3⟩ := T
      exact ⟨zok_X2_dropRecord hc hT, hl, zdok_le hd (by omega)⟩
    · generalize hT4 : f_X2_nextBit Wf Yf F pl bg fp fb dm da z m = T4
      obtain ⟨r4, W4, Y4, p4, f4, b4, d4, a4⟩ := T4
      have hd4 : zdok (k + 2 * n + 1) d4 := zdok_X2_nextBit (zdok_le hd (by omega)) hT4
      dsimp only
      split
      · generalize hT : f_X2_dropRecord cm = T
        obtain ⟨r3, h3, c3⟩ := T
        exact ⟨zok_X2_dropRecord hc hT, hl, zdok_le hd4 (by omega)⟩
      · split
        · generalize hT : f_X2_tear W4 Y4 rp hf d4 a4 cm = T
          obtain ⟨W5, Y5, r5, h5, d5, a5, c5⟩ := T
          exact ih _ _ _ _ _ _ _ _ _ _ _ _ _ _ (zok_X2_tear (zdok_le hd4 (by omega)) hc hT) hl (zdok_X2_tear hd4 hT)
        · generalize hT7 : f_X2_passesOver lo r4 = T7
          obtain ⟨r7, l7⟩ := T7
          have hl7 := zbo_passes hl hT7
          dsimp only
          split
          · generalize hT : f_X2_takeFragment W4 Y4 Cf F rp hf f4 b4 d4 a4 cm m r4 = T
            obtain ⟨r9, W9, Y9, C9, p9, h9, d9, a9, c9⟩ := T
            have hc9 := zok_X2_takeFragment (zdok_le hd4 (by omega)) hc hm hT
            have hd9 : zdok (k + 2 * n) d9 := zdok_X2_takeFragment hd4 hT
            dsimp only
            split
            · exact ih _ _ _ _ _ _ _ _ _ _ _ _ _ _ hc9 hl7 hd9
            · exact ⟨hc9, hl7, zdok_le hd9 (by omega)⟩
          · exact ih _ _ _ _ _ _ _ _ _ _ _ _ _ _ hc hl7 (zdok_le hd4 (by omega))
theorem sc_read {Wf Yf Cf F W1 Y1 C1 : Nat → Int32} {pl bg lo fp fb dm da cm z m r rp1 hf1 pl1 lo1 fp1 fb1 dm1 da1 cm1 : Int32} {k : Nat} (hm : zok 4096 m) (hc : zok 4096 cm) (hl : zbo lo) (hd : zdok (k + 8196) dm) (e : f_X5_read Wf Yf Cf F pl bg lo fp fb dm da cm z m = (r, W1, Y1, C1, rp1, hf1, pl1, lo1, fp1, fb1, dm1, da1, cm1)) : zok 4096 cm1 ∧ zbo lo1 ∧ zdok k dm1 := by
  unfold f_X5_read at e
  generalize hT : f_X2_findRecord Wf Yf Cf F pl bg lo fp fb dm da cm z m = T at e
  unfold f_X2_findRecord at hT
  generalize hT0 : f_X2_dropRecord cm = T0 at hT
  obtain ⟨r0, h0, c0⟩ := T0
  dsimp only at hT
  have h := zfind_lp (F := F) (bg := bg) (z := z) hm 4098 k 0 Wf Yf Cf r0 h0 pl lo fp fb dm da c0 (zok_X2_dropRecord hc hT0) hl (zdok_le hd (by omega))
  rw [hT] at h
  obtain ⟨r2, W2, Y2, C2, p2, h2, q2, l2, f2, b2, d2, a2, c2⟩ := T
  dsimp only at e h
  split at e <;> (cases e; exact h)
theorem zmread_lp {MB : Nat → Int32} {z al bg : Int32} (hz : zsz z) (ha : zok 4096 al) (hB : zby 4096 MB) : ∀ (n k : Nat) (mo : Int32) (MH MR MW MY : Nat → Int32) (pl lo hs hf hp rs rf to tb fr ln : Int32), zrd n mo pl → zpl pl → zdok (k + 2 * n) to → 0 ≤ hs.toInt ∧ hs.toInt ≤ pl.toInt ∧ hs.toInt ≤ 4096 → zrs rs → zpl (lp_X6_read MB z al bg n mo MH MR MW MY pl lo hs hf hp rs rf to tb fr ln).2.2.2.2.2.2.1 ∧ (0 ≤ ((lp_X6_read MB z al bg n mo MH MR MW MY pl lo hs hf hp rs rf to tb fr ln).2.2.2.2.2.2.2.2.1).toInt ∧ ((lp_X6_read MB z al bg n mo MH MR MW MY pl lo hs hf hp rs rf to tb fr ln).2.2.2.2.2.2.2.2.1).toInt ≤ ((lp_X6_read MB z al bg n mo MH MR MW MY pl lo hs hf hp rs rf to tb fr ln).2.2.2.2.2.2.1).toInt ∧ ((lp_X6_read MB z al bg n mo MH MR MW MY pl lo hs hf hp rs rf to tb fr ln).2.2.2.2.2.2.2.2.1).toInt ≤ 4096) ∧ zrs (lp_X6_read MB z al bg n mo MH MR MW MY pl lo hs hf hp rs rf to tb fr ln).2.2.2.2.2.2.2.2.2.2.2.1 ∧ zdok k (lp_X6_read MB z al bg n mo MH MR MW MY pl lo hs hf hp rs rf to tb fr ln).2.2.2.2.2.2.2.2.2.2.2.2.2.1 := by
  intro n
  induction n with
  | zero => intro k mo MH MR MW MY pl lo hs hf hp rs rf to tb fr ln hr; exact absurd (zrd_z hr) id
  | succ n ih =>
    intro k mo MH MR MW MY pl lo hs hf hp rs rf to tb fr ln hr hpl ht hh hrs
    unfold lp_X6_read
    by_cases c : mo = 0
    · rw [if_pos c]
      exact ⟨hpl, hh, hrs, zdok_le ht (by omega)⟩
    · rw [if_neg c]
      generalize hT2 : f_X6_fragment MB MW MY z al pl bg to tb fr ln = T2
      obtain ⟨r2, W2, Y2, p2, t2, b2, f2, l2⟩ := T2
      have hF := zfrag hz ha hB hpl hT2
      have ht2 : zdok (k + 2 * n + 1) t2 := zdok_X6_fragment (zdok_le ht (by omega)) hT2
      dsimp only
      generalize hT3 : f_X6_passOn MB MH MR W2 Y2 lo hs hf hp rs rf t2 b2 f2 l2 r2 = T3
      obtain ⟨r3, H3, R3, W3, Y3, lo3, hs3, hf3, hp3, rs3, rf3, to3, tb3⟩ := T3
      have hP := zpass (zdok_le ht2 (by omega)) (zpo_of hF hh) hT3
      have ht3 : zdok (k + 2 * n) to3 := zdok_X6_passOn ht2 hT3
      have hpl2 : zpl p2 := ⟨hF.1.1, hF.1.2.1⟩
      dsimp only
      by_cases c4 : r3 = 0
      · rw [if_pos c4]
        exact ih _ _ _ _ _ _ _ _ _ _ _ _ _ _ _ _ _ (zrd_s1 hr c hF hP c4) hpl2 ht3 (zrd_h hF hP hh) (hP.2.2 hrs)
      · rw [if_neg c4]
        exact ih _ _ _ _ _ _ _ _ _ _ _ _ _ _ _ _ _ (zrd_s0 hr c hF hP c4) hpl2 ht3 (zrd_h hF hP hh) (hP.2.2 hrs)
theorem sm_read {MB MH MR MW MY H1 R1 W1 Y1 : Nat → Int32} {z al pl bg lo hs hf hp to tb fr ln r ft pl1 lo1 hs1 hf1 hp1 rs1 rf1 to1 tb1 fr1 ln1 : Int32} {k : Nat} (hz : zsz z) (ha : zok 4096 al) (hB : zby 4096 MB) (hpl : zpl pl) (ht : zdok (k + 10020) to) (hh : 0 ≤ hs.toInt ∧ hs.toInt ≤ pl.toInt ∧ hs.toInt ≤ 4096) (e : f_X6_read MB MH MR MW MY z al pl bg lo hs hf hp to tb fr ln = (r, H1, R1, W1, Y1, ft, pl1, lo1, hs1, hf1, hp1, rs1, rf1, to1, tb1, fr1, ln1)) : zpl pl1 ∧ (0 ≤ hs1.toInt ∧ hs1.toInt ≤ pl1.toInt ∧ hs1.toInt ≤ 4096) ∧ zrs rs1 ∧ zdok k to1 := by
  unfold f_X6_read at e
  have h := zmread_lp (bg := bg) hz ha hB 5010 k 1 MH MR MW MY pl lo hs hf hp (-1) (-1) to tb fr ln (zrd_i hpl) hpl (zdok_le ht (by omega)) hh ⟨by decide, by decide⟩
  rw [e] at h
  exact h
theorem kpl1 (v z : Int32) : v - zMod v z = v / z * z := by
  unfold zMod
  rw [Int32.sub_eq_add_neg, Int32.sub_eq_add_neg, Int32.neg_add, Int32.sub_eq_add_neg, Int32.neg_neg, ← Int32.add_assoc, Int32.add_right_neg, Int32.zero_add]
theorem kpl3 (v z : Int32) : (v - zMod v z) + z = (v / z + 1) * z := by
  rw [kpl1, Int32.add_mul, Int32.one_mul]
theorem sc_beginAt (z v : Int32) : zbo (f_X2_beginAt z v).2.2.1 ∧ (f_X2_beginAt z v).2.2.2.1 = 0 := by
  unfold f_X2_beginAt
  repeat' split
  all_goals first | exact ⟨zbo0, rfl⟩ | exact ⟨zbo1, rfl⟩
theorem sm_beginAt {z v : Int32} (hz : zsz z) (hv : 0 ≤ v.toInt ∧ v.toInt ≤ 4096) : zpl (f_X6_beginAt z v).1 ∧ (f_X6_beginAt z v).2.2.2.1 = 0 ∧ (f_X6_beginAt z v).2.2.2.2.2.1 = -1 ∧ (f_X6_beginAt z v).2.2.2.2.2.2.2.1 = 0 := by
  have hp : zpl v := ⟨hv.1, by omega⟩
  have e1 := zfr_end hz hp
  have hm := zmodI hv.1 hz
  obtain ⟨z1, z2⟩ := hz
  have m1 : 0 ≤ v.toInt % z.toInt := Int.emod_nonneg _ (by omega)
  have m2 : v.toInt % z.toInt < z.toInt := Int.emod_lt_of_pos _ (by omega)
  have m3 : v.toInt % z.toInt ≤ v.toInt := by
    have q1 : v.toInt % z.toInt + z.toInt * (v.toInt / z.toInt) = v.toInt := by first | exact Int.emod_add_mul_ediv _ _ | exact Int.emod_add_ediv _ _
    have q2 := Int.mul_nonneg (show 0 ≤ z.toInt by omega) (Int.ediv_nonneg hv.1 (show 0 ≤ z.toInt by omega))
    omega
  have e0 : (v / z * z).toInt = v.toInt - v.toInt % z.toInt := by
    rw [← kpl1, zsub (by omega) (by omega), hm]
  have q0 : zpl (v / z * z) := ⟨by omega, by omega⟩
  have q1 : zpl ((v / z + 1) * z) := ⟨by omega, by omega⟩
  unfold f_X6_beginAt
  repeat' split
  all_goals first | exact ⟨q0, rfl, rfl, rfl⟩ | exact ⟨q1, rfl, rfl, rfl⟩
theorem zdok_0 {k : Nat} {x : Int32} (h : zdok k x) : zdok k 0 := ⟨by decide, by have := h.1; have := h.2; have o : (0 : Int32).toInt = 0 := rfl; omega⟩
theorem zhs_0 {pl : Int32} (h : zpl pl) : 0 ≤ (0 : Int32).toInt ∧ (0 : Int32).toInt ≤ pl.toInt ∧ (0 : Int32).toInt ≤ 4096 := ⟨by decide, h.1, by decide⟩
theorem zisIn_i {v lo hi : Int32} (c : ¬ f_X6_isIn v lo hi = 0) : lo.toInt ≤ v.toInt ∧ v.toInt ≤ hi.toInt := by
  obtain ⟨h1, h2⟩ := zisIn rfl c
  exact ⟨Int32.le_iff_toInt_le.mp h1, Int32.le_iff_toInt_le.mp h2⟩
theorem sc_clear {pl bg lo dm da z m v : Int32} (hx : x_X5_clear v = none) (hm : zok 4096 m) : zbo (f_X5_clear pl bg lo dm da z m v).2.2.1 ∧ (f_X5_clear pl bg lo dm da z m v).2.2.2.1 = 0 ∧ zsz (f_X5_clear pl bg lo dm da z m v).2.2.2.2.2.1 ∧ zok 4096 (f_X5_clear pl bg lo dm da z m v).2.2.2.2.2.2 := by
  unfold x_X5_clear at hx
  split at hx
  · exact nomatch hx
  · next c1 =>
    split at hx
    · next c2 =>
      have hs : f_X0_startAnew m v = (v, f_X3_shorten m 0) := rfl
      have hb := sc_beginAt v 0
      unfold f_X5_clear
      rw [if_neg c1, if_pos c2, hs]
      dsimp only
      generalize f_X2_beginAt v 0 = T at hb ⊢
      obtain ⟨t1, t2, t3, t4, t5⟩ := T
      exact ⟨hb.1, hb.2, zsz_of2 c1 c2, zok_X3_shorten hm rfl⟩
    · exact nomatch hx
theorem sc_feed {Bf : Nat → Int32} {bm v pa pb pc pd : Int32} (hg : zok 400 bm) : zok 400 (f_X5_feed Bf bm v pa pb pc pd).2.2 := by
  unfold f_X5_feed
  split
  · exact hg
  · split
    · split
      · exact hg
      · generalize h1 : f_X5_feedFrom Bf bm pa (zMin v 4) = T1
        obtain ⟨G1, m1⟩ := T1
        dsimp only
        generalize h2 : f_X5_feedFrom G1 m1 pb (zMin (v - 4) 4) = T2
        obtain ⟨G2, m2⟩ := T2
        dsimp only
        generalize h3 : f_X5_feedFrom G2 m2 pc (zMin (v - 8) 4) = T3
        obtain ⟨G3, m3⟩ := T3
        dsimp only
        generalize h4 : f_X5_feedFrom G3 m3 pd (zMin (v - 12) 4) = T4
        obtain ⟨G4, m4⟩ := T4
        exact zok_X5_feedFrom (zok_X5_feedFrom (zok_X5_feedFrom (zok_X5_feedFrom hg h1) h2) h3) h4
    · exact hg
theorem sc_erase {bm r b1 : Int32} (hg : zok 400 bm) (e : f_X5_erase bm = (r, b1)) : zok 400 b1 := by
  unfold f_X5_erase at e
  cases e
  exact zok_X3_shorten hg rfl
theorem sc_append {Bf F F1 : Nat → Int32} {bm z m r m1 : Int32} (hz : zsz z) (hm : zok 4096 m) (hg : zok 400 bm) (e : f_X5_append Bf F bm z m = (r, F1, m1)) : zok 4096 m1 := by
  unfold f_X5_append at e
  generalize hT : f_X0_addRecord F Bf z m bm = T at e
  obtain ⟨r1, F2, m2⟩ := T
  have h := zok_X0_addRecord hz hm hg hT
  dsimp only at e
  split at e <;> (cases e; exact h)
theorem sc_raw {Bf F : Nat → Int32} {bm m v : Int32} (hm : zok 4096 m) (hg : zok 400 bm) : zok 4096 (f_X5_raw Bf F bm m v).2.2 := by
  unfold f_X5_raw
  split
  · exact hm
  · generalize hT : f_X0_addFragment F Bf m bm v 0 bm = T
    obtain ⟨r1, F2, m2⟩ := T
    have h := zok_X0_addFragment hm hg hT
    dsimp only
    split <;> exact h
theorem sc_cut {pl bg lo dm da z m v : Int32} (hx : x_X5_cut m v = none) (hm : zok 4096 m) : zbo (f_X5_cut pl bg lo dm da z m v).2.2.2.1 ∧ (f_X5_cut pl bg lo dm da z m v).2.2.2.2.1 = 0 ∧ zok 4096 (f_X5_cut pl bg lo dm da z m v).2.2.2.2.2.2 := by
  unfold x_X5_cut at hx
  split at hx
  · exact nomatch hx
  · next c1 =>
    split at hx
    · next c2 =>
      have hb := sc_beginAt z 0
      unfold f_X5_cut
      rw [if_neg c1, if_pos c2]
      generalize f_X2_beginAt z 0 = T at hb ⊢
      obtain ⟨t1, t2, t3, t4, t5⟩ := T
      exact ⟨hb.1, hb.2, zok_X3_shorten hm rfl⟩
    · exact nomatch hx
theorem sc_begin {pl bg lo dm da z v : Int32} (hx : x_X5_begin v = none) : zbo (f_X5_begin pl bg lo dm da z v).2.2.2.1 ∧ (f_X5_begin pl bg lo dm da z v).2.2.2.2.1 = 0 := by
  unfold x_X5_begin at hx
  split at hx
  · exact nomatch hx
  · next c1 =>
    split at hx
    · next c2 =>
      have hb := sc_beginAt z v
      unfold f_X5_begin
      rw [if_neg c1, if_pos c2]
      generalize f_X2_beginAt z v = T at hb ⊢
      obtain ⟨t1, t2, t3, t4, t5⟩ := T
      exact hb
    · exact nomatch hx
section
variable {z al pl bg lo hs hf rs rf to tb v r ft z1 al1 pl1 bg1 lo1 hs1 hf1 rs1 rf1 to1 tb1 : Int32} {k : Nat}
theorem sm_clear (hz : zsz z) (ha : zok 4096 al) (hpl : zpl pl) (ht : zdok k to) (hh : 0 ≤ hs.toInt ∧ hs.toInt ≤ pl.toInt ∧ hs.toInt ≤ 4096) (hrs : zrs rs) (e : f_X6_clear z al pl bg lo hs hf rs rf to tb v = (ft, z1, al1, pl1, bg1, lo1, hs1, hf1, rs1, rf1, to1, tb1)) : zsz z1 ∧ zok 4096 al1 ∧ zpl pl1 ∧ zdok k to1 ∧ (0 ≤ hs1.toInt ∧ hs1.toInt ≤ pl1.toInt ∧ hs1.toInt ≤ 4096) ∧ zrs rs1 := by
  unfold f_X6_clear at e
  split at e
  · cases e
    exact ⟨hz, ha, hpl, ht, hh, hrs⟩
  · next c =>
    have hv := zisIn_i c
    have hzv : zsz v := hv
    have hb := sm_beginAt (z := v) (v := 0) hzv ⟨by decide, by decide⟩
    generalize f_X6_beginAt v 0 = T at hb e
    obtain ⟨t1, t2, t3, t4, t5, t6, t7, t8, t9⟩ := T
    obtain ⟨b1, b2, b3, b4⟩ := hb
    dsimp only at e b1 b2 b3 b4
    subst b2; subst b3; subst b4
    cases e
    exact ⟨hzv, ⟨by decide, by decide, by decide⟩, b1, zdok_0 ht, zhs_0 b1, ⟨by decide, by decide⟩⟩
theorem sm_cut (hz : zsz z) (ha : zok 4096 al) (hpl : zpl pl) (ht : zdok k to) (hh : 0 ≤ hs.toInt ∧ hs.toInt ≤ pl.toInt ∧ hs.toInt ≤ 4096) (hrs : zrs rs) (e : f_X6_cut z al pl bg lo hs hf rs rf to tb v = (r, ft, al1, pl1, bg1, lo1, hs1, hf1, rs1, rf1, to1, tb1)) : zok 4096 al1 ∧ zpl pl1 ∧ zdok k to1 ∧ (0 ≤ hs1.toInt ∧ hs1.toInt ≤ pl1.toInt ∧ hs1.toInt ≤ 4096) ∧ zrs rs1 := by
  unfold f_X6_cut at e
  split at e
  · cases e
    exact ⟨ha, hpl, ht, hh, hrs⟩
  · next c =>
    have hv := zisIn_i c
    have hb := sm_beginAt (v := 0) hz ⟨by decide, by decide⟩
    generalize f_X6_beginAt z 0 = T at hb e
    obtain ⟨t1, t2, t3, t4, t5, t6, t7, t8, t9⟩ := T
    obtain ⟨b1, b2, b3, b4⟩ := hb
    dsimp only at e b1 b2 b3 b4
    subst b2; subst b3; subst b4
    cases e
    exact ⟨⟨hv.1, Int.le_trans hv.2 ha.2.1, by decide⟩, b1, zdok_0 ht, zhs_0 b1, ⟨by decide, by decide⟩⟩
theorem sm_begin (hz : zsz z) (hpl : zpl pl) (ht : zdok k to) (hh : 0 ≤ hs.toInt ∧ hs.toInt ≤ pl.toInt ∧ hs.toInt ≤ 4096) (hrs : zrs rs) (e : f_X6_begin z pl bg lo hs hf rs rf to tb v = (r, ft, pl1, bg1, lo1, hs1, hf1, rs1, rf1, to1, tb1)) : zpl pl1 ∧ zdok k to1 ∧ (0 ≤ hs1.toInt ∧ hs1.toInt ≤ pl1.toInt ∧ hs1.toInt ≤ 4096) ∧ zrs rs1 := by
  unfold f_X6_begin at e
  split at e
  · cases e
    exact ⟨hpl, ht, hh, hrs⟩
  · next c =>
    have hv := zisIn_i c
    have hb := sm_beginAt (v := v) hz hv
    generalize f_X6_beginAt z v = T at hb e
    obtain ⟨t1, t2, t3, t4, t5, t6, t7, t8, t9⟩ := T
    obtain ⟨b1, b2, b3, b4⟩ := hb
    dsimp only at e b1 b2 b3 b4
    subst b2; subst b3; subst b4
    cases e
    exact ⟨b1, zdok_0 ht, zhs_0 b1, ⟨by decide, by decide⟩⟩
end
theorem sm_feed {MU U1 : Nat → Int32} {bs v pa pb pc pd r ft b1 : Int32} (hu : zok 400 bs) (e : f_X6_feed MU bs v pa pb pc pd = (r, U1, ft, b1)) : zok 400 b1 := by
  unfold f_X6_feed at e
  split at e
  · cases e; exact hu
  · next c =>
    split at e
    · next c2 =>
      have hr := zfeed_room hu rfl c c2
      have hm := zmf_lp (pa := pa) (pb := pb) (pc := pc) (pd := pd) (U := MU) (m := bs) v.toNatClampNeg
      generalize lp_X6_feed pa pb pc pd (MU, bs) v.toNatClampNeg = T at e hm
      obtain ⟨U2, b2⟩ := T
      dsimp only at e hm
      cases e
      rw [hm]
      exact zroom_ok (zroom_nI hr (Nat.le_refl _))
    · cases e; exact hu
theorem sm_raw {MB MU B1 : Nat → Int32} {al bs v r ft a1 : Int32} (ha : zok 4096 al) (hu : zok 400 bs) (hB : zby 4096 MB) (e : f_X6_raw MB MU al bs v = (r, B1, ft, a1)) : zby 4096 B1 ∧ zok 4096 a1 := by
  unfold f_X6_raw at e
  split at e
  · cases e; exact ⟨hB, ha⟩
  · split at e
    · next c2 =>
      generalize hT : f_X6_putFragment MB MU al v 0 bs = T at e
      obtain ⟨B2, a2⟩ := T
      dsimp only at e
      cases e
      exact ⟨zby_pf hB hT, zok_pf (zraw_room ha hu c2) hu.1 hT⟩
    · cases e; exact ⟨hB, ha⟩
theorem sm_put {MB B1 : Nat → Int32} {al v x r ft : Int32} (hB : zby 4096 MB) (e : f_X6_put_ MB al v x = (r, B1, ft)) : zby 4096 B1 := by
  unfold f_X6_put_ at e
  split at e
  · cases e; exact hB
  · split at e
    · cases e; exact hB
    · next c =>
      cases e
      exact zby_upd hB (zisIn_i c)
