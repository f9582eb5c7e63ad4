/-! what the model's take, start and fragment leave -/
theorem ztake_lp {MB : Nat → Int32} {fr : Int32} {MH : Nat → Int32} {hs : Int32} : ∀ i, (lp_X6_take MB fr (MH, hs) i).2 = hs + nI i := by
  intro i
  induction i with
  | zero => exact zpad_0 hs
  | succ i ih =>
    show (b_X6_take MB fr (nI i) (lp_X6_take MB fr (MH, hs) i)).2 = _
    generalize lp_X6_take MB fr (MH, hs) i = T at ih ⊢
    obtain ⟨B, m⟩ := T
    exact zpad_s ih
theorem ztake {MB MH H1 : Nat → Int32} {hs fr ln s1 : Int32} (hl : 0 ≤ ln.toInt) (e : f_X6_take MB MH hs fr ln = (H1, s1)) : s1 = hs + ln := by
  unfold f_X6_take at e
  split at e
  next H2 s2 e2 =>
  cases e
  have h := ztake_lp (MB := MB) (fr := fr) (MH := MH) (hs := hs) ln.toNatClampNeg
  rw [e2, znI_clamp hl] at h
  exact h
theorem zok_X6_take {MB MH H1 : Nat → Int32} {hs fr ln s1 : Int32} (hl : zroom 4096 (ln.toNatClampNeg) hs) (hs' : zseg 4096 (fr + 7) ln) (e : f_X6_take MB MH hs fr ln = (H1, s1)) : zok 4096 s1 := by
  obtain ⟨a, b, c⟩ := hl
  have hc := zclamp hs'.2.1
  rw [ztake hs'.2.1 e]
  have := hs'.2.1
  refine ⟨?_, ?_, c⟩ <;> rw [zadd] <;> omega
theorem zstart {MB MH MW MY H1 W1 Y1 : Nat → Int32} {hs hf to tb fr ln s1 h1 p1 t1 b1 : Int32} (hl : 0 ≤ ln.toInt) (e : f_X6_start MB MH MW MY hs hf to tb fr ln = (H1, W1, Y1, s1, h1, p1, t1, b1)) : s1 = 0 + ln := by
  unfold f_X6_start at e
  split at e
  · split at e
    next e1 => cases e; exact ztake hl e1
  · split at e
    · split at e
      next e1 => cases e; exact ztake hl e1
    · split at e
      split at e
      next e1 => cases e; exact ztake hl e1
theorem zok_X6_start {MB MH MW MY H1 W1 Y1 : Nat → Int32} {hs hf to tb fr ln s1 h1 p1 t1 b1 : Int32} (_ : zdok 1 to) (hl : zroom 4096 (ln.toNatClampNeg) 0) (hs' : zseg 4096 (fr + 7) ln) (e : f_X6_start MB MH MW MY hs hf to tb fr ln = (H1, W1, Y1, s1, h1, p1, t1, b1)) : zok 4096 s1 := by
  obtain ⟨a, b, c⟩ := hl
  have hc := zclamp hs'.2.1
  rw [zstart hs'.2.1 e]
  have := hs'.2.1
  have o : (0 : Int32).toInt = 0 := rfl
  refine ⟨?_, ?_, c⟩ <;> rw [zadd] <;> omega
theorem zdok_X6_start {k : Nat} {MB MH MW MY H1 W1 Y1 : Nat → Int32} {hs hf to tb fr ln s1 h1 p1 t1 b1 : Int32} (h : zdok (k + 1) to) (e : f_X6_start MB MH MW MY hs hf to tb fr ln = (H1, W1, Y1, s1, h1, p1, t1, b1)) : zdok k t1 := by
  unfold f_X6_start at e
  split at e
  · split at e
    cases e; exact zdok_le h (by omega)
  · split at e
    · split at e
      cases e; exact zdok_le h (by omega)
    · split at e
      next e1 =>
      split at e
      cases e; exact zdok_X6_tell h e1
/-- a fragment's answer: END, or the place went on by 7 or more, and where it is a kind, the fragment lies within the log -/
def zfrQ (pl r p1 f1 l1 : Int32) : Prop := (0 ≤ p1.toInt ∧ p1.toInt ≤ 5000 ∧ pl.toInt ≤ p1.toInt) ∧ (r = -1 ∨ (pl.toInt + 7 ≤ p1.toInt ∧ p1.toInt ≤ 4096 ∧ (r = -2 ∨ (0 ≤ r.toInt ∧ 0 ≤ l1.toInt ∧ pl.toInt ≤ f1.toInt ∧ f1.toInt + 7 + l1.toInt = p1.toInt))))
section
variable {MB MW MY : Nat → Int32} {z al bg to tb fr ln : Int32}
theorem zfrQ_brk {n : Nat} {iw en pl f1 l1 : Int32} (ha : zok 4096 al) (hp : zfr z al n iw en pl) (g : 7 ≤ (en - pl)) : zfrQ pl (-2) en f1 l1 := by
  obtain ⟨h1, h2, h3⟩ := zfr_7 ha hp g
  exact ⟨⟨by omega, by omega, by omega⟩, Or.inr ⟨by omega, by omega, Or.inl rfl⟩⟩
theorem zfrQ_go {n : Nat} {iw en pl l1 r : Int32} (ha : zok 4096 al) (hp : zfr z al n iw en pl) (g : 7 ≤ (en - pl)) (hl : 0 ≤ l1.toInt ∧ l1.toInt ≤ 65535) (c : (7 + l1) ≤ (en - pl)) (hr : r = -2 ∨ 0 ≤ r.toInt) : zfrQ pl r ((pl + 7) + l1) pl l1 := by
  obtain ⟨h1, h2, h3⟩ := zfr_7 ha hp g
  have e := zfr_sub ha hp
  have o7 : (7 : Int32).toInt = 7 := rfl
  have e7 : (7 + l1).toInt = 7 + l1.toInt := by rw [zadd] <;> rw [o7] <;> omega
  have e8 : (pl + 7).toInt = pl.toInt + 7 := by rw [zadd] <;> rw [o7] <;> omega
  simp only [Int32.le_iff_toInt_le] at c
  have e9 : ((pl + 7) + l1).toInt = pl.toInt + 7 + l1.toInt := by rw [zadd] <;> rw [e8] <;> omega
  refine ⟨⟨by omega, by omega, by omega⟩, Or.inr ⟨by omega, by omega, ?_⟩⟩
  rcases hr with h | h
  · exact Or.inl h
  · exact Or.inr ⟨h, hl.1, by omega, by omega⟩
theorem zfrQ_end {n : Nat} {iw en pl f1 l1 : Int32} (hp : zfr z al n iw en pl) : zfrQ pl (-1) pl f1 l1 := by
  obtain ⟨_, h1, h2, h3, h4, _⟩ := hp
  exact ⟨⟨h3, h4, by omega⟩, Or.inl rfl⟩
theorem zfrag_lp (hz : zsz z) (ha : zok 4096 al) (hB : zby 4096 MB) : ∀ (n : Nat) (iw en pl : Int32), zfr z al n iw en pl → zfrQ pl (lp_X6_fragment MB MW MY z al bg to tb fr ln n iw en pl).1 (lp_X6_fragment MB MW MY z al bg to tb fr ln n iw en pl).2.2.2.1 (lp_X6_fragment MB MW MY z al bg to tb fr ln n iw en pl).2.2.2.2.2.2.1 (lp_X6_fragment MB MW MY z al bg to tb fr ln n iw en pl).2.2.2.2.2.2.2 := by
  intro n
  induction n with
  | zero => intro iw en pl h; exact absurd (zfr_z h) id
  | succ n ih =>
    intro iw en pl h
    unfold lp_X6_fragment
    split
    · next g =>
      have hl := zfr_ln ha hB h g
      have hk := (zby_at hB (zfr_in6 ha h g)).1
      split
      · next c =>
        split
        · split
          · exact zfrQ_brk ha h g
          · split
            · split
              · exact zfrQ_go ha h g hl c (Or.inr hk)
              · exact zfrQ_go ha h g hl c (Or.inl rfl)
            · split
              exact zfrQ_brk ha h g
        · split
          · split
            · exact zfrQ_go ha h g hl c (Or.inr hk)
            · exact zfrQ_go ha h g hl c (Or.inl rfl)
          · split
            exact zfrQ_brk ha h g
      · split
        · exact zfrQ_end h
        · split
          exact zfrQ_brk ha h g
    · next g =>
      split
      · exact zfrQ_end h
      · next w =>
        have hle : pl.toInt ≤ en.toInt := by
          obtain ⟨_, _, _, _, _, q⟩ := h
          rcases q with q | q
          · exact absurd q w
          · exact q
        split
        · next k =>
          obtain ⟨⟨a1, a2, a3⟩, a4⟩ := ih _ _ _ (zfr_back0 hz ha h g w k)
          refine ⟨⟨a1, a2, by omega⟩, ?_⟩
          rcases a4 with q | ⟨q1, q2, q3⟩
          · exact Or.inl q
          · refine Or.inr ⟨by omega, q2, ?_⟩
            rcases q3 with q | ⟨q4, q5, q6, q7⟩
            · exact Or.inl q
            · exact Or.inr ⟨q4, q5, by omega, q7⟩
        · next k =>
          obtain ⟨⟨a1, a2, a3⟩, a4⟩ := ih _ _ _ (zfr_back1 hz ha h g w k)
          refine ⟨⟨a1, a2, by omega⟩, ?_⟩
          rcases a4 with q | ⟨q1, q2, q3⟩
          · exact Or.inl q
          · refine Or.inr ⟨by omega, q2, ?_⟩
            rcases q3 with q | ⟨q4, q5, q6, q7⟩
            · exact Or.inl q
            · exact Or.inr ⟨q4, q5, by omega, q7⟩
theorem zfrag {W1 Y1 : Nat → Int32} {pl r p1 t1 b1 f1 l1 : Int32} (hz : zsz z) (ha : zok 4096 al) (hB : zby 4096 MB) (hpl : zpl pl) (e : f_X6_fragment MB MW MY z al pl bg to tb fr ln = (r, W1, Y1, p1, t1, b1, f1, l1)) : zfrQ pl r p1 f1 l1 := by
  unfold f_X6_fragment at e
  split at e
  · next c =>
    have h := zfrag_lp (MW := MW) (MY := MY) (bg := bg) (to := to) (tb := tb) (fr := fr) (ln := ln) hz ha hB 4 _ _ _ (zfr_init0 hz ha hpl c)
    rw [e] at h
    exact h
  · next c =>
    have h := zfrag_lp (MW := MW) (MY := MY) (bg := bg) (to := to) (tb := tb) (fr := fr) (ln := ln) hz ha hB 4 _ _ _ (zfr_init1 hz ha hpl c)
    rw [e] at h
    exact h
end
/-- what passing a kind on asks for -/
def zpo (v fr ln hs : Int32) : Prop := (0 ≤ hs.toInt ∧ hs.toInt ≤ 4096) ∧ (v = -1 ∨ v = -2 ∨ (zseg 4096 (fr + 7) ln ∧ zroom 4096 (ln.toNatClampNeg) hs ∧ zroom 4096 (ln.toNatClampNeg) 0))
section
variable {v fr ln hs : Int32}
theorem zpo_3 (h : zpo v fr ln hs) (c1 : ¬ v = -1) (c2 : ¬ v = -2) : zseg 4096 (fr + 7) ln ∧ zroom 4096 (ln.toNatClampNeg) hs ∧ zroom 4096 (ln.toNatClampNeg) 0 := by
  rcases h.2 with h | h | h
  · exact absurd h c1
  · exact absurd h c2
  · exact h
theorem zpo_of {pl p1 : Int32} (h : zfrQ pl v p1 fr ln) (h0 : 0 ≤ hs.toInt ∧ hs.toInt ≤ pl.toInt ∧ hs.toInt ≤ 4096) : zpo v fr ln hs := by
  refine ⟨⟨h0.1, h0.2.2⟩, ?_⟩
  rcases h.2 with h | ⟨a1, a2, h | ⟨a3, a4, a5, a6⟩⟩
  · exact Or.inl h
  · exact Or.inr (Or.inl h)
  · have hc := zclamp a4
    have o7 : (7 : Int32).toInt = 7 := rfl
    have o0 : (0 : Int32).toInt = 0 := rfl
    have e7 : (fr + 7).toInt = fr.toInt + 7 := by rw [zadd] <;> rw [o7] <;> omega
    exact Or.inr (Or.inr ⟨⟨by omega, a4, by omega, by decide⟩, ⟨h0.1, by omega, by decide⟩, ⟨by omega, by omega, by decide⟩⟩)
end
