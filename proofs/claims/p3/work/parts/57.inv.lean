/-! what holds before each call -/
theorem qisIn0 {v lo hi : Int32} (h : ¬ (lo ≤ v ∧ v ≤ hi)) : f_X6_isIn v lo hi = 0 := by
  unfold f_X6_isIn
  split
  · rfl
  · next c1 =>
    split
    · rfl
    · next c2 =>
      exact absurd ⟨Int32.not_lt.mp c1, Int32.not_lt.mp c2⟩ h
theorem qisIn1 {v lo hi : Int32} (h1 : lo ≤ v) (h2 : v ≤ hi) : ¬ f_X6_isIn v lo hi = 0 := by
  unfold f_X6_isIn
  rw [if_neg (Int32.not_lt.mpr h1), if_neg (Int32.not_lt.mpr h2)]
  decide
theorem qx_clear0 {v : Int32} (hx : x_X5_clear v = none) : ¬ v < 16 ∧ v ≤ 512 := by
  unfold x_X5_clear at hx
  split at hx
  · exact nomatch hx
  · next c1 =>
    split at hx
    · next c2 => exact ⟨c1, c2⟩
    · exact nomatch hx
theorem qx_clear1 {v : Int32} (hx : x_X5_clear v = some zIAE) : f_X6_isIn v 16 512 = 0 := by
  unfold x_X5_clear at hx
  split at hx
  · next c => exact qisIn0 (fun q => absurd c (Int32.not_lt.mpr q.1))
  · split at hx
    · exact nomatch hx
    · next c2 => exact qisIn0 (fun q => c2 q.2)
theorem qx_feed0 {bm v : Int32} (hb : zok 400 bm) (hx : x_X5_feed bm v = none) : ¬ v < 0 ∧ v ≤ 16 ∧ ¬ f_X3_hasRoomFor 400 bm v = 0 ∧ (0 ≤ v.toInt ∧ v.toInt ≤ 16) ∧ bm.toInt + v.toInt ≤ 400 := by
  unfold x_X5_feed at hx
  split at hx
  · exact nomatch hx
  · next c =>
    split at hx
    · next c2 =>
      split at hx
      · exact nomatch hx
      · next c3 =>
        have hv : 0 ≤ v.toInt ∧ v.toInt ≤ 16 := by
          simp only [Int32.lt_iff_toInt_lt, Int32.le_iff_toInt_le] at c c2
          have o0 : (0 : Int32).toInt = 0 := rfl
          have o16 : (16 : Int32).toInt = 16 := rfl
          omega
        have h := zhr_room (N := 400) hb (v := v) ⟨hv.1, by omega⟩
        exact ⟨c, c2, c3, hv, Int.not_lt.mp (fun q => c3 (h.mpr q))⟩
    · exact nomatch hx
theorem qx_feed1 {bm v : Int32} (hx : x_X5_feed bm v = some zIAE) : f_X6_isIn v 0 16 = 0 := by
  unfold x_X5_feed at hx
  split at hx
  · next c => exact qisIn0 (fun q => absurd c (Int32.not_lt.mpr q.1))
  · split at hx
    · split at hx
      · exact absurd (Option.some.inj hx) (by decide)
      · exact nomatch hx
    · next c2 => exact qisIn0 (fun q => c2 q.2)
theorem qx_feed2 {bm v : Int32} (hb : zok 400 bm) (hx : x_X5_feed bm v = some zISE) : ¬ f_X6_isIn v 0 16 = 0 ∧ ¬ bm + v ≤ 400 := by
  unfold x_X5_feed at hx
  split at hx
  · exact absurd (Option.some.inj hx) (by decide)
  · next c =>
    split at hx
    · next c2 =>
      split at hx
      · next c3 =>
        have hv : 0 ≤ v.toInt ∧ v.toInt ≤ 16 := by
          simp only [Int32.lt_iff_toInt_lt, Int32.le_iff_toInt_le] at c c2
          have o0 : (0 : Int32).toInt = 0 := rfl
          have o16 : (16 : Int32).toInt = 16 := rfl
          omega
        have h := (zhr_room (N := 400) hb (v := v) ⟨hv.1, by omega⟩).mp c3
        refine ⟨qisIn1 (Int32.not_lt.mp c) c2, fun q => ?_⟩
        obtain ⟨b1, b2, b3⟩ := hb
        have o4 : (400 : Int32).toInt = 400 := rfl
        rw [Int32.le_iff_toInt_le, zadd (by omega) (by omega), o4] at q
        omega
      · exact nomatch hx
    · exact absurd (Option.some.inj hx) (by decide)
theorem q_feed0 {Bf MU U1 : Nat → Int32} {bm bs v pa pb pc pd r ft b1 : Int32} (hb : zok 400 bm) (h : bm = bs) (hx : x_X5_feed bm v = none) (e : f_X6_feed MU bs v pa pb pc pd = (r, U1, ft, b1)) : (f_X5_feed Bf bm v pa pb pc pd).1 = r ∧ (f_X5_feed Bf bm v pa pb pc pd).2.2 = b1 ∧ ft = 0 := by
  subst h
  obtain ⟨h3, h4, h5, hv, hr⟩ := qx_feed0 hb hx
  obtain ⟨g1, g2, g3⟩ := hb
  have h1 : ¬ f_X6_isIn v 0 16 = 0 := qisIn1 (Int32.not_lt.mp h3) h4
  have h2 : bm + v ≤ 400 := by
    have o4 : (400 : Int32).toInt = 400 := rfl
    rw [Int32.le_iff_toInt_le, zadd (by omega) (by omega), o4]
    omega
  have hc := zclamp hv.1
  unfold f_X6_feed at e
  rw [if_neg h1, if_pos h2] at e
  unfold f_X5_feed
  rw [if_neg h3, if_pos h4, if_neg h5]
  have e0 : v = nI v.toNatClampNeg := (znI_clamp hv.1).symm
  have em := zmf_lp (pa := pa) (pb := pb) (pc := pc) (pd := pd) (U := MU) (m := bm) v.toNatClampNeg
  generalize hT : lp_X6_feed pa pb pc pd (MU, bm) v.toNatClampNeg = T at em e
  obtain ⟨U2, n1⟩ := T
  dsimp only at e em
  cases e
  generalize hk : v.toNatClampNeg = k at *
  subst e0
  generalize hT1 : f_X5_feedFrom Bf bm pa (zMin (nI k) 4) = T1
  obtain ⟨G1, m1⟩ := T1
  dsimp only
  generalize hT2 : f_X5_feedFrom G1 m1 pb (zMin (nI k - 4) 4) = T2
  obtain ⟨G2, m2⟩ := T2
  dsimp only
  generalize hT3 : f_X5_feedFrom G2 m2 pc (zMin (nI k - 8) 4) = T3
  obtain ⟨G3, m3⟩ := T3
  dsimp only
  generalize hT4 : f_X5_feedFrom G3 m3 pd (zMin (nI k - 12) 4) = T4
  obtain ⟨G4, m4⟩ := T4
  dsimp only
  have := zfeed_m (k := k) (by omega) ⟨g1, by omega, by decide⟩ hT1 hT2 hT3 hT4
  rw [this, em]
  exact ⟨rfl, rfl, rfl⟩
section
variable {Bf MU U1 : Nat → Int32} {bm bs v pa pb pc pd r ft b1 : Int32}
theorem rb_feed_0 (hb : zok 400 bm) (_ : zok 400 bs) (h : bm = bs) (hx : x_X5_feed bm v = none) (e : f_X6_feed MU bs v pa pb pc pd = (r, U1, ft, b1)) : (f_X5_feed Bf bm v pa pb pc pd).2.2 = b1 := (q_feed0 hb h hx e).2.1
theorem rb_feed_1 (_ : zok 400 bm) (_ : zok 400 bs) (h : bm = bs) (hx : x_X5_feed bm v = some zIAE) (e : f_X6_feed MU bs v pa pb pc pd = (r, U1, ft, b1)) : bm = b1 := by
  unfold f_X6_feed at e
  rw [if_pos (qx_feed1 hx)] at e
  cases e
  exact h
theorem rb_feed_2 (hb : zok 400 bm) (_ : zok 400 bs) (h : bm = bs) (hx : x_X5_feed bm v = some zISE) (e : f_X6_feed MU bs v pa pb pc pd = (r, U1, ft, b1)) : bm = b1 := by
  subst h
  obtain ⟨c1, c2⟩ := qx_feed2 hb hx
  unfold f_X6_feed at e
  rw [if_neg c1, if_neg c2] at e
  cases e
  rfl
theorem qshort0 {N : Nat} {m : Int32} (hm : zok N m) : f_X3_shorten m 0 = 0 := by
  unfold f_X3_shorten
  rw [if_neg (by decide)]
  split
  · next c =>
    obtain ⟨h1, h2, h3⟩ := hm
    have o0 : (0 : Int32).toInt = 0 := rfl
    rw [Int32.le_iff_toInt_le, o0] at c
    exact Int32.toInt_inj.mp (by omega)
  · rfl
theorem rb_erase (hb : zok 400 bm) (_ : zok 400 bs) (_ : bm = bs) (e : f_X5_erase bm = (r, b1)) : b1 = 0 := by
  unfold f_X5_erase at e
  cases e
  exact qshort0 hb
end
section
variable {Bf MU U1 : Nat → Int32} {bm bs v pa pb pc pd r ft b1 : Int32}
theorem qt_feed_0 (h : bm = bs) (hb : zok 400 bm) (_ : zok 400 bs) (hx : x_X5_feed bm v = none) (e : f_X6_feed MU bs v pa pb pc pd = (r, U1, ft, b1)) : ft = 0 := (q_feed0 (Bf := MU) hb h hx e).2.2
theorem qt_feed_1 (_ : bm = bs) (_ : zok 400 bm) (_ : zok 400 bs) (hx : x_X5_feed bm v = some zIAE) (e : f_X6_feed MU bs v pa pb pc pd = (r, U1, ft, b1)) : ft = 1 := by
  unfold f_X6_feed at e
  rw [if_pos (qx_feed1 hx)] at e
  cases e
  rfl
theorem qt_feed_2 (h : bm = bs) (hb : zok 400 bm) (_ : zok 400 bs) (hx : x_X5_feed bm v = some zISE) (e : f_X6_feed MU bs v pa pb pc pd = (r, U1, ft, b1)) : ft = 2 := by
  subst h
  obtain ⟨c1, c2⟩ := qx_feed2 hb hx
  unfold f_X6_feed at e
  rw [if_neg c1, if_neg c2] at e
  cases e
  rfl
theorem qr_feed (h : bm = bs) (hb : zok 400 bm) (_ : zok 400 bs) (hx : x_X5_feed bm v = none) (e : f_X6_feed MU bs v pa pb pc pd = (r, U1, ft, b1)) : (f_X5_feed Bf bm v pa pb pc pd).1 = r := (q_feed0 hb h hx e).1
end
def zInv (n : Nat) (Bf : Nat → Int32) (Wf : Nat → Int32) (Yf : Nat → Int32) (Cf : Nat → Int32) (F : Nat → Int32) (MB : Nat → Int32) (MU : Nat → Int32) (MH : Nat → Int32) (MR : Nat → Int32) (MW : Nat → Int32) (MY : Nat → Int32) (bm : Int32) (rp : Int32) (hf : Int32) (pl : Int32) (bg : Int32) (lo : Int32) (fp : Int32) (fb : Int32) (dm : Int32) (da : Int32) (cm : Int32) (z : Int32) (m : Int32) (Mft : Int32) (Msz : Int32) (Mal : Int32) (Mbs : Int32) (Mpl : Int32) (Mbg : Int32) (Mlo : Int32) (Mhs : Int32) (Mhf : Int32) (Mhp : Int32) (Mrs : Int32) (Mrf : Int32) (Mto : Int32) (Mtb : Int32) (Mfr : Int32) (Mln : Int32) (Mhb : Int32) : Prop := zok 400 bm ∧ zok 4096 m ∧ zok 4096 cm ∧ zsz z ∧ zbo lo ∧ zdok (8196 * (512 - n)) dm ∧ zsz Msz ∧ zok 4096 Mal ∧ zok 400 Mbs ∧ zby 4096 MB ∧ zpl Mpl ∧ zdok (10020 * (512 - n)) Mto ∧ (0 ≤ Mhs.toInt ∧ Mhs.toInt ≤ Mpl.toInt ∧ Mhs.toInt ≤ 4096) ∧ zrs Mrs ∧ bm = Mbs
theorem zdok_eq {k : Nat} {x y : Int32} (e : x = 0) (h : zdok k y) : zdok k x := by
  rw [e]
  exact zdok_0 h
theorem zInv_0 : zInv 0 (fun _ => 0) (fun _ => 0) (fun _ => 0) (fun _ => 0) (fun _ => 0) (fun _ => 0) (fun _ => 0) (fun _ => 0) (fun _ => 0) (fun _ => 0) (fun _ => 0) 0 (-1) 0 0 0 0 0 0 0 0 0 64 0 0 64 0 0 0 0 0 0 0 0 (-1) (-1) 0 0 0 0 0 := ⟨⟨by decide, by decide, by decide⟩, ⟨by decide, by decide, by decide⟩, ⟨by decide, by decide, by decide⟩, ⟨by decide, by decide⟩, rfl, ⟨by decide, by decide⟩, ⟨by decide, by decide⟩, ⟨by decide, by decide, by decide⟩, ⟨by decide, by decide, by decide⟩, (fun _ _ => ⟨(by show 0 ≤ (0 : Int32).toInt; decide), (by show (0 : Int32).toInt ≤ 255; decide)⟩), ⟨by decide, by decide⟩, ⟨by decide, by decide⟩, ⟨by decide, by decide, by decide⟩, ⟨by decide, by decide⟩, rfl⟩
theorem zI_bm {n : Nat} {Bf Wf Yf Cf F MB MU MH MR MW MY : Nat → Int32} {bm rp hf pl bg lo fp fb dm da cm z m Mft Msz Mal Mbs Mpl Mbg Mlo Mhs Mhf Mhp Mrs Mrf Mto Mtb Mfr Mln Mhb : Int32} (hI : (zInv n Bf Wf Yf Cf F MB MU MH MR MW MY bm rp hf pl bg lo fp fb dm da cm z m Mft Msz Mal Mbs Mpl Mbg Mlo Mhs Mhf Mhp Mrs Mrf Mto Mtb Mfr Mln Mhb)) : zok 400 bm := by
  obtain ⟨h_b, h_m, h_c, h_z, h_l, h_d, h_Z, h_A, h_B, h_Y, h_P, h_T, h_H, h_R, h_rb⟩ := hI
  exact h_b
theorem zI_m {n : Nat} {Bf Wf Yf Cf F MB MU MH MR MW MY : Nat → Int32} {bm rp hf pl bg lo fp fb dm da cm z m Mft Msz Mal Mbs Mpl Mbg Mlo Mhs Mhf Mhp Mrs Mrf Mto Mtb Mfr Mln Mhb : Int32} (hI : (zInv n Bf Wf Yf Cf F MB MU MH MR MW MY bm rp hf pl bg lo fp fb dm da cm z m Mft Msz Mal Mbs Mpl Mbg Mlo Mhs Mhf Mhp Mrs Mrf Mto Mtb Mfr Mln Mhb)) : zok 4096 m := by
  obtain ⟨h_b, h_m, h_c, h_z, h_l, h_d, h_Z, h_A, h_B, h_Y, h_P, h_T, h_H, h_R, h_rb⟩ := hI
  exact h_m
theorem zI_cm {n : Nat} {Bf Wf Yf Cf F MB MU MH MR MW MY : Nat → Int32} {bm rp hf pl bg lo fp fb dm da cm z m Mft Msz Mal Mbs Mpl Mbg Mlo Mhs Mhf Mhp Mrs Mrf Mto Mtb Mfr Mln Mhb : Int32} (hI : (zInv n Bf Wf Yf Cf F MB MU MH MR MW MY bm rp hf pl bg lo fp fb dm da cm z m Mft Msz Mal Mbs Mpl Mbg Mlo Mhs Mhf Mhp Mrs Mrf Mto Mtb Mfr Mln Mhb)) : zok 4096 cm := by
  obtain ⟨h_b, h_m, h_c, h_z, h_l, h_d, h_Z, h_A, h_B, h_Y, h_P, h_T, h_H, h_R, h_rb⟩ := hI
  exact h_c
theorem zI_z {n : Nat} {Bf Wf Yf Cf F MB MU MH MR MW MY : Nat → Int32} {bm rp hf pl bg lo fp fb dm da cm z m Mft Msz Mal Mbs Mpl Mbg Mlo Mhs Mhf Mhp Mrs Mrf Mto Mtb Mfr Mln Mhb : Int32} (hI : (zInv n Bf Wf Yf Cf F MB MU MH MR MW MY bm rp hf pl bg lo fp fb dm da cm z m Mft Msz Mal Mbs Mpl Mbg Mlo Mhs Mhf Mhp Mrs Mrf Mto Mtb Mfr Mln Mhb)) : zsz z := by
  obtain ⟨h_b, h_m, h_c, h_z, h_l, h_d, h_Z, h_A, h_B, h_Y, h_P, h_T, h_H, h_R, h_rb⟩ := hI
  exact h_z
theorem zI_lo {n : Nat} {Bf Wf Yf Cf F MB MU MH MR MW MY : Nat → Int32} {bm rp hf pl bg lo fp fb dm da cm z m Mft Msz Mal Mbs Mpl Mbg Mlo Mhs Mhf Mhp Mrs Mrf Mto Mtb Mfr Mln Mhb : Int32} (hI : (zInv n Bf Wf Yf Cf F MB MU MH MR MW MY bm rp hf pl bg lo fp fb dm da cm z m Mft Msz Mal Mbs Mpl Mbg Mlo Mhs Mhf Mhp Mrs Mrf Mto Mtb Mfr Mln Mhb)) : zbo lo := by
  obtain ⟨h_b, h_m, h_c, h_z, h_l, h_d, h_Z, h_A, h_B, h_Y, h_P, h_T, h_H, h_R, h_rb⟩ := hI
  exact h_l
theorem zI_Msz {n : Nat} {Bf Wf Yf Cf F MB MU MH MR MW MY : Nat → Int32} {bm rp hf pl bg lo fp fb dm da cm z m Mft Msz Mal Mbs Mpl Mbg Mlo Mhs Mhf Mhp Mrs Mrf Mto Mtb Mfr Mln Mhb : Int32} (hI : (zInv n Bf Wf Yf Cf F MB MU MH MR MW MY bm rp hf pl bg lo fp fb dm da cm z m Mft Msz Mal Mbs Mpl Mbg Mlo Mhs Mhf Mhp Mrs Mrf Mto Mtb Mfr Mln Mhb)) : zsz Msz := by
  obtain ⟨h_b, h_m, h_c, h_z, h_l, h_d, h_Z, h_A, h_B, h_Y, h_P, h_T, h_H, h_R, h_rb⟩ := hI
  exact h_Z
theorem zI_Mal {n : Nat} {Bf Wf Yf Cf F MB MU MH MR MW MY : Nat → Int32} {bm rp hf pl bg lo fp fb dm da cm z m Mft Msz Mal Mbs Mpl Mbg Mlo Mhs Mhf Mhp Mrs Mrf Mto Mtb Mfr Mln Mhb : Int32} (hI : (zInv n Bf Wf Yf Cf F MB MU MH MR MW MY bm rp hf pl bg lo fp fb dm da cm z m Mft Msz Mal Mbs Mpl Mbg Mlo Mhs Mhf Mhp Mrs Mrf Mto Mtb Mfr Mln Mhb)) : zok 4096 Mal := by
  obtain ⟨h_b, h_m, h_c, h_z, h_l, h_d, h_Z, h_A, h_B, h_Y, h_P, h_T, h_H, h_R, h_rb⟩ := hI
  exact h_A
theorem zI_Mbs {n : Nat} {Bf Wf Yf Cf F MB MU MH MR MW MY : Nat → Int32} {bm rp hf pl bg lo fp fb dm da cm z m Mft Msz Mal Mbs Mpl Mbg Mlo Mhs Mhf Mhp Mrs Mrf Mto Mtb Mfr Mln Mhb : Int32} (hI : (zInv n Bf Wf Yf Cf F MB MU MH MR MW MY bm rp hf pl bg lo fp fb dm da cm z m Mft Msz Mal Mbs Mpl Mbg Mlo Mhs Mhf Mhp Mrs Mrf Mto Mtb Mfr Mln Mhb)) : zok 400 Mbs := by
  obtain ⟨h_b, h_m, h_c, h_z, h_l, h_d, h_Z, h_A, h_B, h_Y, h_P, h_T, h_H, h_R, h_rb⟩ := hI
  exact h_B
theorem zI_MB {n : Nat} {Bf Wf Yf Cf F MB MU MH MR MW MY : Nat → Int32} {bm rp hf pl bg lo fp fb dm da cm z m Mft Msz Mal Mbs Mpl Mbg Mlo Mhs Mhf Mhp Mrs Mrf Mto Mtb Mfr Mln Mhb : Int32} (hI : (zInv n Bf Wf Yf Cf F MB MU MH MR MW MY bm rp hf pl bg lo fp fb dm da cm z m Mft Msz Mal Mbs Mpl Mbg Mlo Mhs Mhf Mhp Mrs Mrf Mto Mtb Mfr Mln Mhb)) : zby 4096 MB := by
  obtain ⟨h_b, h_m, h_c, h_z, h_l, h_d, h_Z, h_A, h_B, h_Y, h_P, h_T, h_H, h_R, h_rb⟩ := hI
  exact h_Y
theorem zI_Mpl {n : Nat} {Bf Wf Yf Cf F MB MU MH MR MW MY : Nat → Int32} {bm rp hf pl bg lo fp fb dm da cm z m Mft Msz Mal Mbs Mpl Mbg Mlo Mhs Mhf Mhp Mrs Mrf Mto Mtb Mfr Mln Mhb : Int32} (hI : (zInv n Bf Wf Yf Cf F MB MU MH MR MW MY bm rp hf pl bg lo fp fb dm da cm z m Mft Msz Mal Mbs Mpl Mbg Mlo Mhs Mhf Mhp Mrs Mrf Mto Mtb Mfr Mln Mhb)) : zpl Mpl := by
  obtain ⟨h_b, h_m, h_c, h_z, h_l, h_d, h_Z, h_A, h_B, h_Y, h_P, h_T, h_H, h_R, h_rb⟩ := hI
  exact h_P
theorem zI_Mhs {n : Nat} {Bf Wf Yf Cf F MB MU MH MR MW MY : Nat → Int32} {bm rp hf pl bg lo fp fb dm da cm z m Mft Msz Mal Mbs Mpl Mbg Mlo Mhs Mhf Mhp Mrs Mrf Mto Mtb Mfr Mln Mhb : Int32} (hI : (zInv n Bf Wf Yf Cf F MB MU MH MR MW MY bm rp hf pl bg lo fp fb dm da cm z m Mft Msz Mal Mbs Mpl Mbg Mlo Mhs Mhf Mhp Mrs Mrf Mto Mtb Mfr Mln Mhb)) : (0 ≤ Mhs.toInt ∧ Mhs.toInt ≤ Mpl.toInt ∧ Mhs.toInt ≤ 4096) := by
  obtain ⟨h_b, h_m, h_c, h_z, h_l, h_d, h_Z, h_A, h_B, h_Y, h_P, h_T, h_H, h_R, h_rb⟩ := hI
  exact h_H
theorem zI_Mrs {n : Nat} {Bf Wf Yf Cf F MB MU MH MR MW MY : Nat → Int32} {bm rp hf pl bg lo fp fb dm da cm z m Mft Msz Mal Mbs Mpl Mbg Mlo Mhs Mhf Mhp Mrs Mrf Mto Mtb Mfr Mln Mhb : Int32} (hI : (zInv n Bf Wf Yf Cf F MB MU MH MR MW MY bm rp hf pl bg lo fp fb dm da cm z m Mft Msz Mal Mbs Mpl Mbg Mlo Mhs Mhf Mhp Mrs Mrf Mto Mtb Mfr Mln Mhb)) : zrs Mrs := by
  obtain ⟨h_b, h_m, h_c, h_z, h_l, h_d, h_Z, h_A, h_B, h_Y, h_P, h_T, h_H, h_R, h_rb⟩ := hI
  exact h_R
theorem zI_dm {n : Nat} (hn : n < 512) {Bf Wf Yf Cf F MB MU MH MR MW MY : Nat → Int32} {bm rp hf pl bg lo fp fb dm da cm z m Mft Msz Mal Mbs Mpl Mbg Mlo Mhs Mhf Mhp Mrs Mrf Mto Mtb Mfr Mln Mhb : Int32} (hI : (zInv n Bf Wf Yf Cf F MB MU MH MR MW MY bm rp hf pl bg lo fp fb dm da cm z m Mft Msz Mal Mbs Mpl Mbg Mlo Mhs Mhf Mhp Mrs Mrf Mto Mtb Mfr Mln Mhb)) : zdok 8196 dm := by
  obtain ⟨h_b, h_m, h_c, h_z, h_l, h_d, h_Z, h_A, h_B, h_Y, h_P, h_T, h_H, h_R, h_rb⟩ := hI
  exact zdok_le h_d (by omega)
theorem zI_Mto {n : Nat} (hn : n < 512) {Bf Wf Yf Cf F MB MU MH MR MW MY : Nat → Int32} {bm rp hf pl bg lo fp fb dm da cm z m Mft Msz Mal Mbs Mpl Mbg Mlo Mhs Mhf Mhp Mrs Mrf Mto Mtb Mfr Mln Mhb : Int32} (hI : (zInv n Bf Wf Yf Cf F MB MU MH MR MW MY bm rp hf pl bg lo fp fb dm da cm z m Mft Msz Mal Mbs Mpl Mbg Mlo Mhs Mhf Mhp Mrs Mrf Mto Mtb Mfr Mln Mhb)) : zdok 10020 Mto := by
  obtain ⟨h_b, h_m, h_c, h_z, h_l, h_d, h_Z, h_A, h_B, h_Y, h_P, h_T, h_H, h_R, h_rb⟩ := hI
  exact zdok_le h_T (by omega)
theorem zI_rb {n : Nat} {Bf Wf Yf Cf F MB MU MH MR MW MY : Nat → Int32} {bm rp hf pl bg lo fp fb dm da cm z m Mft Msz Mal Mbs Mpl Mbg Mlo Mhs Mhf Mhp Mrs Mrf Mto Mtb Mfr Mln Mhb : Int32} (hI : (zInv n Bf Wf Yf Cf F MB MU MH MR MW MY bm rp hf pl bg lo fp fb dm da cm z m Mft Msz Mal Mbs Mpl Mbg Mlo Mhs Mhf Mhp Mrs Mrf Mto Mtb Mfr Mln Mhb)) : bm = Mbs := by
  obtain ⟨h_b, h_m, h_c, h_z, h_l, h_d, h_Z, h_A, h_B, h_Y, h_P, h_T, h_H, h_R, h_rb⟩ := hI
  exact h_rb
theorem ci_clear_0 {n : Nat} (hn : n < 512) {Bf Wf Yf Cf F MB MU MH MR MW MY : Nat → Int32} {bm rp hf pl bg lo fp fb dm da cm z m Mft Msz Mal Mbs Mpl Mbg Mlo Mhs Mhf Mhp Mrs Mrf Mto Mtb Mfr Mln Mhb : Int32} (hI : (zInv n Bf Wf Yf Cf F MB MU MH MR MW MY bm rp hf pl bg lo fp fb dm da cm z m Mft Msz Mal Mbs Mpl Mbg Mlo Mhs Mhf Mhp Mrs Mrf Mto Mtb Mfr Mln Mhb)) {a1 : Int32} (hx : x_X5_clear a1 = none) {Mftq1 : Int32} {Mszq1 : Int32} {Malq1 : Int32} {Mplq1 : Int32} {Mbgq1 : Int32} {Mloq1 : Int32} {Mhsq1 : Int32} {Mhfq1 : Int32} {Mrsq1 : Int32} {Mrfq1 : Int32} {Mtoq1 : Int32} {Mtbq1 : Int32} (hT1 : (f_X6_clear Msz Mal Mpl Mbg Mlo Mhs Mhf Mrs Mrf Mto Mtb a1) = (Mftq1, Mszq1, Malq1, Mplq1, Mbgq1, Mloq1, Mhsq1, Mhfq1, Mrsq1, Mrfq1, Mtoq1, Mtbq1)) : zInv (n + 1) Bf Wf Yf Cf F MB MU MH MR MW MY bm rp hf ((f_X5_clear pl bg lo dm da z m a1).1) ((f_X5_clear pl bg lo dm da z m a1).2.1) ((f_X5_clear pl bg lo dm da z m a1).2.2.1) fp fb ((f_X5_clear pl bg lo dm da z m a1).2.2.2.1) ((f_X5_clear pl bg lo dm da z m a1).2.2.2.2.1) cm ((f_X5_clear pl bg lo dm da z m a1).2.2.2.2.2.1) ((f_X5_clear pl bg lo dm da z m a1).2.2.2.2.2.2) Mftq1 Mszq1 Malq1 Mbs Mplq1 Mbgq1 Mloq1 Mhsq1 Mhfq1 Mhp Mrsq1 Mrfq1 Mtoq1 Mtbq1 Mfr Mln Mhb := by
  obtain ⟨h_b, h_m, h_c, h_z, h_l, h_d, h_Z, h_A, h_B, h_Y, h_P, h_T, h_H, h_R, h_rb⟩ := hI
  exact ⟨h_b, (sc_clear hx h_m).2.2.2, h_c, (sc_clear hx h_m).2.2.1, (sc_clear hx h_m).1, (zdok_eq (sc_clear hx h_m).2.1 (zdok_le (j := 8196 * (512 - (n + 1))) h_d (by omega))), (sm_clear h_Z h_A h_P (zdok_le (j := 10020 * (512 - (n + 1))) h_T (by omega)) h_H h_R hT1).1, (sm_clear h_Z h_A h_P (zdok_le (j := 10020 * (512 - (n + 1))) h_T (by omega)) h_H h_R hT1).2.1, h_B, h_Y, (sm_clear h_Z h_A h_P (zdok_le (j := 10020 * (512 - (n + 1))) h_T (by omega)) h_H h_R hT1).2.2.1, (sm_clear h_Z h_A h_P (zdok_le (j := 10020 * (512 - (n + 1))) h_T (by omega)) h_H h_R hT1).2.2.2.1, (sm_clear h_Z h_A h_P (zdok_le (j := 10020 * (512 - (n + 1))) h_T (by omega)) h_H h_R hT1).2.2.2.2.1, (sm_clear h_Z h_A h_P (zdok_le (j := 10020 * (512 - (n + 1))) h_T (by omega)) h_H h_R hT1).2.2.2.2.2, h_rb⟩
theorem ci_clear_1 {n : Nat} (hn : n < 512) {Bf Wf Yf Cf F MB MU MH MR MW MY : Nat → Int32} {bm rp hf pl bg lo fp fb dm da cm z m Mft Msz Mal Mbs Mpl Mbg Mlo Mhs Mhf Mhp Mrs Mrf Mto Mtb Mfr Mln Mhb : Int32} (hI : (zInv n Bf Wf Yf Cf F MB MU MH MR MW MY bm rp hf pl bg lo fp fb dm da cm z m Mft Msz Mal Mbs Mpl Mbg Mlo Mhs Mhf Mhp Mrs Mrf Mto Mtb Mfr Mln Mhb)) {a1 : Int32} (hx : x_X5_clear a1 = some zIAE) {Mftq2 : Int32} {Mszq2 : Int32} {Malq2 : Int32} {Mplq2 : Int32} {Mbgq2 : Int32} {Mloq2 : Int32} {Mhsq2 : Int32} {Mhfq2 : Int32} {Mrsq2 : Int32} {Mrfq2 : Int32} {Mtoq2 : Int32} {Mtbq2 : Int32} (hT2 : (f_X6_clear Msz Mal Mpl Mbg Mlo Mhs Mhf Mrs Mrf Mto Mtb a1) = (Mftq2, Mszq2, Malq2, Mplq2, Mbgq2, Mloq2, Mhsq2, Mhfq2, Mrsq2, Mrfq2, Mtoq2, Mtbq2)) : zInv (n + 1) Bf Wf Yf Cf F MB MU MH MR MW MY bm rp hf pl bg lo fp fb dm da cm z m Mftq2 Mszq2 Malq2 Mbs Mplq2 Mbgq2 Mloq2 Mhsq2 Mhfq2 Mhp Mrsq2 Mrfq2 Mtoq2 Mtbq2 Mfr Mln Mhb := by
  obtain ⟨h_b, h_m, h_c, h_z, h_l, h_d, h_Z, h_A, h_B, h_Y, h_P, h_T, h_H, h_R, h_rb⟩ := hI
  exact ⟨h_b, h_m, h_c, h_z, h_l, (zdok_le (j := 8196 * (512 - (n + 1))) h_d (by omega)), (sm_clear h_Z h_A h_P (zdok_le (j := 10020 * (512 - (n + 1))) h_T (by omega)) h_H h_R hT2).1, (sm_clear h_Z h_A h_P (zdok_le (j := 10020 * (512 - (n + 1))) h_T (by omega)) h_H h_R hT2).2.1, h_B, h_Y, (sm_clear h_Z h_A h_P (zdok_le (j := 10020 * (512 - (n + 1))) h_T (by omega)) h_H h_R hT2).2.2.1, (sm_clear h_Z h_A h_P (zdok_le (j := 10020 * (512 - (n + 1))) h_T (by omega)) h_H h_R hT2).2.2.2.1, (sm_clear h_Z h_A h_P (zdok_le (j := 10020 * (512 - (n + 1))) h_T (by omega)) h_H h_R hT2).2.2.2.2.1, (sm_clear h_Z h_A h_P (zdok_le (j := 10020 * (512 - (n + 1))) h_T (by omega)) h_H h_R hT2).2.2.2.2.2, h_rb⟩
theorem ci_feed_0 {n : Nat} (hn : n < 512) {Bf Wf Yf Cf F MB MU MH MR MW MY : Nat → Int32} {bm rp hf pl bg lo fp fb dm da cm z m Mft Msz Mal Mbs Mpl Mbg Mlo Mhs Mhf Mhp Mrs Mrf Mto Mtb Mfr Mln Mhb : Int32} (hI : (zInv n Bf Wf Yf Cf F MB MU MH MR MW MY bm rp hf pl bg lo fp fb dm da cm z m Mft Msz Mal Mbs Mpl Mbg Mlo Mhs Mhf Mhp Mrs Mrf Mto Mtb Mfr Mln Mhb)) {a1 a2 a3 a4 a5 : Int32} (hx : x_X5_feed bm a1 = none) {rq1 : Int32} {MUq1 : Nat → Int32} {Mftq1 : Int32} {Mbsq1 : Int32} (hT1 : (f_X6_feed MU Mbs a1 a2 a3 a4 a5) = (rq1, MUq1, Mftq1, Mbsq1)) : zInv (n + 1) ((f_X5_feed Bf bm a1 a2 a3 a4 a5).2.1) Wf Yf Cf F MB MUq1 MH MR MW MY ((f_X5_feed Bf bm a1 a2 a3 a4 a5).2.2) rp hf pl bg lo fp fb dm da cm z m Mftq1 Msz Mal Mbsq1 Mpl Mbg Mlo Mhs Mhf Mhp Mrs Mrf Mto Mtb Mfr Mln Mhb := by
  obtain ⟨h_b, h_m, h_c, h_z, h_l, h_d, h_Z, h_A, h_B, h_Y, h_P, h_T, h_H, h_R, h_rb⟩ := hI
  exact ⟨(sc_feed h_b), h_m, h_c, h_z, h_l, (zdok_le (j := 8196 * (512 - (n + 1))) h_d (by omega)), h_Z, h_A, (sm_feed h_B hT1), h_Y, h_P, (zdok_le (j := 10020 * (512 - (n + 1))) h_T (by omega)), h_H, h_R, (rb_feed_0 h_b h_B h_rb hx hT1)⟩
theorem ci_feed_1 {n : Nat} (hn : n < 512) {Bf Wf Yf Cf F MB MU MH MR MW MY : Nat → Int32} {bm rp hf pl bg lo fp fb dm da cm z m Mft Msz Mal Mbs Mpl Mbg Mlo Mhs Mhf Mhp Mrs Mrf Mto Mtb Mfr Mln Mhb : Int32} (hI : (zInv n Bf Wf Yf Cf F MB MU MH MR MW MY bm rp hf pl bg lo fp fb dm da cm z m Mft Msz Mal Mbs Mpl Mbg Mlo Mhs Mhf Mhp Mrs Mrf Mto Mtb Mfr Mln Mhb)) {a1 a2 a3 a4 a5 : Int32} (hx : x_X5_feed bm a1 = some zIAE) {rq6 : Int32} {MUq6 : Nat → Int32} {Mftq6 : Int32} {Mbsq6 : Int32} (hT6 : (f_X6_feed MU Mbs a1 a2 a3 a4 a5) = (rq6, MUq6, Mftq6, Mbsq6)) : zInv (n + 1) Bf Wf Yf Cf F MB MUq6 MH MR MW MY bm rp hf pl bg lo fp fb dm da cm z m Mftq6 Msz Mal Mbsq6 Mpl Mbg Mlo Mhs Mhf Mhp Mrs Mrf Mto Mtb Mfr Mln Mhb := by
  obtain ⟨h_b, h_m, h_c, h_z, h_l, h_d, h_Z, h_A, h_B, h_Y, h_P, h_T, h_H, h_R, h_rb⟩ := hI
  exact ⟨h_b, h_m, h_c, h_z, h_l, (zdok_le (j := 8196 * (512 - (n + 1))) h_d (by omega)), h_Z, h_A, (sm_feed h_B hT6), h_Y, h_P, (zdok_le (j := 10020 * (512 - (n + 1))) h_T (by omega)), h_H, h_R, (rb_feed_1 h_b h_B h_rb hx hT6)⟩
theorem ci_feed_2 {n : Nat} (hn : n < 512) {Bf Wf Yf Cf F MB MU MH MR MW MY : Nat → Int32} {bm rp hf pl bg lo fp fb dm da cm z m Mft Msz Mal Mbs Mpl Mbg Mlo Mhs Mhf Mhp Mrs Mrf Mto Mtb Mfr Mln Mhb : Int32} (hI : (zInv n Bf Wf Yf Cf F MB MU MH MR MW MY bm rp hf pl bg lo fp fb dm da cm z m Mft Msz Mal Mbs Mpl Mbg Mlo Mhs Mhf Mhp Mrs Mrf Mto Mtb Mfr Mln Mhb)) {a1 a2 a3 a4 a5 : Int32} (hx : x_X5_feed bm a1 = some zISE) {rq10 : Int32} {MUq10 : Nat → Int32} {Mftq10 : Int32} {Mbsq10 : Int32} (hT10 : (f_X6_feed MU Mbs a1 a2 a3 a4 a5) = (rq10, MUq10, Mftq10, Mbsq10)) : zInv (n + 1) Bf Wf Yf Cf F MB MUq10 MH MR MW MY bm rp hf pl bg lo fp fb dm da cm z m Mftq10 Msz Mal Mbsq10 Mpl Mbg Mlo Mhs Mhf Mhp Mrs Mrf Mto Mtb Mfr Mln Mhb := by
  obtain ⟨h_b, h_m, h_c, h_z, h_l, h_d, h_Z, h_A, h_B, h_Y, h_P, h_T, h_H, h_R, h_rb⟩ := hI
  exact ⟨h_b, h_m, h_c, h_z, h_l, (zdok_le (j := 8196 * (512 - (n + 1))) h_d (by omega)), h_Z, h_A, (sm_feed h_B hT10), h_Y, h_P, (zdok_le (j := 10020 * (512 - (n + 1))) h_T (by omega)), h_H, h_R, (rb_feed_2 h_b h_B h_rb hx hT10)⟩
theorem ci_erase {n : Nat} (hn : n < 512) {Bf Wf Yf Cf F MB MU MH MR MW MY : Nat → Int32} {bm rp hf pl bg lo fp fb dm da cm z m Mft Msz Mal Mbs Mpl Mbg Mlo Mhs Mhf Mhp Mrs Mrf Mto Mtb Mfr Mln Mhb : Int32} (hI : (zInv n Bf Wf Yf Cf F MB MU MH MR MW MY bm rp hf pl bg lo fp fb dm da cm z m Mft Msz Mal Mbs Mpl Mbg Mlo Mhs Mhf Mhp Mrs Mrf Mto Mtb Mfr Mln Mhb)) {rq1 : Int32} {bmq1 : Int32} (hT1 : (f_X5_erase bm) = (rq1, bmq1)) : zInv (n + 1) Bf Wf Yf Cf F MB MU MH MR MW MY bmq1 rp hf pl bg lo fp fb dm da cm z m 0 Msz Mal 0 Mpl Mbg Mlo Mhs Mhf Mhp Mrs Mrf Mto Mtb Mfr Mln Mhb := by
  obtain ⟨h_b, h_m, h_c, h_z, h_l, h_d, h_Z, h_A, h_B, h_Y, h_P, h_T, h_H, h_R, h_rb⟩ := hI
  exact ⟨(sc_erase h_b hT1), h_m, h_c, h_z, h_l, (zdok_le (j := 8196 * (512 - (n + 1))) h_d (by omega)), h_Z, h_A, ⟨by decide, by decide, by decide⟩, h_Y, h_P, (zdok_le (j := 10020 * (512 - (n + 1))) h_T (by omega)), h_H, h_R, (rb_erase h_b h_B h_rb hT1)⟩
theorem ci_check_0 {n : Nat} (hn : n < 512) {Bf Wf Yf Cf F MB MU MH MR MW MY : Nat → Int32} {bm rp hf pl bg lo fp fb dm da cm z m Mft Msz Mal Mbs Mpl Mbg Mlo Mhs Mhf Mhp Mrs Mrf Mto Mtb Mfr Mln Mhb : Int32} (hI : (zInv n Bf Wf Yf Cf F MB MU MH MR MW MY bm rp hf pl bg lo fp fb dm da cm z m Mft Msz Mal Mbs Mpl Mbg Mlo Mhs Mhf Mhp Mrs Mrf Mto Mtb Mfr Mln Mhb)) {a1 : Int32} (hx : x_X5_check a1 = none) {rq1 : Int32} {Mftq1 : Int32} (hT1 : (f_X6_check MU Mbs a1) = (rq1, Mftq1)) : zInv (n + 1) Bf Wf Yf Cf F MB MU MH MR MW MY bm rp hf pl bg lo fp fb dm da cm z m Mftq1 Msz Mal Mbs Mpl Mbg Mlo Mhs Mhf Mhp Mrs Mrf Mto Mtb Mfr Mln Mhb := by
  obtain ⟨h_b, h_m, h_c, h_z, h_l, h_d, h_Z, h_A, h_B, h_Y, h_P, h_T, h_H, h_R, h_rb⟩ := hI
  exact ⟨h_b, h_m, h_c, h_z, h_l, (zdok_le (j := 8196 * (512 - (n + 1))) h_d (by omega)), h_Z, h_A, h_B, h_Y, h_P, (zdok_le (j := 10020 * (512 - (n + 1))) h_T (by omega)), h_H, h_R, h_rb⟩
theorem ci_check_1 {n : Nat} (hn : n < 512) {Bf Wf Yf Cf F MB MU MH MR MW MY : Nat → Int32} {bm rp hf pl bg lo fp fb dm da cm z m Mft Msz Mal Mbs Mpl Mbg Mlo Mhs Mhf Mhp Mrs Mrf Mto Mtb Mfr Mln Mhb : Int32} (hI : (zInv n Bf Wf Yf Cf F MB MU MH MR MW MY bm rp hf pl bg lo fp fb dm da cm z m Mft Msz Mal Mbs Mpl Mbg Mlo Mhs Mhf Mhp Mrs Mrf Mto Mtb Mfr Mln Mhb)) {a1 : Int32} (hx : x_X5_check a1 = some zIAE) {rq2 : Int32} {Mftq2 : Int32} (hT2 : (f_X6_check MU Mbs a1) = (rq2, Mftq2)) : zInv (n + 1) Bf Wf Yf Cf F MB MU MH MR MW MY bm rp hf pl bg lo fp fb dm da cm z m Mftq2 Msz Mal Mbs Mpl Mbg Mlo Mhs Mhf Mhp Mrs Mrf Mto Mtb Mfr Mln Mhb := by
  obtain ⟨h_b, h_m, h_c, h_z, h_l, h_d, h_Z, h_A, h_B, h_Y, h_P, h_T, h_H, h_R, h_rb⟩ := hI
  exact ⟨h_b, h_m, h_c, h_z, h_l, (zdok_le (j := 8196 * (512 - (n + 1))) h_d (by omega)), h_Z, h_A, h_B, h_Y, h_P, (zdok_le (j := 10020 * (512 - (n + 1))) h_T (by omega)), h_H, h_R, h_rb⟩
theorem ci_append {n : Nat} (hn : n < 512) {Bf Wf Yf Cf F MB MU MH MR MW MY : Nat → Int32} {bm rp hf pl bg lo fp fb dm da cm z m Mft Msz Mal Mbs Mpl Mbg Mlo Mhs Mhf Mhp Mrs Mrf Mto Mtb Mfr Mln Mhb : Int32} (hI : (zInv n Bf Wf Yf Cf F MB MU MH MR MW MY bm rp hf pl bg lo fp fb dm da cm z m Mft Msz Mal Mbs Mpl Mbg Mlo Mhs Mhf Mhp Mrs Mrf Mto Mtb Mfr Mln Mhb)) {rq1 : Int32} {Fq1 : Nat → Int32} {mq1 : Int32} (hT1 : (f_X5_append Bf F bm z m) = (rq1, Fq1, mq1)) {rq2 : Int32} {MBq2 : Nat → Int32} {Mftq2 : Int32} {Malq2 : Int32} {Mhbq2 : Int32} (hT2 : (f_X6_append MB MU Msz Mal Mbs Mhb) = (rq2, MBq2, Mftq2, Malq2, Mhbq2)) : zInv (n + 1) Bf Wf Yf Cf Fq1 MBq2 MU MH MR MW MY bm rp hf pl bg lo fp fb dm da cm z mq1 Mftq2 Msz Malq2 Mbs Mpl Mbg Mlo Mhs Mhf Mhp Mrs Mrf Mto Mtb Mfr Mln Mhbq2 := by
  obtain ⟨h_b, h_m, h_c, h_z, h_l, h_d, h_Z, h_A, h_B, h_Y, h_P, h_T, h_H, h_R, h_rb⟩ := hI
  exact ⟨h_b, (sc_append h_z h_m h_b hT1), h_c, h_z, h_l, (zdok_le (j := 8196 * (512 - (n + 1))) h_d (by omega)), h_Z, (sm_append h_Z h_A h_B h_Y hT2).2, h_B, (sm_append h_Z h_A h_B h_Y hT2).1, h_P, (zdok_le (j := 10020 * (512 - (n + 1))) h_T (by omega)), h_H, h_R, h_rb⟩
theorem ci_raw_0 {n : Nat} (hn : n < 512) {Bf Wf Yf Cf F MB MU MH MR MW MY : Nat → Int32} {bm rp hf pl bg lo fp fb dm da cm z m Mft Msz Mal Mbs Mpl Mbg Mlo Mhs Mhf Mhp Mrs Mrf Mto Mtb Mfr Mln Mhb : Int32} (hI : (zInv n Bf Wf Yf Cf F MB MU MH MR MW MY bm rp hf pl bg lo fp fb dm da cm z m Mft Msz Mal Mbs Mpl Mbg Mlo Mhs Mhf Mhp Mrs Mrf Mto Mtb Mfr Mln Mhb)) {a1 : Int32} (hx : x_X5_raw a1 = none) {rq1 : Int32} {MBq1 : Nat → Int32} {Mftq1 : Int32} {Malq1 : Int32} (hT1 : (f_X6_raw MB MU Mal Mbs a1) = (rq1, MBq1, Mftq1, Malq1)) : zInv (n + 1) Bf Wf Yf Cf ((f_X5_raw Bf F bm m a1).2.1) MBq1 MU MH MR MW MY bm rp hf pl bg lo fp fb dm da cm z ((f_X5_raw Bf F bm m a1).2.2) Mftq1 Msz Malq1 Mbs Mpl Mbg Mlo Mhs Mhf Mhp Mrs Mrf Mto Mtb Mfr Mln Mhb := by
  obtain ⟨h_b, h_m, h_c, h_z, h_l, h_d, h_Z, h_A, h_B, h_Y, h_P, h_T, h_H, h_R, h_rb⟩ := hI
  exact ⟨h_b, (sc_raw h_m h_b), h_c, h_z, h_l, (zdok_le (j := 8196 * (512 - (n + 1))) h_d (by omega)), h_Z, (sm_raw h_A h_B h_Y hT1).2, h_B, (sm_raw h_A h_B h_Y hT1).1, h_P, (zdok_le (j := 10020 * (512 - (n + 1))) h_T (by omega)), h_H, h_R, h_rb⟩
theorem ci_raw_1 {n : Nat} (hn : n < 512) {Bf Wf Yf Cf F MB MU MH MR MW MY : Nat → Int32} {bm rp hf pl bg lo fp fb dm da cm z m Mft Msz Mal Mbs Mpl Mbg Mlo Mhs Mhf Mhp Mrs Mrf Mto Mtb Mfr Mln Mhb : Int32} (hI : (zInv n Bf Wf Yf Cf F MB MU MH MR MW MY bm rp hf pl bg lo fp fb dm da cm z m Mft Msz Mal Mbs Mpl Mbg Mlo Mhs Mhf Mhp Mrs Mrf Mto Mtb Mfr Mln Mhb)) {a1 : Int32} (hx : x_X5_raw a1 = some zIAE) {rq2 : Int32} {MBq2 : Nat → Int32} {Mftq2 : Int32} {Malq2 : Int32} (hT2 : (f_X6_raw MB MU Mal Mbs a1) = (rq2, MBq2, Mftq2, Malq2)) : zInv (n + 1) Bf Wf Yf Cf F MBq2 MU MH MR MW MY bm rp hf pl bg lo fp fb dm da cm z m Mftq2 Msz Malq2 Mbs Mpl Mbg Mlo Mhs Mhf Mhp Mrs Mrf Mto Mtb Mfr Mln Mhb := by
  obtain ⟨h_b, h_m, h_c, h_z, h_l, h_d, h_Z, h_A, h_B, h_Y, h_P, h_T, h_H, h_R, h_rb⟩ := hI
  exact ⟨h_b, h_m, h_c, h_z, h_l, (zdok_le (j := 8196 * (512 - (n + 1))) h_d (by omega)), h_Z, (sm_raw h_A h_B h_Y hT2).2, h_B, (sm_raw h_A h_B h_Y hT2).1, h_P, (zdok_le (j := 10020 * (512 - (n + 1))) h_T (by omega)), h_H, h_R, h_rb⟩
theorem ci_put_0 {n : Nat} (hn : n < 512) {Bf Wf Yf Cf F MB MU MH MR MW MY : Nat → Int32} {bm rp hf pl bg lo fp fb dm da cm z m Mft Msz Mal Mbs Mpl Mbg Mlo Mhs Mhf Mhp Mrs Mrf Mto Mtb Mfr Mln Mhb : Int32} (hI : (zInv n Bf Wf Yf Cf F MB MU MH MR MW MY bm rp hf pl bg lo fp fb dm da cm z m Mft Msz Mal Mbs Mpl Mbg Mlo Mhs Mhf Mhp Mrs Mrf Mto Mtb Mfr Mln Mhb)) {a1 a2 : Int32} (hx : x_X5_put m a1 a2 = none) {rq1 : Int32} {MBq1 : Nat → Int32} {Mftq1 : Int32} (hT1 : (f_X6_put_ MB Mal a1 a2) = (rq1, MBq1, Mftq1)) : zInv (n + 1) Bf Wf Yf Cf ((f_X5_put F m a1 a2).2) MBq1 MU MH MR MW MY bm rp hf pl bg lo fp fb dm da cm z m Mftq1 Msz Mal Mbs Mpl Mbg Mlo Mhs Mhf Mhp Mrs Mrf Mto Mtb Mfr Mln Mhb := by
  obtain ⟨h_b, h_m, h_c, h_z, h_l, h_d, h_Z, h_A, h_B, h_Y, h_P, h_T, h_H, h_R, h_rb⟩ := hI
  exact ⟨h_b, h_m, h_c, h_z, h_l, (zdok_le (j := 8196 * (512 - (n + 1))) h_d (by omega)), h_Z, h_A, h_B, (sm_put h_Y hT1), h_P, (zdok_le (j := 10020 * (512 - (n + 1))) h_T (by omega)), h_H, h_R, h_rb⟩
theorem ci_put_1 {n : Nat} (hn : n < 512) {Bf Wf Yf Cf F MB MU MH MR MW MY : Nat → Int32} {bm rp hf pl bg lo fp fb dm da cm z m Mft Msz Mal Mbs Mpl Mbg Mlo Mhs Mhf Mhp Mrs Mrf Mto Mtb Mfr Mln Mhb : Int32} (hI : (zInv n Bf Wf Yf Cf F MB MU MH MR MW MY bm rp hf pl bg lo fp fb dm da cm z m Mft Msz Mal Mbs Mpl Mbg Mlo Mhs Mhf Mhp Mrs Mrf Mto Mtb Mfr Mln Mhb)) {a1 a2 : Int32} (hx : x_X5_put m a1 a2 = some zIOE) {rq2 : Int32} {MBq2 : Nat → Int32} {Mftq2 : Int32} (hT2 : (f_X6_put_ MB Mal a1 a2) = (rq2, MBq2, Mftq2)) : zInv (n + 1) Bf Wf Yf Cf F MBq2 MU MH MR MW MY bm rp hf pl bg lo fp fb dm da cm z m Mftq2 Msz Mal Mbs Mpl Mbg Mlo Mhs Mhf Mhp Mrs Mrf Mto Mtb Mfr Mln Mhb := by
  obtain ⟨h_b, h_m, h_c, h_z, h_l, h_d, h_Z, h_A, h_B, h_Y, h_P, h_T, h_H, h_R, h_rb⟩ := hI
  exact ⟨h_b, h_m, h_c, h_z, h_l, (zdok_le (j := 8196 * (512 - (n + 1))) h_d (by omega)), h_Z, h_A, h_B, (sm_put h_Y hT2), h_P, (zdok_le (j := 10020 * (512 - (n + 1))) h_T (by omega)), h_H, h_R, h_rb⟩
theorem ci_put_2 {n : Nat} (hn : n < 512) {Bf Wf Yf Cf F MB MU MH MR MW MY : Nat → Int32} {bm rp hf pl bg lo fp fb dm da cm z m Mft Msz Mal Mbs Mpl Mbg Mlo Mhs Mhf Mhp Mrs Mrf Mto Mtb Mfr Mln Mhb : Int32} (hI : (zInv n Bf Wf Yf Cf F MB MU MH MR MW MY bm rp hf pl bg lo fp fb dm da cm z m Mft Msz Mal Mbs Mpl Mbg Mlo Mhs Mhf Mhp Mrs Mrf Mto Mtb Mfr Mln Mhb)) {a1 a2 : Int32} (hx : x_X5_put m a1 a2 = some zIAE) {rq3 : Int32} {MBq3 : Nat → Int32} {Mftq3 : Int32} (hT3 : (f_X6_put_ MB Mal a1 a2) = (rq3, MBq3, Mftq3)) : zInv (n + 1) Bf Wf Yf Cf F MBq3 MU MH MR MW MY bm rp hf pl bg lo fp fb dm da cm z m Mftq3 Msz Mal Mbs Mpl Mbg Mlo Mhs Mhf Mhp Mrs Mrf Mto Mtb Mfr Mln Mhb := by
  obtain ⟨h_b, h_m, h_c, h_z, h_l, h_d, h_Z, h_A, h_B, h_Y, h_P, h_T, h_H, h_R, h_rb⟩ := hI
  exact ⟨h_b, h_m, h_c, h_z, h_l, (zdok_le (j := 8196 * (512 - (n + 1))) h_d (by omega)), h_Z, h_A, h_B, (sm_put h_Y hT3), h_P, (zdok_le (j := 10020 * (512 - (n + 1))) h_T (by omega)), h_H, h_R, h_rb⟩
theorem ci_cut_0 {n : Nat} (hn : n < 512) {Bf Wf Yf Cf F MB MU MH MR MW MY : Nat → Int32} {bm rp hf pl bg lo fp fb dm da cm z m Mft Msz Mal Mbs Mpl Mbg Mlo Mhs Mhf Mhp Mrs Mrf Mto Mtb Mfr Mln Mhb : Int32} (hI : (zInv n Bf Wf Yf Cf F MB MU MH MR MW MY bm rp hf pl bg lo fp fb dm da cm z m Mft Msz Mal Mbs Mpl Mbg Mlo Mhs Mhf Mhp Mrs Mrf Mto Mtb Mfr Mln Mhb)) {a1 : Int32} (hx : x_X5_cut m a1 = none) {rq1 : Int32} {Mftq1 : Int32} {Malq1 : Int32} {Mplq1 : Int32} {Mbgq1 : Int32} {Mloq1 : Int32} {Mhsq1 : Int32} {Mhfq1 : Int32} {Mrsq1 : Int32} {Mrfq1 : Int32} {Mtoq1 : Int32} {Mtbq1 : Int32} (hT1 : (f_X6_cut Msz Mal Mpl Mbg Mlo Mhs Mhf Mrs Mrf Mto Mtb a1) = (rq1, Mftq1, Malq1, Mplq1, Mbgq1, Mloq1, Mhsq1, Mhfq1, Mrsq1, Mrfq1, Mtoq1, Mtbq1)) : zInv (n + 1) Bf Wf Yf Cf F MB MU MH MR MW MY bm rp hf ((f_X5_cut pl bg lo dm da z m a1).2.1) ((f_X5_cut pl bg lo dm da z m a1).2.2.1) ((f_X5_cut pl bg lo dm da z m a1).2.2.2.1) fp fb ((f_X5_cut pl bg lo dm da z m a1).2.2.2.2.1) ((f_X5_cut pl bg lo dm da z m a1).2.2.2.2.2.1) cm z ((f_X5_cut pl bg lo dm da z m a1).2.2.2.2.2.2) Mftq1 Msz Malq1 Mbs Mplq1 Mbgq1 Mloq1 Mhsq1 Mhfq1 Mhp Mrsq1 Mrfq1 Mtoq1 Mtbq1 Mfr Mln Mhb := by
  obtain ⟨h_b, h_m, h_c, h_z, h_l, h_d, h_Z, h_A, h_B, h_Y, h_P, h_T, h_H, h_R, h_rb⟩ := hI
  exact ⟨h_b, (sc_cut hx h_m).2.2, h_c, h_z, (sc_cut hx h_m).1, (zdok_eq (sc_cut hx h_m).2.1 (zdok_le (j := 8196 * (512 - (n + 1))) h_d (by omega))), h_Z, (sm_cut h_Z h_A h_P (zdok_le (j := 10020 * (512 - (n + 1))) h_T (by omega)) h_H h_R hT1).1, h_B, h_Y, (sm_cut h_Z h_A h_P (zdok_le (j := 10020 * (512 - (n + 1))) h_T (by omega)) h_H h_R hT1).2.1, (sm_cut h_Z h_A h_P (zdok_le (j := 10020 * (512 - (n + 1))) h_T (by omega)) h_H h_R hT1).2.2.1, (sm_cut h_Z h_A h_P (zdok_le (j := 10020 * (512 - (n + 1))) h_T (by omega)) h_H h_R hT1).2.2.2.1, (sm_cut h_Z h_A h_P (zdok_le (j := 10020 * (512 - (n + 1))) h_T (by omega)) h_H h_R hT1).2.2.2.2, h_rb⟩
theorem ci_cut_1 {n : Nat} (hn : n < 512) {Bf Wf Yf Cf F MB MU MH MR MW MY : Nat → Int32} {bm rp hf pl bg lo fp fb dm da cm z m Mft Msz Mal Mbs Mpl Mbg Mlo Mhs Mhf Mhp Mrs Mrf Mto Mtb Mfr Mln Mhb : Int32} (hI : (zInv n Bf Wf Yf Cf F MB MU MH MR MW MY bm rp hf pl bg lo fp fb dm da cm z m Mft Msz Mal Mbs Mpl Mbg Mlo Mhs Mhf Mhp Mrs Mrf Mto Mtb Mfr Mln Mhb)) {a1 : Int32} (hx : x_X5_cut m a1 = some zIAE) {rq2 : Int32} {Mftq2 : Int32} {Malq2 : Int32} {Mplq2 : Int32} {Mbgq2 : Int32} {Mloq2 : Int32} {Mhsq2 : Int32} {Mhfq2 : Int32} {Mrsq2 : Int32} {Mrfq2 : Int32} {Mtoq2 : Int32} {Mtbq2 : Int32} (hT2 : (f_X6_cut Msz Mal Mpl Mbg Mlo Mhs Mhf Mrs Mrf Mto Mtb a1) = (rq2, Mftq2, Malq2, Mplq2, Mbgq2, Mloq2, Mhsq2, Mhfq2, Mrsq2, Mrfq2, Mtoq2, Mtbq2)) : zInv (n + 1) Bf Wf Yf Cf F MB MU MH MR MW MY bm rp hf pl bg lo fp fb dm da cm z m Mftq2 Msz Malq2 Mbs Mplq2 Mbgq2 Mloq2 Mhsq2 Mhfq2 Mhp Mrsq2 Mrfq2 Mtoq2 Mtbq2 Mfr Mln Mhb := by
  obtain ⟨h_b, h_m, h_c, h_z, h_l, h_d, h_Z, h_A, h_B, h_Y, h_P, h_T, h_H, h_R, h_rb⟩ := hI
  exact ⟨h_b, h_m, h_c, h_z, h_l, (zdok_le (j := 8196 * (512 - (n + 1))) h_d (by omega)), h_Z, (sm_cut h_Z h_A h_P (zdok_le (j := 10020 * (512 - (n + 1))) h_T (by omega)) h_H h_R hT2).1, h_B, h_Y, (sm_cut h_Z h_A h_P (zdok_le (j := 10020 * (512 - (n + 1))) h_T (by omega)) h_H h_R hT2).2.1, (sm_cut h_Z h_A h_P (zdok_le (j := 10020 * (512 - (n + 1))) h_T (by omega)) h_H h_R hT2).2.2.1, (sm_cut h_Z h_A h_P (zdok_le (j := 10020 * (512 - (n + 1))) h_T (by omega)) h_H h_R hT2).2.2.2.1, (sm_cut h_Z h_A h_P (zdok_le (j := 10020 * (512 - (n + 1))) h_T (by omega)) h_H h_R hT2).2.2.2.2, h_rb⟩
theorem ci_begin_0 {n : Nat} (hn : n < 512) {Bf Wf Yf Cf F MB MU MH MR MW MY : Nat → Int32} {bm rp hf pl bg lo fp fb dm da cm z m Mft Msz Mal Mbs Mpl Mbg Mlo Mhs Mhf Mhp Mrs Mrf Mto Mtb Mfr Mln Mhb : Int32} (hI : (zInv n Bf Wf Yf Cf F MB MU MH MR MW MY bm rp hf pl bg lo fp fb dm da cm z m Mft Msz Mal Mbs Mpl Mbg Mlo Mhs Mhf Mhp Mrs Mrf Mto Mtb Mfr Mln Mhb)) {a1 : Int32} (hx : x_X5_begin a1 = none) {rq1 : Int32} {Mftq1 : Int32} {Mplq1 : Int32} {Mbgq1 : Int32} {Mloq1 : Int32} {Mhsq1 : Int32} {Mhfq1 : Int32} {Mrsq1 : Int32} {Mrfq1 : Int32} {Mtoq1 : Int32} {Mtbq1 : Int32} (hT1 : (f_X6_begin Msz Mpl Mbg Mlo Mhs Mhf Mrs Mrf Mto Mtb a1) = (rq1, Mftq1, Mplq1, Mbgq1, Mloq1, Mhsq1, Mhfq1, Mrsq1, Mrfq1, Mtoq1, Mtbq1)) : zInv (n + 1) Bf Wf Yf Cf F MB MU MH MR MW MY bm rp hf ((f_X5_begin pl bg lo dm da z a1).2.1) ((f_X5_begin pl bg lo dm da z a1).2.2.1) ((f_X5_begin pl bg lo dm da z a1).2.2.2.1) fp fb ((f_X5_begin pl bg lo dm da z a1).2.2.2.2.1) ((f_X5_begin pl bg lo dm da z a1).2.2.2.2.2) cm z m Mftq1 Msz Mal Mbs Mplq1 Mbgq1 Mloq1 Mhsq1 Mhfq1 Mhp Mrsq1 Mrfq1 Mtoq1 Mtbq1 Mfr Mln Mhb := by
  obtain ⟨h_b, h_m, h_c, h_z, h_l, h_d, h_Z, h_A, h_B, h_Y, h_P, h_T, h_H, h_R, h_rb⟩ := hI
  exact ⟨h_b, h_m, h_c, h_z, (sc_begin hx).1, (zdok_eq (sc_begin hx).2 (zdok_le (j := 8196 * (512 - (n + 1))) h_d (by omega))), h_Z, h_A, h_B, h_Y, (sm_begin h_Z h_P (zdok_le (j := 10020 * (512 - (n + 1))) h_T (by omega)) h_H h_R hT1).1, (sm_begin h_Z h_P (zdok_le (j := 10020 * (512 - (n + 1))) h_T (by omega)) h_H h_R hT1).2.1, (sm_begin h_Z h_P (zdok_le (j := 10020 * (512 - (n + 1))) h_T (by omega)) h_H h_R hT1).2.2.1, (sm_begin h_Z h_P (zdok_le (j := 10020 * (512 - (n + 1))) h_T (by omega)) h_H h_R hT1).2.2.2, h_rb⟩
theorem ci_begin_1 {n : Nat} (hn : n < 512) {Bf Wf Yf Cf F MB MU MH MR MW MY : Nat → Int32} {bm rp hf pl bg lo fp fb dm da cm z m Mft Msz Mal Mbs Mpl Mbg Mlo Mhs Mhf Mhp Mrs Mrf Mto Mtb Mfr Mln Mhb : Int32} (hI : (zInv n Bf Wf Yf Cf F MB MU MH MR MW MY bm rp hf pl bg lo fp fb dm da cm z m Mft Msz Mal Mbs Mpl Mbg Mlo Mhs Mhf Mhp Mrs Mrf Mto Mtb Mfr Mln Mhb)) {a1 : Int32} (hx : x_X5_begin a1 = some zIAE) {rq2 : Int32} {Mftq2 : Int32} {Mplq2 : Int32} {Mbgq2 : Int32} {Mloq2 : Int32} {Mhsq2 : Int32} {Mhfq2 : Int32} {Mrsq2 : Int32} {Mrfq2 : Int32} {Mtoq2 : Int32} {Mtbq2 : Int32} (hT2 : (f_X6_begin Msz Mpl Mbg Mlo Mhs Mhf Mrs Mrf Mto Mtb a1) = (rq2, Mftq2, Mplq2, Mbgq2, Mloq2, Mhsq2, Mhfq2, Mrsq2, Mrfq2, Mtoq2, Mtbq2)) : zInv (n + 1) Bf Wf Yf Cf F MB MU MH MR MW MY bm rp hf pl bg lo fp fb dm da cm z m Mftq2 Msz Mal Mbs Mplq2 Mbgq2 Mloq2 Mhsq2 Mhfq2 Mhp Mrsq2 Mrfq2 Mtoq2 Mtbq2 Mfr Mln Mhb := by
  obtain ⟨h_b, h_m, h_c, h_z, h_l, h_d, h_Z, h_A, h_B, h_Y, h_P, h_T, h_H, h_R, h_rb⟩ := hI
  exact ⟨h_b, h_m, h_c, h_z, h_l, (zdok_le (j := 8196 * (512 - (n + 1))) h_d (by omega)), h_Z, h_A, h_B, h_Y, (sm_begin h_Z h_P (zdok_le (j := 10020 * (512 - (n + 1))) h_T (by omega)) h_H h_R hT2).1, (sm_begin h_Z h_P (zdok_le (j := 10020 * (512 - (n + 1))) h_T (by omega)) h_H h_R hT2).2.1, (sm_begin h_Z h_P (zdok_le (j := 10020 * (512 - (n + 1))) h_T (by omega)) h_H h_R hT2).2.2.1, (sm_begin h_Z h_P (zdok_le (j := 10020 * (512 - (n + 1))) h_T (by omega)) h_H h_R hT2).2.2.2, h_rb⟩
theorem ci_read {n : Nat} (hn : n < 512) {Bf Wf Yf Cf F MB MU MH MR MW MY : Nat → Int32} {bm rp hf pl bg lo fp fb dm da cm z m Mft Msz Mal Mbs Mpl Mbg Mlo Mhs Mhf Mhp Mrs Mrf Mto Mtb Mfr Mln Mhb : Int32} (hI : (zInv n Bf Wf Yf Cf F MB MU MH MR MW MY bm rp hf pl bg lo fp fb dm da cm z m Mft Msz Mal Mbs Mpl Mbg Mlo Mhs Mhf Mhp Mrs Mrf Mto Mtb Mfr Mln Mhb)) {rq1 : Int32} {Wfq1 : Nat → Int32} {Yfq1 : Nat → Int32} {Cfq1 : Nat → Int32} {rpq1 : Int32} {hfq1 : Int32} {plq1 : Int32} {loq1 : Int32} {fpq1 : Int32} {fbq1 : Int32} {dmq1 : Int32} {daq1 : Int32} {cmq1 : Int32} (hT1 : (f_X5_read Wf Yf Cf F pl bg lo fp fb dm da cm z m) = (rq1, Wfq1, Yfq1, Cfq1, rpq1, hfq1, plq1, loq1, fpq1, fbq1, dmq1, daq1, cmq1)) {rq2 : Int32} {MHq2 : Nat → Int32} {MRq2 : Nat → Int32} {MWq2 : Nat → Int32} {MYq2 : Nat → Int32} {Mftq2 : Int32} {Mplq2 : Int32} {Mloq2 : Int32} {Mhsq2 : Int32} {Mhfq2 : Int32} {Mhpq2 : Int32} {Mrsq2 : Int32} {Mrfq2 : Int32} {Mtoq2 : Int32} {Mtbq2 : Int32} {Mfrq2 : Int32} {Mlnq2 : Int32} (hT2 : (f_X6_read MB MH MR MW MY Msz Mal Mpl Mbg Mlo Mhs Mhf Mhp Mto Mtb Mfr Mln) = (rq2, MHq2, MRq2, MWq2, MYq2, Mftq2, Mplq2, Mloq2, Mhsq2, Mhfq2, Mhpq2, Mrsq2, Mrfq2, Mtoq2, Mtbq2, Mfrq2, Mlnq2)) : zInv (n + 1) Bf Wfq1 Yfq1 Cfq1 F MB MU MHq2 MRq2 MWq2 MYq2 bm rpq1 hfq1 plq1 bg loq1 fpq1 fbq1 dmq1 daq1 cmq1 z m Mftq2 Msz Mal Mbs Mplq2 Mbg Mloq2 Mhsq2 Mhfq2 Mhpq2 Mrsq2 Mrfq2 Mtoq2 Mtbq2 Mfrq2 Mlnq2 Mhb := by
  obtain ⟨h_b, h_m, h_c, h_z, h_l, h_d, h_Z, h_A, h_B, h_Y, h_P, h_T, h_H, h_R, h_rb⟩ := hI
  exact ⟨h_b, h_m, (sc_read h_m h_c h_l (zdok_le h_d (show 8196 * (512 - (n + 1)) + 8196 ≤ 8196 * (512 - n) by omega)) hT1).1, h_z, (sc_read h_m h_c h_l (zdok_le h_d (show 8196 * (512 - (n + 1)) + 8196 ≤ 8196 * (512 - n) by omega)) hT1).2.1, (sc_read h_m h_c h_l (zdok_le h_d (show 8196 * (512 - (n + 1)) + 8196 ≤ 8196 * (512 - n) by omega)) hT1).2.2, h_Z, h_A, h_B, h_Y, (sm_read h_Z h_A h_Y h_P (zdok_le h_T (show 10020 * (512 - (n + 1)) + 10020 ≤ 10020 * (512 - n) by omega)) h_H hT2).1, (sm_read h_Z h_A h_Y h_P (zdok_le h_T (show 10020 * (512 - (n + 1)) + 10020 ≤ 10020 * (512 - n) by omega)) h_H hT2).2.2.2, (sm_read h_Z h_A h_Y h_P (zdok_le h_T (show 10020 * (512 - (n + 1)) + 10020 ≤ 10020 * (512 - n) by omega)) h_H hT2).2.1, (sm_read h_Z h_A h_Y h_P (zdok_le h_T (show 10020 * (512 - (n + 1)) + 10020 ≤ 10020 * (512 - n) by omega)) h_H hT2).2.2.1, h_rb⟩
theorem ci_octet {n : Nat} (hn : n < 512) {Bf Wf Yf Cf F MB MU MH MR MW MY : Nat → Int32} {bm rp hf pl bg lo fp fb dm da cm z m Mft Msz Mal Mbs Mpl Mbg Mlo Mhs Mhf Mhp Mrs Mrf Mto Mtb Mfr Mln Mhb : Int32} (hI : (zInv n Bf Wf Yf Cf F MB MU MH MR MW MY bm rp hf pl bg lo fp fb dm da cm z m Mft Msz Mal Mbs Mpl Mbg Mlo Mhs Mhf Mhp Mrs Mrf Mto Mtb Mfr Mln Mhb)) {a1 : Int32} {rq1 : Int32} (hT1 : (f_X5_octet Cf cm a1) = rq1) {rq2 : Int32} {Mftq2 : Int32} (hT2 : (f_X6_octet MR Mrs a1) = (rq2, Mftq2)) : zInv (n + 1) Bf Wf Yf Cf F MB MU MH MR MW MY bm rp hf pl bg lo fp fb dm da cm z m Mftq2 Msz Mal Mbs Mpl Mbg Mlo Mhs Mhf Mhp Mrs Mrf Mto Mtb Mfr Mln Mhb := by
  obtain ⟨h_b, h_m, h_c, h_z, h_l, h_d, h_Z, h_A, h_B, h_Y, h_P, h_T, h_H, h_R, h_rb⟩ := hI
  exact ⟨h_b, h_m, h_c, h_z, h_l, (zdok_le (j := 8196 * (512 - (n + 1))) h_d (by omega)), h_Z, h_A, h_B, h_Y, h_P, (zdok_le (j := 10020 * (512 - (n + 1))) h_T (by omega)), h_H, h_R, h_rb⟩
theorem ci_first {n : Nat} (hn : n < 512) {Bf Wf Yf Cf F MB MU MH MR MW MY : Nat → Int32} {bm rp hf pl bg lo fp fb dm da cm z m Mft Msz Mal Mbs Mpl Mbg Mlo Mhs Mhf Mhp Mrs Mrf Mto Mtb Mfr Mln Mhb : Int32} (hI : (zInv n Bf Wf Yf Cf F MB MU MH MR MW MY bm rp hf pl bg lo fp fb dm da cm z m Mft Msz Mal Mbs Mpl Mbg Mlo Mhs Mhf Mhp Mrs Mrf Mto Mtb Mfr Mln Mhb)) : zInv (n + 1) Bf Wf Yf Cf F MB MU MH MR MW MY bm rp hf pl bg lo fp fb dm da cm z m 0 Msz Mal Mbs Mpl Mbg Mlo Mhs Mhf Mhp Mrs Mrf Mto Mtb Mfr Mln Mhb := by
  obtain ⟨h_b, h_m, h_c, h_z, h_l, h_d, h_Z, h_A, h_B, h_Y, h_P, h_T, h_H, h_R, h_rb⟩ := hI
  exact ⟨h_b, h_m, h_c, h_z, h_l, (zdok_le (j := 8196 * (512 - (n + 1))) h_d (by omega)), h_Z, h_A, h_B, h_Y, h_P, (zdok_le (j := 10020 * (512 - (n + 1))) h_T (by omega)), h_H, h_R, h_rb⟩
theorem ci_count_0 {n : Nat} (hn : n < 512) {Bf Wf Yf Cf F MB MU MH MR MW MY : Nat → Int32} {bm rp hf pl bg lo fp fb dm da cm z m Mft Msz Mal Mbs Mpl Mbg Mlo Mhs Mhf Mhp Mrs Mrf Mto Mtb Mfr Mln Mhb : Int32} (hI : (zInv n Bf Wf Yf Cf F MB MU MH MR MW MY bm rp hf pl bg lo fp fb dm da cm z m Mft Msz Mal Mbs Mpl Mbg Mlo Mhs Mhf Mhp Mrs Mrf Mto Mtb Mfr Mln Mhb)) {a1 : Int32} (hx : x_X5_count a1 = none) {rq1 : Int32} {Mftq1 : Int32} (hT1 : (f_X6_count Mal Mbs Mpl Mlo Mto Mtb a1) = (rq1, Mftq1)) : zInv (n + 1) Bf Wf Yf Cf F MB MU MH MR MW MY bm rp hf pl bg lo fp fb dm da cm z m Mftq1 Msz Mal Mbs Mpl Mbg Mlo Mhs Mhf Mhp Mrs Mrf Mto Mtb Mfr Mln Mhb := by
  obtain ⟨h_b, h_m, h_c, h_z, h_l, h_d, h_Z, h_A, h_B, h_Y, h_P, h_T, h_H, h_R, h_rb⟩ := hI
  exact ⟨h_b, h_m, h_c, h_z, h_l, (zdok_le (j := 8196 * (512 - (n + 1))) h_d (by omega)), h_Z, h_A, h_B, h_Y, h_P, (zdok_le (j := 10020 * (512 - (n + 1))) h_T (by omega)), h_H, h_R, h_rb⟩
theorem ci_count_1 {n : Nat} (hn : n < 512) {Bf Wf Yf Cf F MB MU MH MR MW MY : Nat → Int32} {bm rp hf pl bg lo fp fb dm da cm z m Mft Msz Mal Mbs Mpl Mbg Mlo Mhs Mhf Mhp Mrs Mrf Mto Mtb Mfr Mln Mhb : Int32} (hI : (zInv n Bf Wf Yf Cf F MB MU MH MR MW MY bm rp hf pl bg lo fp fb dm da cm z m Mft Msz Mal Mbs Mpl Mbg Mlo Mhs Mhf Mhp Mrs Mrf Mto Mtb Mfr Mln Mhb)) {a1 : Int32} (hx : x_X5_count a1 = some zIAE) {rq2 : Int32} {Mftq2 : Int32} (hT2 : (f_X6_count Mal Mbs Mpl Mlo Mto Mtb a1) = (rq2, Mftq2)) : zInv (n + 1) Bf Wf Yf Cf F MB MU MH MR MW MY bm rp hf pl bg lo fp fb dm da cm z m Mftq2 Msz Mal Mbs Mpl Mbg Mlo Mhs Mhf Mhp Mrs Mrf Mto Mtb Mfr Mln Mhb := by
  obtain ⟨h_b, h_m, h_c, h_z, h_l, h_d, h_Z, h_A, h_B, h_Y, h_P, h_T, h_H, h_R, h_rb⟩ := hI
  exact ⟨h_b, h_m, h_c, h_z, h_l, (zdok_le (j := 8196 * (512 - (n + 1))) h_d (by omega)), h_Z, h_A, h_B, h_Y, h_P, (zdok_le (j := 10020 * (512 - (n + 1))) h_T (by omega)), h_H, h_R, h_rb⟩
theorem ci_told_0 {n : Nat} (hn : n < 512) {Bf Wf Yf Cf F MB MU MH MR MW MY : Nat → Int32} {bm rp hf pl bg lo fp fb dm da cm z m Mft Msz Mal Mbs Mpl Mbg Mlo Mhs Mhf Mhp Mrs Mrf Mto Mtb Mfr Mln Mhb : Int32} (hI : (zInv n Bf Wf Yf Cf F MB MU MH MR MW MY bm rp hf pl bg lo fp fb dm da cm z m Mft Msz Mal Mbs Mpl Mbg Mlo Mhs Mhf Mhp Mrs Mrf Mto Mtb Mfr Mln Mhb)) {a1 a2 : Int32} (hx : x_X5_told a2 = none) {rq1 : Int32} {Mftq1 : Int32} (hT1 : (f_X6_told MW MY Mto a1 a2) = (rq1, Mftq1)) : zInv (n + 1) Bf Wf Yf Cf F MB MU MH MR MW MY bm rp hf pl bg lo fp fb dm da cm z m Mftq1 Msz Mal Mbs Mpl Mbg Mlo Mhs Mhf Mhp Mrs Mrf Mto Mtb Mfr Mln Mhb := by
  obtain ⟨h_b, h_m, h_c, h_z, h_l, h_d, h_Z, h_A, h_B, h_Y, h_P, h_T, h_H, h_R, h_rb⟩ := hI
  exact ⟨h_b, h_m, h_c, h_z, h_l, (zdok_le (j := 8196 * (512 - (n + 1))) h_d (by omega)), h_Z, h_A, h_B, h_Y, h_P, (zdok_le (j := 10020 * (512 - (n + 1))) h_T (by omega)), h_H, h_R, h_rb⟩
theorem ci_told_1 {n : Nat} (hn : n < 512) {Bf Wf Yf Cf F MB MU MH MR MW MY : Nat → Int32} {bm rp hf pl bg lo fp fb dm da cm z m Mft Msz Mal Mbs Mpl Mbg Mlo Mhs Mhf Mhp Mrs Mrf Mto Mtb Mfr Mln Mhb : Int32} (hI : (zInv n Bf Wf Yf Cf F MB MU MH MR MW MY bm rp hf pl bg lo fp fb dm da cm z m Mft Msz Mal Mbs Mpl Mbg Mlo Mhs Mhf Mhp Mrs Mrf Mto Mtb Mfr Mln Mhb)) {a1 a2 : Int32} (hx : x_X5_told a2 = some zIAE) {rq2 : Int32} {Mftq2 : Int32} (hT2 : (f_X6_told MW MY Mto a1 a2) = (rq2, Mftq2)) : zInv (n + 1) Bf Wf Yf Cf F MB MU MH MR MW MY bm rp hf pl bg lo fp fb dm da cm z m Mftq2 Msz Mal Mbs Mpl Mbg Mlo Mhs Mhf Mhp Mrs Mrf Mto Mtb Mfr Mln Mhb := by
  obtain ⟨h_b, h_m, h_c, h_z, h_l, h_d, h_Z, h_A, h_B, h_Y, h_P, h_T, h_H, h_R, h_rb⟩ := hI
  exact ⟨h_b, h_m, h_c, h_z, h_l, (zdok_le (j := 8196 * (512 - (n + 1))) h_d (by omega)), h_Z, h_A, h_B, h_Y, h_P, (zdok_le (j := 10020 * (512 - (n + 1))) h_T (by omega)), h_H, h_R, h_rb⟩
theorem ci_log {n : Nat} (hn : n < 512) {Bf Wf Yf Cf F MB MU MH MR MW MY : Nat → Int32} {bm rp hf pl bg lo fp fb dm da cm z m Mft Msz Mal Mbs Mpl Mbg Mlo Mhs Mhf Mhp Mrs Mrf Mto Mtb Mfr Mln Mhb : Int32} (hI : (zInv n Bf Wf Yf Cf F MB MU MH MR MW MY bm rp hf pl bg lo fp fb dm da cm z m Mft Msz Mal Mbs Mpl Mbg Mlo Mhs Mhf Mhp Mrs Mrf Mto Mtb Mfr Mln Mhb)) {a1 : Int32} {rq1 : Int32} (hT1 : (f_X5_log F m a1) = rq1) {rq2 : Int32} {Mftq2 : Int32} (hT2 : (f_X6_log MB Mal a1) = (rq2, Mftq2)) : zInv (n + 1) Bf Wf Yf Cf F MB MU MH MR MW MY bm rp hf pl bg lo fp fb dm da cm z m Mftq2 Msz Mal Mbs Mpl Mbg Mlo Mhs Mhf Mhp Mrs Mrf Mto Mtb Mfr Mln Mhb := by
  obtain ⟨h_b, h_m, h_c, h_z, h_l, h_d, h_Z, h_A, h_B, h_Y, h_P, h_T, h_H, h_R, h_rb⟩ := hI
  exact ⟨h_b, h_m, h_c, h_z, h_l, (zdok_le (j := 8196 * (512 - (n + 1))) h_d (by omega)), h_Z, h_A, h_B, h_Y, h_P, (zdok_le (j := 10020 * (512 - (n + 1))) h_T (by omega)), h_H, h_R, h_rb⟩
theorem ci_default {n : Nat} (hn : n < 512) {Bf Wf Yf Cf F MB MU MH MR MW MY : Nat → Int32} {bm rp hf pl bg lo fp fb dm da cm z m Mft Msz Mal Mbs Mpl Mbg Mlo Mhs Mhf Mhp Mrs Mrf Mto Mtb Mfr Mln Mhb : Int32} (hI : (zInv n Bf Wf Yf Cf F MB MU MH MR MW MY bm rp hf pl bg lo fp fb dm da cm z m Mft Msz Mal Mbs Mpl Mbg Mlo Mhs Mhf Mhp Mrs Mrf Mto Mtb Mfr Mln Mhb)) : zInv (n + 1) Bf Wf Yf Cf F MB MU MH MR MW MY bm rp hf pl bg lo fp fb dm da cm z m Mft Msz Mal Mbs Mpl Mbg Mlo Mhs Mhf Mhp Mrs Mrf Mto Mtb Mfr Mln Mhb := by
  obtain ⟨h_b, h_m, h_c, h_z, h_l, h_d, h_Z, h_A, h_B, h_Y, h_P, h_T, h_H, h_R, h_rb⟩ := hI
  exact ⟨h_b, h_m, h_c, h_z, h_l, (zdok_le (j := 8196 * (512 - (n + 1))) h_d (by omega)), h_Z, h_A, h_B, h_Y, h_P, (zdok_le (j := 10020 * (512 - (n + 1))) h_T (by omega)), h_H, h_R, h_rb⟩
theorem ct_feed_0 {n : Nat} {Bf Wf Yf Cf F MB MU MH MR MW MY : Nat → Int32} {bm rp hf pl bg lo fp fb dm da cm z m Mft Msz Mal Mbs Mpl Mbg Mlo Mhs Mhf Mhp Mrs Mrf Mto Mtb Mfr Mln Mhb : Int32} (hI : (zInv n Bf Wf Yf Cf F MB MU MH MR MW MY bm rp hf pl bg lo fp fb dm da cm z m Mft Msz Mal Mbs Mpl Mbg Mlo Mhs Mhf Mhp Mrs Mrf Mto Mtb Mfr Mln Mhb)) {a1 a2 a3 a4 a5 : Int32} (hx : x_X5_feed bm a1 = none) {rq1 : Int32} {MUq1 : Nat → Int32} {Mftq1 : Int32} {Mbsq1 : Int32} (hT1 : (f_X6_feed MU Mbs a1 a2 a3 a4 a5) = (rq1, MUq1, Mftq1, Mbsq1)) : Mftq1 = 0 := by
  obtain ⟨h_b, h_m, h_c, h_z, h_l, h_d, h_Z, h_A, h_B, h_Y, h_P, h_T, h_H, h_R, h_rb⟩ := hI
  exact qt_feed_0 h_rb h_b h_B hx hT1
theorem cr_feed {n : Nat} {Bf Wf Yf Cf F MB MU MH MR MW MY : Nat → Int32} {bm rp hf pl bg lo fp fb dm da cm z m Mft Msz Mal Mbs Mpl Mbg Mlo Mhs Mhf Mhp Mrs Mrf Mto Mtb Mfr Mln Mhb : Int32} (hI : (zInv n Bf Wf Yf Cf F MB MU MH MR MW MY bm rp hf pl bg lo fp fb dm da cm z m Mft Msz Mal Mbs Mpl Mbg Mlo Mhs Mhf Mhp Mrs Mrf Mto Mtb Mfr Mln Mhb)) {J : Nat → Int64} {a1 a2 a3 a4 a5 : Int32} (hx : x_X5_feed bm a1 = none) {rq1 : Int32} {MUq1 : Nat → Int32} {Mftq1 : Int32} {Mbsq1 : Int32} (hT1 : (f_X6_feed MU Mbs a1 a2 a3 a4 a5) = (rq1, MUq1, Mftq1, Mbsq1)) : (vp_updL J (0 : Int32).toNatClampNeg ((f_X5_feed Bf bm a1 a2 a3 a4 a5).1.toInt64)) (0 : Int32).toNatClampNeg = rq1.toInt64 := by
  obtain ⟨h_b, h_m, h_c, h_z, h_l, h_d, h_Z, h_A, h_B, h_Y, h_P, h_T, h_H, h_R, h_rb⟩ := hI
  rw [pk_uLs, qr_feed h_rb h_b h_B hx hT1]
theorem ct_feed_1 {n : Nat} {Bf Wf Yf Cf F MB MU MH MR MW MY : Nat → Int32} {bm rp hf pl bg lo fp fb dm da cm z m Mft Msz Mal Mbs Mpl Mbg Mlo Mhs Mhf Mhp Mrs Mrf Mto Mtb Mfr Mln Mhb : Int32} (hI : (zInv n Bf Wf Yf Cf F MB MU MH MR MW MY bm rp hf pl bg lo fp fb dm da cm z m Mft Msz Mal Mbs Mpl Mbg Mlo Mhs Mhf Mhp Mrs Mrf Mto Mtb Mfr Mln Mhb)) {a1 a2 a3 a4 a5 : Int32} (hx : x_X5_feed bm a1 = some zIAE) {rq6 : Int32} {MUq6 : Nat → Int32} {Mftq6 : Int32} {Mbsq6 : Int32} (hT6 : (f_X6_feed MU Mbs a1 a2 a3 a4 a5) = (rq6, MUq6, Mftq6, Mbsq6)) : Mftq6 = 1 := by
  obtain ⟨h_b, h_m, h_c, h_z, h_l, h_d, h_Z, h_A, h_B, h_Y, h_P, h_T, h_H, h_R, h_rb⟩ := hI
  exact qt_feed_1 h_rb h_b h_B hx hT6
theorem ct_feed_2 {n : Nat} {Bf Wf Yf Cf F MB MU MH MR MW MY : Nat → Int32} {bm rp hf pl bg lo fp fb dm da cm z m Mft Msz Mal Mbs Mpl Mbg Mlo Mhs Mhf Mhp Mrs Mrf Mto Mtb Mfr Mln Mhb : Int32} (hI : (zInv n Bf Wf Yf Cf F MB MU MH MR MW MY bm rp hf pl bg lo fp fb dm da cm z m Mft Msz Mal Mbs Mpl Mbg Mlo Mhs Mhf Mhp Mrs Mrf Mto Mtb Mfr Mln Mhb)) {a1 a2 a3 a4 a5 : Int32} (hx : x_X5_feed bm a1 = some zISE) {rq10 : Int32} {MUq10 : Nat → Int32} {Mftq10 : Int32} {Mbsq10 : Int32} (hT10 : (f_X6_feed MU Mbs a1 a2 a3 a4 a5) = (rq10, MUq10, Mftq10, Mbsq10)) : Mftq10 = 2 := by
  obtain ⟨h_b, h_m, h_c, h_z, h_l, h_d, h_Z, h_A, h_B, h_Y, h_P, h_T, h_H, h_R, h_rb⟩ := hI
  exact qt_feed_2 h_rb h_b h_B hx hT10
