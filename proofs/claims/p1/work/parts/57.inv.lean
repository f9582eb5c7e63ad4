/-! the fresh state (p1): what the first call finds -/
def zInv (Bf : Nat → Int32) (Wf : Nat → Int32) (Yf : Nat → Int32) (Cf : Nat → Int32) (F : Nat → Int32) (MB : Nat → Int32) (MU : Nat → Int32) (MH : Nat → Int32) (MR : Nat → Int32) (MW : Nat → Int32) (MY : Nat → Int32) (bm : Int32) (rp : Int32) (hf : Int32) (pl : Int32) (bg : Int32) (lo : Int32) (fp : Int32) (fb : Int32) (dm : Int32) (da : Int32) (cm : Int32) (z : Int32) (m : Int32) (Mft : Int32) (Msz : Int32) (Mal : Int32) (Mbs : Int32) (Mpl : Int32) (Mbg : Int32) (Mlo : Int32) (Mhs : Int32) (Mhf : Int32) (Mhp : Int32) (Mrs : Int32) (Mrf : Int32) (Mto : Int32) (Mtb : Int32) (Mfr : Int32) (Mln : Int32) (Mhb : Int32) : Prop := Bf = (fun _ => 0) ∧ Wf = (fun _ => 0) ∧ Yf = (fun _ => 0) ∧ Cf = (fun _ => 0) ∧ F = (fun _ => 0) ∧ MB = (fun _ => 0) ∧ MU = (fun _ => 0) ∧ MH = (fun _ => 0) ∧ MR = (fun _ => 0) ∧ MW = (fun _ => 0) ∧ MY = (fun _ => 0) ∧ bm = 0 ∧ rp = (-1) ∧ hf = 0 ∧ pl = 0 ∧ bg = 0 ∧ lo = 0 ∧ fp = 0 ∧ fb = 0 ∧ dm = 0 ∧ da = 0 ∧ cm = 0 ∧ z = 64 ∧ m = 0 ∧ Mft = 0 ∧ Msz = 64 ∧ Mal = 0 ∧ Mbs = 0 ∧ Mpl = 0 ∧ Mbg = 0 ∧ Mlo = 0 ∧ Mhs = 0 ∧ Mhf = 0 ∧ Mhp = 0 ∧ Mrs = (-1) ∧ Mrf = (-1) ∧ Mto = 0 ∧ Mtb = 0 ∧ Mfr = 0 ∧ Mln = 0 ∧ Mhb = 0
theorem zI_bm {Bf Wf Yf Cf F MB MU MH MR MW MY : Nat → Int32} {bm rp hf pl bg lo fp fb dm da cm z m Mft Msz Mal Mbs Mpl Mbg Mlo Mhs Mhf Mhp Mrs Mrf Mto Mtb Mfr Mln Mhb : Int32} (hI : (zInv Bf Wf Yf Cf F MB MU MH MR MW MY bm rp hf pl bg lo fp fb dm da cm z m Mft Msz Mal Mbs Mpl Mbg Mlo Mhs Mhf Mhp Mrs Mrf Mto Mtb Mfr Mln Mhb))  : zok 400 bm := by
  obtain ⟨rfl, rfl, rfl, rfl, rfl, rfl, rfl, rfl, rfl, rfl, rfl, rfl, rfl, rfl, rfl, rfl, rfl, rfl, rfl, rfl, rfl, rfl, rfl, rfl, rfl, rfl, rfl, rfl, rfl, rfl, rfl, rfl, rfl, rfl, rfl, rfl, rfl, rfl, rfl, rfl, rfl⟩ := hI
  exact ⟨by decide, by decide, by decide⟩
theorem zI_m {Bf Wf Yf Cf F MB MU MH MR MW MY : Nat → Int32} {bm rp hf pl bg lo fp fb dm da cm z m Mft Msz Mal Mbs Mpl Mbg Mlo Mhs Mhf Mhp Mrs Mrf Mto Mtb Mfr Mln Mhb : Int32} (hI : (zInv Bf Wf Yf Cf F MB MU MH MR MW MY bm rp hf pl bg lo fp fb dm da cm z m Mft Msz Mal Mbs Mpl Mbg Mlo Mhs Mhf Mhp Mrs Mrf Mto Mtb Mfr Mln Mhb))  : zok 4096 m := by
  obtain ⟨rfl, rfl, rfl, rfl, rfl, rfl, rfl, rfl, rfl, rfl, rfl, rfl, rfl, rfl, rfl, rfl, rfl, rfl, rfl, rfl, rfl, rfl, rfl, rfl, rfl, rfl, rfl, rfl, rfl, rfl, rfl, rfl, rfl, rfl, rfl, rfl, rfl, rfl, rfl, rfl, rfl⟩ := hI
  exact ⟨by decide, by decide, by decide⟩
theorem zI_cm {Bf Wf Yf Cf F MB MU MH MR MW MY : Nat → Int32} {bm rp hf pl bg lo fp fb dm da cm z m Mft Msz Mal Mbs Mpl Mbg Mlo Mhs Mhf Mhp Mrs Mrf Mto Mtb Mfr Mln Mhb : Int32} (hI : (zInv Bf Wf Yf Cf F MB MU MH MR MW MY bm rp hf pl bg lo fp fb dm da cm z m Mft Msz Mal Mbs Mpl Mbg Mlo Mhs Mhf Mhp Mrs Mrf Mto Mtb Mfr Mln Mhb))  : zok 4096 cm := by
  obtain ⟨rfl, rfl, rfl, rfl, rfl, rfl, rfl, rfl, rfl, rfl, rfl, rfl, rfl, rfl, rfl, rfl, rfl, rfl, rfl, rfl, rfl, rfl, rfl, rfl, rfl, rfl, rfl, rfl, rfl, rfl, rfl, rfl, rfl, rfl, rfl, rfl, rfl, rfl, rfl, rfl, rfl⟩ := hI
  exact ⟨by decide, by decide, by decide⟩
theorem zI_z {Bf Wf Yf Cf F MB MU MH MR MW MY : Nat → Int32} {bm rp hf pl bg lo fp fb dm da cm z m Mft Msz Mal Mbs Mpl Mbg Mlo Mhs Mhf Mhp Mrs Mrf Mto Mtb Mfr Mln Mhb : Int32} (hI : (zInv Bf Wf Yf Cf F MB MU MH MR MW MY bm rp hf pl bg lo fp fb dm da cm z m Mft Msz Mal Mbs Mpl Mbg Mlo Mhs Mhf Mhp Mrs Mrf Mto Mtb Mfr Mln Mhb))  : zsz z := by
  obtain ⟨rfl, rfl, rfl, rfl, rfl, rfl, rfl, rfl, rfl, rfl, rfl, rfl, rfl, rfl, rfl, rfl, rfl, rfl, rfl, rfl, rfl, rfl, rfl, rfl, rfl, rfl, rfl, rfl, rfl, rfl, rfl, rfl, rfl, rfl, rfl, rfl, rfl, rfl, rfl, rfl, rfl⟩ := hI
  exact ⟨by decide, by decide⟩
theorem zI_lo {Bf Wf Yf Cf F MB MU MH MR MW MY : Nat → Int32} {bm rp hf pl bg lo fp fb dm da cm z m Mft Msz Mal Mbs Mpl Mbg Mlo Mhs Mhf Mhp Mrs Mrf Mto Mtb Mfr Mln Mhb : Int32} (hI : (zInv Bf Wf Yf Cf F MB MU MH MR MW MY bm rp hf pl bg lo fp fb dm da cm z m Mft Msz Mal Mbs Mpl Mbg Mlo Mhs Mhf Mhp Mrs Mrf Mto Mtb Mfr Mln Mhb))  : zbo lo := by
  obtain ⟨rfl, rfl, rfl, rfl, rfl, rfl, rfl, rfl, rfl, rfl, rfl, rfl, rfl, rfl, rfl, rfl, rfl, rfl, rfl, rfl, rfl, rfl, rfl, rfl, rfl, rfl, rfl, rfl, rfl, rfl, rfl, rfl, rfl, rfl, rfl, rfl, rfl, rfl, rfl, rfl, rfl⟩ := hI
  exact rfl
theorem zI_dm {Bf Wf Yf Cf F MB MU MH MR MW MY : Nat → Int32} {bm rp hf pl bg lo fp fb dm da cm z m Mft Msz Mal Mbs Mpl Mbg Mlo Mhs Mhf Mhp Mrs Mrf Mto Mtb Mfr Mln Mhb : Int32} (hI : (zInv Bf Wf Yf Cf F MB MU MH MR MW MY bm rp hf pl bg lo fp fb dm da cm z m Mft Msz Mal Mbs Mpl Mbg Mlo Mhs Mhf Mhp Mrs Mrf Mto Mtb Mfr Mln Mhb))  : zdok 8196 dm := by
  obtain ⟨rfl, rfl, rfl, rfl, rfl, rfl, rfl, rfl, rfl, rfl, rfl, rfl, rfl, rfl, rfl, rfl, rfl, rfl, rfl, rfl, rfl, rfl, rfl, rfl, rfl, rfl, rfl, rfl, rfl, rfl, rfl, rfl, rfl, rfl, rfl, rfl, rfl, rfl, rfl, rfl, rfl⟩ := hI
  exact ⟨by decide, by decide⟩
theorem zI_Msz {Bf Wf Yf Cf F MB MU MH MR MW MY : Nat → Int32} {bm rp hf pl bg lo fp fb dm da cm z m Mft Msz Mal Mbs Mpl Mbg Mlo Mhs Mhf Mhp Mrs Mrf Mto Mtb Mfr Mln Mhb : Int32} (hI : (zInv Bf Wf Yf Cf F MB MU MH MR MW MY bm rp hf pl bg lo fp fb dm da cm z m Mft Msz Mal Mbs Mpl Mbg Mlo Mhs Mhf Mhp Mrs Mrf Mto Mtb Mfr Mln Mhb))  : zsz Msz := by
  obtain ⟨rfl, rfl, rfl, rfl, rfl, rfl, rfl, rfl, rfl, rfl, rfl, rfl, rfl, rfl, rfl, rfl, rfl, rfl, rfl, rfl, rfl, rfl, rfl, rfl, rfl, rfl, rfl, rfl, rfl, rfl, rfl, rfl, rfl, rfl, rfl, rfl, rfl, rfl, rfl, rfl, rfl⟩ := hI
  exact ⟨by decide, by decide⟩
theorem zI_Mal {Bf Wf Yf Cf F MB MU MH MR MW MY : Nat → Int32} {bm rp hf pl bg lo fp fb dm da cm z m Mft Msz Mal Mbs Mpl Mbg Mlo Mhs Mhf Mhp Mrs Mrf Mto Mtb Mfr Mln Mhb : Int32} (hI : (zInv Bf Wf Yf Cf F MB MU MH MR MW MY bm rp hf pl bg lo fp fb dm da cm z m Mft Msz Mal Mbs Mpl Mbg Mlo Mhs Mhf Mhp Mrs Mrf Mto Mtb Mfr Mln Mhb))  : zok 4096 Mal := by
  obtain ⟨rfl, rfl, rfl, rfl, rfl, rfl, rfl, rfl, rfl, rfl, rfl, rfl, rfl, rfl, rfl, rfl, rfl, rfl, rfl, rfl, rfl, rfl, rfl, rfl, rfl, rfl, rfl, rfl, rfl, rfl, rfl, rfl, rfl, rfl, rfl, rfl, rfl, rfl, rfl, rfl, rfl⟩ := hI
  exact ⟨by decide, by decide, by decide⟩
theorem zI_Mbs {Bf Wf Yf Cf F MB MU MH MR MW MY : Nat → Int32} {bm rp hf pl bg lo fp fb dm da cm z m Mft Msz Mal Mbs Mpl Mbg Mlo Mhs Mhf Mhp Mrs Mrf Mto Mtb Mfr Mln Mhb : Int32} (hI : (zInv Bf Wf Yf Cf F MB MU MH MR MW MY bm rp hf pl bg lo fp fb dm da cm z m Mft Msz Mal Mbs Mpl Mbg Mlo Mhs Mhf Mhp Mrs Mrf Mto Mtb Mfr Mln Mhb))  : zok 400 Mbs := by
  obtain ⟨rfl, rfl, rfl, rfl, rfl, rfl, rfl, rfl, rfl, rfl, rfl, rfl, rfl, rfl, rfl, rfl, rfl, rfl, rfl, rfl, rfl, rfl, rfl, rfl, rfl, rfl, rfl, rfl, rfl, rfl, rfl, rfl, rfl, rfl, rfl, rfl, rfl, rfl, rfl, rfl, rfl⟩ := hI
  exact ⟨by decide, by decide, by decide⟩
theorem zI_MB {Bf Wf Yf Cf F MB MU MH MR MW MY : Nat → Int32} {bm rp hf pl bg lo fp fb dm da cm z m Mft Msz Mal Mbs Mpl Mbg Mlo Mhs Mhf Mhp Mrs Mrf Mto Mtb Mfr Mln Mhb : Int32} (hI : (zInv Bf Wf Yf Cf F MB MU MH MR MW MY bm rp hf pl bg lo fp fb dm da cm z m Mft Msz Mal Mbs Mpl Mbg Mlo Mhs Mhf Mhp Mrs Mrf Mto Mtb Mfr Mln Mhb))  : zby 4096 MB := by
  obtain ⟨rfl, rfl, rfl, rfl, rfl, rfl, rfl, rfl, rfl, rfl, rfl, rfl, rfl, rfl, rfl, rfl, rfl, rfl, rfl, rfl, rfl, rfl, rfl, rfl, rfl, rfl, rfl, rfl, rfl, rfl, rfl, rfl, rfl, rfl, rfl, rfl, rfl, rfl, rfl, rfl, rfl⟩ := hI
  exact fun _ _ => ⟨(by show 0 ≤ (0 : Int32).toInt; decide), (by show (0 : Int32).toInt ≤ 255; decide)⟩
theorem zI_Mpl {Bf Wf Yf Cf F MB MU MH MR MW MY : Nat → Int32} {bm rp hf pl bg lo fp fb dm da cm z m Mft Msz Mal Mbs Mpl Mbg Mlo Mhs Mhf Mhp Mrs Mrf Mto Mtb Mfr Mln Mhb : Int32} (hI : (zInv Bf Wf Yf Cf F MB MU MH MR MW MY bm rp hf pl bg lo fp fb dm da cm z m Mft Msz Mal Mbs Mpl Mbg Mlo Mhs Mhf Mhp Mrs Mrf Mto Mtb Mfr Mln Mhb))  : zpl Mpl := by
  obtain ⟨rfl, rfl, rfl, rfl, rfl, rfl, rfl, rfl, rfl, rfl, rfl, rfl, rfl, rfl, rfl, rfl, rfl, rfl, rfl, rfl, rfl, rfl, rfl, rfl, rfl, rfl, rfl, rfl, rfl, rfl, rfl, rfl, rfl, rfl, rfl, rfl, rfl, rfl, rfl, rfl, rfl⟩ := hI
  exact ⟨by decide, by decide⟩
theorem zI_Mto {Bf Wf Yf Cf F MB MU MH MR MW MY : Nat → Int32} {bm rp hf pl bg lo fp fb dm da cm z m Mft Msz Mal Mbs Mpl Mbg Mlo Mhs Mhf Mhp Mrs Mrf Mto Mtb Mfr Mln Mhb : Int32} (hI : (zInv Bf Wf Yf Cf F MB MU MH MR MW MY bm rp hf pl bg lo fp fb dm da cm z m Mft Msz Mal Mbs Mpl Mbg Mlo Mhs Mhf Mhp Mrs Mrf Mto Mtb Mfr Mln Mhb))  : zdok 10020 Mto := by
  obtain ⟨rfl, rfl, rfl, rfl, rfl, rfl, rfl, rfl, rfl, rfl, rfl, rfl, rfl, rfl, rfl, rfl, rfl, rfl, rfl, rfl, rfl, rfl, rfl, rfl, rfl, rfl, rfl, rfl, rfl, rfl, rfl, rfl, rfl, rfl, rfl, rfl, rfl, rfl, rfl, rfl, rfl⟩ := hI
  exact ⟨by decide, by decide⟩
theorem zI_Mhs {Bf Wf Yf Cf F MB MU MH MR MW MY : Nat → Int32} {bm rp hf pl bg lo fp fb dm da cm z m Mft Msz Mal Mbs Mpl Mbg Mlo Mhs Mhf Mhp Mrs Mrf Mto Mtb Mfr Mln Mhb : Int32} (hI : (zInv Bf Wf Yf Cf F MB MU MH MR MW MY bm rp hf pl bg lo fp fb dm da cm z m Mft Msz Mal Mbs Mpl Mbg Mlo Mhs Mhf Mhp Mrs Mrf Mto Mtb Mfr Mln Mhb))  : 0 ≤ Mhs.toInt ∧ Mhs.toInt ≤ Mpl.toInt ∧ Mhs.toInt ≤ 4096 := by
  obtain ⟨rfl, rfl, rfl, rfl, rfl, rfl, rfl, rfl, rfl, rfl, rfl, rfl, rfl, rfl, rfl, rfl, rfl, rfl, rfl, rfl, rfl, rfl, rfl, rfl, rfl, rfl, rfl, rfl, rfl, rfl, rfl, rfl, rfl, rfl, rfl, rfl, rfl, rfl, rfl, rfl, rfl⟩ := hI
  exact ⟨by decide, by decide, by decide⟩
theorem zI_Mrs {Bf Wf Yf Cf F MB MU MH MR MW MY : Nat → Int32} {bm rp hf pl bg lo fp fb dm da cm z m Mft Msz Mal Mbs Mpl Mbg Mlo Mhs Mhf Mhp Mrs Mrf Mto Mtb Mfr Mln Mhb : Int32} (hI : (zInv Bf Wf Yf Cf F MB MU MH MR MW MY bm rp hf pl bg lo fp fb dm da cm z m Mft Msz Mal Mbs Mpl Mbg Mlo Mhs Mhf Mhp Mrs Mrf Mto Mtb Mfr Mln Mhb))  : zrs Mrs := by
  obtain ⟨rfl, rfl, rfl, rfl, rfl, rfl, rfl, rfl, rfl, rfl, rfl, rfl, rfl, rfl, rfl, rfl, rfl, rfl, rfl, rfl, rfl, rfl, rfl, rfl, rfl, rfl, rfl, rfl, rfl, rfl, rfl, rfl, rfl, rfl, rfl, rfl, rfl, rfl, rfl, rfl, rfl⟩ := hI
  exact ⟨by decide, by decide⟩
theorem kisIn0 {v lo hi : Int32} (h : ¬ (lo ≤ v ∧ v ≤ hi)) : f_X6_isIn v lo hi = 0 := by
  unfold f_X6_isIn
  split
  · rfl
  · next c1 =>
    split
    · rfl
    · next c2 =>
      exact absurd ⟨Int32.not_lt.mp c1, Int32.not_lt.mp c2⟩ h
theorem kisIn1 {v lo hi : Int32} (h1 : lo ≤ v) (h2 : v ≤ hi) : ¬ f_X6_isIn v lo hi = 0 := by
  unfold f_X6_isIn
  rw [if_neg (Int32.not_lt.mpr h1), if_neg (Int32.not_lt.mpr h2)]
  decide
theorem kbyte (v : Int32) : f_X5_isByte v = f_X6_isIn v 0 255 := rfl
section
variable {a1 a2 a3 a4 a5 : Int32}
theorem kx_clear : (x_X5_clear a1 = none → ¬ f_X6_isIn a1 16 512 = 0) ∧ (x_X5_clear a1 = some zIAE → f_X6_isIn a1 16 512 = 0) := by
  unfold x_X5_clear
  split
  · next c => exact ⟨(fun h => nomatch h), fun _ => kisIn0 (fun q => absurd c (Int32.not_lt.mpr q.1))⟩
  · next c =>
    split
    · next c2 => exact ⟨fun _ => kisIn1 (Int32.not_lt.mp c) c2, (fun h => nomatch h)⟩
    · next c2 => exact ⟨(fun h => nomatch h), fun _ => kisIn0 (fun q => c2 q.2)⟩
theorem kt_clear_0 (hx : x_X5_clear a1 = none) : (f_X6_clear 64 0 0 0 0 0 0 (-1) (-1) 0 0 a1).1 = 0 := by
  unfold f_X6_clear
  rw [if_neg (kx_clear.1 hx)]
theorem kt_clear_1 (hx : x_X5_clear a1 = some zIAE) : (f_X6_clear 64 0 0 0 0 0 0 (-1) (-1) 0 0 a1).1 = 1 := by
  unfold f_X6_clear
  rw [if_pos (kx_clear.2 hx)]
theorem kx_feed : (x_X5_feed 0 a1 = none → (¬ f_X6_isIn a1 0 16 = 0 ∧ (0 + a1) ≤ 400) ∧ ¬ a1 < 0 ∧ a1 ≤ 16 ∧ ¬ f_X3_hasRoomFor 400 0 a1 = 0) ∧ (x_X5_feed 0 a1 = some zIAE → f_X6_isIn a1 0 16 = 0) ∧ (x_X5_feed 0 a1 = some zISE → False) := by
  unfold x_X5_feed
  split
  · next c => exact ⟨(fun h => nomatch h), fun _ => kisIn0 (fun q => absurd c (Int32.not_lt.mpr q.1)), fun h => absurd (Option.some.inj h) (by decide)⟩
  · next c =>
    split
    · next c2 =>
      have h1 : 0 ≤ a1.toInt ∧ a1.toInt ≤ 16 := by
        simp only [Int32.lt_iff_toInt_lt, Int32.le_iff_toInt_le] at c c2
        have o0 : (0 : Int32).toInt = 0 := rfl
        have o16 : (16 : Int32).toInt = 16 := rfl
        omega
      have hr : ¬ f_X3_hasRoomFor 400 0 a1 = 0 := fun e => by
        have := (zhr_room (N := 400) (m := 0) (v := a1) ⟨by decide, by decide, by decide⟩ ⟨by omega, by omega⟩).mp e
        have o0 : (0 : Int32).toInt = 0 := rfl
        omega
      split
      · next c3 => exact absurd c3 hr
      · refine ⟨fun _ => ⟨⟨kisIn1 (Int32.not_lt.mp c) c2, ?_⟩, c, c2, hr⟩, (fun h => nomatch h), (fun h => nomatch h)⟩
        rw [Int32.zero_add, Int32.le_iff_toInt_le]
        have o : (400 : Int32).toInt = 400 := rfl
        omega
    · next c2 => exact ⟨(fun h => nomatch h), fun _ => kisIn0 (fun q => c2 q.2), fun h => absurd (Option.some.inj h) (by decide)⟩
theorem kt_feed_0 (hx : x_X5_feed 0 a1 = none) : (f_X6_feed (fun _ => 0) 0 a1 a2 a3 a4 a5).2.2.1 = 0 := by
  obtain ⟨⟨h1, h2⟩, -⟩ := kx_feed.1 hx
  unfold f_X6_feed
  rw [if_neg h1, if_pos h2]
theorem kt_feed_1 (hx : x_X5_feed 0 a1 = some zIAE) : (f_X6_feed (fun _ => 0) 0 a1 a2 a3 a4 a5).2.2.1 = 1 := by
  unfold f_X6_feed
  rw [if_pos (kx_feed.2.1 hx)]
theorem kt_feed_2 (hx : x_X5_feed 0 a1 = some zISE) : (f_X6_feed (fun _ => 0) 0 a1 a2 a3 a4 a5).2.2.1 = 2 := absurd (kx_feed.2.2 hx) id
theorem kr_feed (hx : x_X5_feed 0 a1 = none) : (f_X5_feed (fun _ => 0) 0 a1 a2 a3 a4 a5).1 = (f_X6_feed (fun _ => 0) 0 a1 a2 a3 a4 a5).1 := by
  obtain ⟨⟨h1, h2⟩, h3, h4, h5⟩ := kx_feed.1 hx
  have hv : 0 ≤ a1.toInt ∧ a1.toInt ≤ 16 := by
    simp only [Int32.lt_iff_toInt_lt, Int32.le_iff_toInt_le] at h3 h4
    have o0 : (0 : Int32).toInt = 0 := rfl
    have o16 : (16 : Int32).toInt = 16 := rfl
    omega
  have hc := zclamp hv.1
  unfold f_X5_feed f_X6_feed
  rw [if_neg h3, if_pos h4, if_neg h5, if_neg h1, if_pos h2]
  have e : a1 = nI a1.toNatClampNeg := (znI_clamp hv.1).symm
  have em := zmf_lp (pa := a2) (pb := a3) (pc := a4) (pd := a5) (U := fun _ => 0) (m := 0) a1.toNatClampNeg
  generalize hT : lp_X6_feed a2 a3 a4 a5 (fun _ => 0, 0) a1.toNatClampNeg = T at em ⊢
  obtain ⟨U1, n1⟩ := T
  generalize hk : a1.toNatClampNeg = k at *
  subst e
  generalize hT1 : f_X5_feedFrom (fun _ => 0) 0 a2 (zMin (nI k) 4) = T1
  obtain ⟨G1, m1⟩ := T1
  dsimp only
  generalize hT2 : f_X5_feedFrom G1 m1 a3 (zMin (nI k - 4) 4) = T2
  obtain ⟨G2, m2⟩ := T2
  dsimp only
  generalize hT3 : f_X5_feedFrom G2 m2 a4 (zMin (nI k - 8) 4) = T3
  obtain ⟨G3, m3⟩ := T3
  dsimp only
  generalize hT4 : f_X5_feedFrom G3 m3 a5 (zMin (nI k - 12) 4) = T4
  obtain ⟨G4, m4⟩ := T4
  dsimp only
  have := zfeed_m (k := k) (by omega) ⟨by decide, by have o0 : (0 : Int32).toInt = 0 := rfl; omega, by decide⟩ hT1 hT2 hT3 hT4
  rw [this]
  exact em.symm
theorem kt_check_0 (hx : x_X5_check a1 = none) : (f_X6_check (fun _ => 0) 0 a1).2 = 0 := by
  unfold x_X5_check at hx
  split at hx
  · exact nomatch hx
  · next c => unfold f_X6_check; rw [if_neg (kbyte a1 ▸ c)]
theorem kt_check_1 (hx : x_X5_check a1 = some zIAE) : (f_X6_check (fun _ => 0) 0 a1).2 = 1 := by
  unfold x_X5_check at hx
  split at hx
  · next c => unfold f_X6_check; rw [if_pos (kbyte a1 ▸ c)]
  · exact nomatch hx
def kwb (c q : Int32) : Int32 := (zUshr ((zUshr c 4) ^^^ (zRem (((c ^^^ q) &&& 15)).toNatClampNeg)) 4) ^^^ (zRem (((((zUshr c 4) ^^^ (zRem (((c ^^^ q) &&& 15)).toNatClampNeg)) ^^^ (zUshr q 4)) &&& 15)).toNatClampNeg)
theorem kcrc1 : ∀ n, n < 256 → kwb (-1) (nI n) = f_X6_more (-1) (nI n) := by decide +kernel
theorem kbyte_n {v : Int32} (c : ¬ f_X5_isByte v = 0) : ∃ n : Nat, n < 256 ∧ v = nI n := by
  obtain ⟨h1, h2⟩ := zisIn (kbyte v).symm c
  simp only [Int32.le_iff_toInt_le] at h1 h2
  have o0 : (0 : Int32).toInt = 0 := rfl
  have o : (255 : Int32).toInt = 255 := rfl
  obtain ⟨n, hn, e, en⟩ := znI_ex (x := v) (by omega)
  exact ⟨n, by omega, e⟩
theorem kr_check (hx : x_X5_check a1 = none) : (f_X5_check (fun _ => 0) 0 a1) = (f_X6_check (fun _ => 0) 0 a1).1 := by
  unfold x_X5_check at hx
  split at hx
  · exact nomatch hx
  · next c =>
    unfold f_X5_check f_X6_check
    rw [if_neg c, if_neg (kbyte a1 ▸ c)]
    obtain ⟨n, hn, rfl⟩ := kbyte_n c
    have e := kcrc1 n hn
    show f_X4_of (fun _ => 0) 0 (nI n) 0 0 = f_X6_checkOf (fun _ => 0) (nI n) 0 0
    unfold f_X4_of f_X6_checkOf
    rw [← e]
    rfl
theorem kt_raw_0 (hx : x_X5_raw a1 = none) : (f_X6_raw (fun _ => 0) (fun _ => 0) 0 0 a1).2.2.1 = 0 := by
  unfold x_X5_raw at hx
  split at hx
  · exact nomatch hx
  · next c =>
    unfold f_X6_raw
    rw [if_neg (kbyte a1 ▸ c)]
    split
    · split
      rfl
    · rfl
theorem kt_raw_1 (hx : x_X5_raw a1 = some zIAE) : (f_X6_raw (fun _ => 0) (fun _ => 0) 0 0 a1).2.2.1 = 1 := by
  unfold x_X5_raw at hx
  split at hx
  · next c => unfold f_X6_raw; rw [if_pos (kbyte a1 ▸ c)]
  · exact nomatch hx
theorem kr_raw (hx : x_X5_raw a1 = none) : (f_X5_raw (fun _ => 0) (fun _ => 0) 0 0 a1).1 = (f_X6_raw (fun _ => 0) (fun _ => 0) 0 0 a1).1 := by
  unfold x_X5_raw at hx
  split at hx
  · exact nomatch hx
  · next c =>
    unfold f_X5_raw f_X6_raw
    rw [if_neg c, if_neg (kbyte a1 ▸ c), if_pos (by decide)]
    obtain ⟨G, e⟩ := zaf_1 (F := fun _ => 0) (F2 := fun _ => 0) (m := 0) (m2 := 0) (q := a1) (x := 0) (v := 0) ⟨by decide, by decide, by decide⟩ (by decide)
    rw [e]
    generalize hT : f_X6_putFragment (fun _ => 0) (fun _ => 0) 0 a1 0 0 = T
    obtain ⟨B1, n1⟩ := T
    have := zpf_al (by decide) hT
    rw [this]
    rfl
theorem kx_put : x_X5_put 0 a1 a2 = some zIOE := by
  have h : f_X3_has 0 a1 = 0 := by
    unfold f_X3_has
    split
    · rfl
    · next c => rw [if_pos (Int32.not_lt.mp c)]
  unfold x_X5_put
  rw [if_pos h]
theorem kt_put_0 (hx : x_X5_put 0 a1 a2 = none) : (f_X6_put_ (fun _ => 0) 0 a1 a2).2.2 = 0 := by
  rw [kx_put] at hx; exact nomatch hx
theorem kt_put_1 (_ : x_X5_put 0 a1 a2 = some zIOE) : (f_X6_put_ (fun _ => 0) 0 a1 a2).2.2 = 1 := by
  unfold f_X6_put_
  have h : f_X6_isIn a1 0 (0 - 1) = 0 := kisIn0 (fun q => by
    have := Int32.le_trans q.1 q.2
    exact absurd this (by decide))
  rw [if_pos h]
theorem kt_put_2 (hx : x_X5_put 0 a1 a2 = some zIAE) : (f_X6_put_ (fun _ => 0) 0 a1 a2).2.2 = 2 := by
  rw [kx_put] at hx; exact absurd (Option.some.inj hx) (by decide)
theorem kr_put (hx : x_X5_put 0 a1 a2 = none) : (f_X5_put (fun _ => 0) 0 a1 a2).1 = (f_X6_put_ (fun _ => 0) 0 a1 a2).1 := by
  rw [kx_put] at hx; exact nomatch hx
theorem kx_cut : (x_X5_cut 0 a1 = none → ¬ f_X6_isIn a1 0 0 = 0 ∧ ¬ a1 < 0 ∧ a1 ≤ 0) ∧ (x_X5_cut 0 a1 = some zIAE → f_X6_isIn a1 0 0 = 0) := by
  unfold x_X5_cut
  split
  · next c => exact ⟨(fun h => nomatch h), fun _ => kisIn0 (fun q => absurd c (Int32.not_lt.mpr q.1))⟩
  · next c =>
    split
    · next c2 => exact ⟨fun _ => ⟨kisIn1 (Int32.not_lt.mp c) c2, c, c2⟩, (fun h => nomatch h)⟩
    · next c2 => exact ⟨(fun h => nomatch h), fun _ => kisIn0 (fun q => c2 q.2)⟩
theorem kt_cut_0 (hx : x_X5_cut 0 a1 = none) : (f_X6_cut 64 0 0 0 0 0 0 (-1) (-1) 0 0 a1).2.1 = 0 := by
  unfold f_X6_cut
  rw [if_neg (kx_cut.1 hx).1]
theorem kt_cut_1 (hx : x_X5_cut 0 a1 = some zIAE) : (f_X6_cut 64 0 0 0 0 0 0 (-1) (-1) 0 0 a1).2.1 = 1 := by
  unfold f_X6_cut
  rw [if_pos (kx_cut.2 hx)]
theorem kr_cut (hx : x_X5_cut 0 a1 = none) : (f_X5_cut 0 0 0 0 0 64 0 a1).1 = (f_X6_cut 64 0 0 0 0 0 0 (-1) (-1) 0 0 a1).1 := by
  obtain ⟨h1, h2, h3⟩ := kx_cut.1 hx
  unfold f_X5_cut f_X6_cut
  rw [if_neg h2, if_pos h3, if_neg h1]
theorem kx_begin : (x_X5_begin a1 = none → ¬ f_X6_isIn a1 0 4096 = 0 ∧ ¬ a1 < 0 ∧ a1 ≤ 4096) ∧ (x_X5_begin a1 = some zIAE → f_X6_isIn a1 0 4096 = 0) := by
  unfold x_X5_begin
  split
  · next c => exact ⟨(fun h => nomatch h), fun _ => kisIn0 (fun q => absurd c (Int32.not_lt.mpr q.1))⟩
  · next c =>
    split
    · next c2 => exact ⟨fun _ => ⟨kisIn1 (Int32.not_lt.mp c) c2, c, c2⟩, (fun h => nomatch h)⟩
    · next c2 => exact ⟨(fun h => nomatch h), fun _ => kisIn0 (fun q => c2 q.2)⟩
theorem kt_begin_0 (hx : x_X5_begin a1 = none) : (f_X6_begin 64 0 0 0 0 0 (-1) (-1) 0 0 a1).2.1 = 0 := by
  unfold f_X6_begin
  rw [if_neg (kx_begin.1 hx).1]
theorem kt_begin_1 (hx : x_X5_begin a1 = some zIAE) : (f_X6_begin 64 0 0 0 0 0 (-1) (-1) 0 0 a1).2.1 = 1 := by
  unfold f_X6_begin
  rw [if_pos (kx_begin.2 hx)]
theorem kpl1 (v z : Int32) : v - zMod v z = v / z * z := by
  unfold zMod
  rw [Int32.sub_eq_add_neg, Int32.sub_eq_add_neg, Int32.neg_add, Int32.sub_eq_add_neg, Int32.neg_neg, ← Int32.add_assoc, Int32.add_right_neg, Int32.zero_add]
theorem kpl2 (v z : Int32) : ((v - zMod v z) + z) - v = z - zMod v z := by
  rw [Int32.sub_eq_add_neg, Int32.sub_eq_add_neg, Int32.sub_eq_add_neg, Int32.add_assoc, Int32.add_assoc, Int32.add_comm (-zMod v z) (z + -v), ← Int32.add_assoc, ← Int32.add_assoc, Int32.add_comm v z, Int32.add_assoc z v, Int32.add_right_neg, Int32.add_zero]
theorem kpl3 (v z : Int32) : (v - zMod v z) + z = (v / z + 1) * z := by
  rw [kpl1, Int32.add_mul, Int32.one_mul]
theorem kbeg (z v : Int32) : (f_X2_beginAt z v).1 = (f_X6_beginAt z v).1 ∧ (f_X2_beginAt z v).2.1 = (f_X6_beginAt z v).2.1 ∧ (f_X2_beginAt z v).2.2.1 = (f_X6_beginAt z v).2.2.1 := by
  unfold f_X2_beginAt f_X6_beginAt
  rw [kpl2]
  split
  · split <;> exact ⟨kpl1 v z, rfl, rfl⟩
  · split <;> exact ⟨kpl3 v z, rfl, rfl⟩
theorem kr_begin (hx : x_X5_begin a1 = none) : (f_X5_begin 0 0 0 0 0 64 a1).1 = (f_X6_begin 64 0 0 0 0 0 (-1) (-1) 0 0 a1).1 := by
  obtain ⟨h1, h2, h3⟩ := kx_begin.1 hx
  have k := (kbeg 64 a1).1
  unfold f_X5_begin f_X6_begin
  rw [if_neg h2, if_pos h3, if_neg h1]
  generalize f_X2_beginAt 64 a1 = T1 at k ⊢
  generalize f_X6_beginAt 64 a1 = T2 at k ⊢
  obtain ⟨t1, t2, t3, t4, t5⟩ := T1
  obtain ⟨u1, u2, u3, u4, u5, u6, u7, u8, u9⟩ := T2
  exact k
theorem kx_count : (x_X5_count a1 = none → a1 = 0 ∨ a1 = 1 ∨ a1 = 2 ∨ a1 = 3 ∨ a1 = 4 ∨ a1 = 5) ∧ (x_X5_count a1 = some zIAE → f_X6_isIn a1 0 5 = 0) := by
  unfold x_X5_count
  repeat' split
  · next c => exact ⟨fun _ => Or.inl c, (fun h => nomatch h)⟩
  · next c => exact ⟨fun _ => Or.inr (Or.inl c), (fun h => nomatch h)⟩
  · next c => exact ⟨fun _ => Or.inr (Or.inr (Or.inl c)), (fun h => nomatch h)⟩
  · next c => exact ⟨fun _ => Or.inr (Or.inr (Or.inr (Or.inl c))), (fun h => nomatch h)⟩
  · next c => exact ⟨fun _ => Or.inr (Or.inr (Or.inr (Or.inr (Or.inl c)))), (fun h => nomatch h)⟩
  · next c => exact ⟨fun _ => Or.inr (Or.inr (Or.inr (Or.inr (Or.inr c)))), (fun h => nomatch h)⟩
  · next h0 h1 h2 h3 h4 h5 =>
    refine ⟨(fun h => nomatch h), fun _ => kisIn0 (fun q => ?_)⟩
    simp only [Int32.le_iff_toInt_le] at q
    have o0 : (0 : Int32).toInt = 0 := rfl
    have o5 : (5 : Int32).toInt = 5 := rfl
    rcases zsw_out6 h0 h1 h2 h3 h4 h5 with w | w <;> omega
theorem kt_count_0 (hx : x_X5_count a1 = none) : (f_X6_count 0 0 0 0 0 0 a1).2 = 0 := by
  rcases kx_count.1 hx with rfl | rfl | rfl | rfl | rfl | rfl <;> decide
theorem kt_count_1 (hx : x_X5_count a1 = some zIAE) : (f_X6_count 0 0 0 0 0 0 a1).2 = 1 := by
  unfold f_X6_count
  rw [if_pos (kx_count.2 hx)]
theorem kr_count (hx : x_X5_count a1 = none) : (f_X5_count 0 0 0 0 0 0 a1) = (f_X6_count 0 0 0 0 0 0 a1).1 := by
  rcases kx_count.1 hx with rfl | rfl | rfl | rfl | rfl | rfl <;> decide
theorem kx_told : (x_X5_told a2 = none → a2 = 0 ∨ a2 = 1) ∧ (x_X5_told a2 = some zIAE → f_X6_isIn a2 0 1 = 0) := by
  unfold x_X5_told
  repeat' split
  · next c => exact ⟨fun _ => Or.inl c, (fun h => nomatch h)⟩
  · next c => exact ⟨fun _ => Or.inr c, (fun h => nomatch h)⟩
  · next h0 h1 =>
    refine ⟨(fun h => nomatch h), fun _ => kisIn0 (fun q => ?_)⟩
    simp only [Int32.le_iff_toInt_le] at q
    have o0 : (0 : Int32).toInt = 0 := rfl
    have o1 : (1 : Int32).toInt = 1 := rfl
    have e0 : ¬ a2.toInt = 0 := fun e => h0 (Int32.toInt_inj.mp e)
    have e1 : ¬ a2.toInt = 1 := fun e => h1 (Int32.toInt_inj.mp e)
    omega
theorem kt_told_1 (hx : x_X5_told a2 = some zIAE) : (f_X6_told (fun _ => 0) (fun _ => 0) 0 a1 a2).2 = 1 := by
  unfold f_X6_told
  rw [if_pos (kx_told.2 hx)]
theorem knone : f_X6_isIn a1 0 (0 - 1) = 0 := kisIn0 (fun q => by
  have := Int32.le_trans q.1 q.2
  exact absurd this (by decide))
theorem kkept : f_X1_isKept 0 a1 = 0 := by
  unfold f_X1_isKept
  split
  · rfl
  · next c => rw [if_pos (Int32.not_lt.mp c)]
theorem kt_told_0 (hx : x_X5_told a2 = none) : (f_X6_told (fun _ => 0) (fun _ => 0) 0 a1 a2).2 = 0 := by
  unfold f_X6_told
  have h : ¬ f_X6_isIn a2 0 1 = 0 := by rcases kx_told.1 hx with rfl | rfl <;> decide
  rw [if_neg h, if_neg (by decide), if_pos knone]
theorem kr_told (hx : x_X5_told a2 = none) : (f_X5_told (fun _ => 0) (fun _ => 0) 0 a1 a2) = (f_X6_told (fun _ => 0) (fun _ => 0) 0 a1 a2).1 := by
  have h : ¬ f_X6_isIn a2 0 1 = 0 := by rcases kx_told.1 hx with rfl | rfl <;> decide
  have k1 : f_X1_whichAt (fun _ => 0) 0 a1 = -1 := by unfold f_X1_whichAt; rw [if_pos kkept]
  have k2 : f_X1_bytesAt (fun _ => 0) 0 a1 = -1 := by unfold f_X1_bytesAt; rw [if_pos kkept]
  have k3 : f_X6_told (fun _ => 0) (fun _ => 0) 0 a1 a2 = (-1, 0) := by
    unfold f_X6_told
    rw [if_neg h, if_neg (by decide), if_pos knone]
  rw [k3]
  unfold f_X5_told
  rcases kx_told.1 hx with rfl | rfl
  · rw [if_pos rfl, k1]
  · rw [if_neg (by decide), if_pos rfl, k2]
theorem kat {F : Nat → Int32} : f_X3_at F 0 a1 = -1 := by
  unfold f_X3_at
  split
  · rfl
  · next c => rw [if_pos (Int32.not_lt.mp c)]
theorem kd_octet : f_X5_octet (fun _ => 0) 0 a1 = (f_X6_octet (fun _ => 0) (-1) a1).1 := by
  have h : f_X6_isIn a1 0 (-1 - 1) = 0 := kisIn0 (fun q => by
    have := Int32.le_trans q.1 q.2
    exact absurd this (by decide))
  unfold f_X5_octet f_X6_octet
  rw [if_pos h, kat]
theorem kd_log : f_X5_log (fun _ => 0) 0 a1 = (f_X6_log (fun _ => 0) 0 a1).1 := by
  unfold f_X5_log f_X6_log
  rw [if_pos knone, kat]
theorem kd_append : (f_X5_append (fun _ => 0) (fun _ => 0) 0 64 0).1 = (f_X6_append (fun _ => 0) (fun _ => 0) 64 0 0 0).1 := by decide +kernel
theorem kd_read : (f_X5_read (fun _ => 0) (fun _ => 0) (fun _ => 0) (fun _ => 0) 0 0 0 0 0 0 0 0 64 0).1 = (f_X6_read (fun _ => 0) (fun _ => 0) (fun _ => 0) (fun _ => 0) (fun _ => 0) 64 0 0 0 0 0 0 0 0 0 0 0).1 := by decide +kernel
end

theorem ct_clear_0 {Bf Wf Yf Cf F MB MU MH MR MW MY : Nat → Int32} {bm rp hf pl bg lo fp fb dm da cm z m Mft Msz Mal Mbs Mpl Mbg Mlo Mhs Mhf Mhp Mrs Mrf Mto Mtb Mfr Mln Mhb : Int32} (hI : (zInv Bf Wf Yf Cf F MB MU MH MR MW MY bm rp hf pl bg lo fp fb dm da cm z m Mft Msz Mal Mbs Mpl Mbg Mlo Mhs Mhf Mhp Mrs Mrf Mto Mtb Mfr Mln Mhb)) {a1 : Int32} (hx : x_X5_clear a1 = none) {y_Mft : Int32} {y_Msz : Int32} {y_Mal : Int32} {y_Mpl : Int32} {y_Mbg : Int32} {y_Mlo : Int32} {y_Mhs : Int32} {y_Mhf : Int32} {y_Mrs : Int32} {y_Mrf : Int32} {y_Mto : Int32} {y_Mtb : Int32} (hT : f_X6_clear Msz Mal Mpl Mbg Mlo Mhs Mhf Mrs Mrf Mto Mtb a1 = (y_Mft, y_Msz, y_Mal, y_Mpl, y_Mbg, y_Mlo, y_Mhs, y_Mhf, y_Mrs, y_Mrf, y_Mto, y_Mtb)) : y_Mft = 0 := by
  obtain ⟨rfl, rfl, rfl, rfl, rfl, rfl, rfl, rfl, rfl, rfl, rfl, rfl, rfl, rfl, rfl, rfl, rfl, rfl, rfl, rfl, rfl, rfl, rfl, rfl, rfl, rfl, rfl, rfl, rfl, rfl, rfl, rfl, rfl, rfl, rfl, rfl, rfl, rfl, rfl, rfl, rfl⟩ := hI
  have h := kt_clear_0 (a1 := a1) hx
  rw [hT] at h
  exact h
theorem ct_clear_1 {Bf Wf Yf Cf F MB MU MH MR MW MY : Nat → Int32} {bm rp hf pl bg lo fp fb dm da cm z m Mft Msz Mal Mbs Mpl Mbg Mlo Mhs Mhf Mhp Mrs Mrf Mto Mtb Mfr Mln Mhb : Int32} (hI : (zInv Bf Wf Yf Cf F MB MU MH MR MW MY bm rp hf pl bg lo fp fb dm da cm z m Mft Msz Mal Mbs Mpl Mbg Mlo Mhs Mhf Mhp Mrs Mrf Mto Mtb Mfr Mln Mhb)) {a1 : Int32} (hx : x_X5_clear a1 = some zIAE) {y_Mft : Int32} {y_Msz : Int32} {y_Mal : Int32} {y_Mpl : Int32} {y_Mbg : Int32} {y_Mlo : Int32} {y_Mhs : Int32} {y_Mhf : Int32} {y_Mrs : Int32} {y_Mrf : Int32} {y_Mto : Int32} {y_Mtb : Int32} (hT : f_X6_clear Msz Mal Mpl Mbg Mlo Mhs Mhf Mrs Mrf Mto Mtb a1 = (y_Mft, y_Msz, y_Mal, y_Mpl, y_Mbg, y_Mlo, y_Mhs, y_Mhf, y_Mrs, y_Mrf, y_Mto, y_Mtb)) : y_Mft = 1 := by
  obtain ⟨rfl, rfl, rfl, rfl, rfl, rfl, rfl, rfl, rfl, rfl, rfl, rfl, rfl, rfl, rfl, rfl, rfl, rfl, rfl, rfl, rfl, rfl, rfl, rfl, rfl, rfl, rfl, rfl, rfl, rfl, rfl, rfl, rfl, rfl, rfl, rfl, rfl, rfl, rfl, rfl, rfl⟩ := hI
  have h := kt_clear_1 (a1 := a1) hx
  rw [hT] at h
  exact h
theorem ct_feed_0 {Bf Wf Yf Cf F MB MU MH MR MW MY : Nat → Int32} {bm rp hf pl bg lo fp fb dm da cm z m Mft Msz Mal Mbs Mpl Mbg Mlo Mhs Mhf Mhp Mrs Mrf Mto Mtb Mfr Mln Mhb : Int32} (hI : (zInv Bf Wf Yf Cf F MB MU MH MR MW MY bm rp hf pl bg lo fp fb dm da cm z m Mft Msz Mal Mbs Mpl Mbg Mlo Mhs Mhf Mhp Mrs Mrf Mto Mtb Mfr Mln Mhb)) {a1 a2 a3 a4 a5 : Int32} (hx : x_X5_feed bm a1 = none) {y_res : Int32} {y_MU : Nat → Int32} {y_Mft : Int32} {y_Mbs : Int32} (hT : f_X6_feed MU Mbs a1 a2 a3 a4 a5 = (y_res, y_MU, y_Mft, y_Mbs)) : y_Mft = 0 := by
  obtain ⟨rfl, rfl, rfl, rfl, rfl, rfl, rfl, rfl, rfl, rfl, rfl, rfl, rfl, rfl, rfl, rfl, rfl, rfl, rfl, rfl, rfl, rfl, rfl, rfl, rfl, rfl, rfl, rfl, rfl, rfl, rfl, rfl, rfl, rfl, rfl, rfl, rfl, rfl, rfl, rfl, rfl⟩ := hI
  have h := kt_feed_0 (a1 := a1) (a2 := a2) (a3 := a3) (a4 := a4) (a5 := a5) hx
  rw [hT] at h
  exact h
theorem ct_feed_1 {Bf Wf Yf Cf F MB MU MH MR MW MY : Nat → Int32} {bm rp hf pl bg lo fp fb dm da cm z m Mft Msz Mal Mbs Mpl Mbg Mlo Mhs Mhf Mhp Mrs Mrf Mto Mtb Mfr Mln Mhb : Int32} (hI : (zInv Bf Wf Yf Cf F MB MU MH MR MW MY bm rp hf pl bg lo fp fb dm da cm z m Mft Msz Mal Mbs Mpl Mbg Mlo Mhs Mhf Mhp Mrs Mrf Mto Mtb Mfr Mln Mhb)) {a1 a2 a3 a4 a5 : Int32} (hx : x_X5_feed bm a1 = some zIAE) {y_res : Int32} {y_MU : Nat → Int32} {y_Mft : Int32} {y_Mbs : Int32} (hT : f_X6_feed MU Mbs a1 a2 a3 a4 a5 = (y_res, y_MU, y_Mft, y_Mbs)) : y_Mft = 1 := by
  obtain ⟨rfl, rfl, rfl, rfl, rfl, rfl, rfl, rfl, rfl, rfl, rfl, rfl, rfl, rfl, rfl, rfl, rfl, rfl, rfl, rfl, rfl, rfl, rfl, rfl, rfl, rfl, rfl, rfl, rfl, rfl, rfl, rfl, rfl, rfl, rfl, rfl, rfl, rfl, rfl, rfl, rfl⟩ := hI
  have h := kt_feed_1 (a1 := a1) (a2 := a2) (a3 := a3) (a4 := a4) (a5 := a5) hx
  rw [hT] at h
  exact h
theorem ct_feed_2 {Bf Wf Yf Cf F MB MU MH MR MW MY : Nat → Int32} {bm rp hf pl bg lo fp fb dm da cm z m Mft Msz Mal Mbs Mpl Mbg Mlo Mhs Mhf Mhp Mrs Mrf Mto Mtb Mfr Mln Mhb : Int32} (hI : (zInv Bf Wf Yf Cf F MB MU MH MR MW MY bm rp hf pl bg lo fp fb dm da cm z m Mft Msz Mal Mbs Mpl Mbg Mlo Mhs Mhf Mhp Mrs Mrf Mto Mtb Mfr Mln Mhb)) {a1 a2 a3 a4 a5 : Int32} (hx : x_X5_feed bm a1 = some zISE) {y_res : Int32} {y_MU : Nat → Int32} {y_Mft : Int32} {y_Mbs : Int32} (hT : f_X6_feed MU Mbs a1 a2 a3 a4 a5 = (y_res, y_MU, y_Mft, y_Mbs)) : y_Mft = 2 := by
  obtain ⟨rfl, rfl, rfl, rfl, rfl, rfl, rfl, rfl, rfl, rfl, rfl, rfl, rfl, rfl, rfl, rfl, rfl, rfl, rfl, rfl, rfl, rfl, rfl, rfl, rfl, rfl, rfl, rfl, rfl, rfl, rfl, rfl, rfl, rfl, rfl, rfl, rfl, rfl, rfl, rfl, rfl⟩ := hI
  have h := kt_feed_2 (a1 := a1) (a2 := a2) (a3 := a3) (a4 := a4) (a5 := a5) hx
  rw [hT] at h
  exact h
theorem cr_feed {Bf Wf Yf Cf F MB MU MH MR MW MY : Nat → Int32} {bm rp hf pl bg lo fp fb dm da cm z m Mft Msz Mal Mbs Mpl Mbg Mlo Mhs Mhf Mhp Mrs Mrf Mto Mtb Mfr Mln Mhb : Int32} (hI : (zInv Bf Wf Yf Cf F MB MU MH MR MW MY bm rp hf pl bg lo fp fb dm da cm z m Mft Msz Mal Mbs Mpl Mbg Mlo Mhs Mhf Mhp Mrs Mrf Mto Mtb Mfr Mln Mhb)) {a1 a2 a3 a4 a5 : Int32} {J : Nat → Int64} (hx : x_X5_feed bm a1 = none) {y_res : Int32} {y_MU : Nat → Int32} {y_Mft : Int32} {y_Mbs : Int32} (hT : f_X6_feed MU Mbs a1 a2 a3 a4 a5 = (y_res, y_MU, y_Mft, y_Mbs)) : (vp_updL J (0 : Int32).toNatClampNeg ((f_X5_feed Bf bm a1 a2 a3 a4 a5).1.toInt64)) (0 : Int32).toNatClampNeg = y_res.toInt64 := by
  obtain ⟨rfl, rfl, rfl, rfl, rfl, rfl, rfl, rfl, rfl, rfl, rfl, rfl, rfl, rfl, rfl, rfl, rfl, rfl, rfl, rfl, rfl, rfl, rfl, rfl, rfl, rfl, rfl, rfl, rfl, rfl, rfl, rfl, rfl, rfl, rfl, rfl, rfl, rfl, rfl, rfl, rfl⟩ := hI
  have h := kr_feed (a1 := a1) (a2 := a2) (a3 := a3) (a4 := a4) (a5 := a5) hx
  rw [hT] at h
  rw [pk_uLs, h]
theorem ct_check_0 {Bf Wf Yf Cf F MB MU MH MR MW MY : Nat → Int32} {bm rp hf pl bg lo fp fb dm da cm z m Mft Msz Mal Mbs Mpl Mbg Mlo Mhs Mhf Mhp Mrs Mrf Mto Mtb Mfr Mln Mhb : Int32} (hI : (zInv Bf Wf Yf Cf F MB MU MH MR MW MY bm rp hf pl bg lo fp fb dm da cm z m Mft Msz Mal Mbs Mpl Mbg Mlo Mhs Mhf Mhp Mrs Mrf Mto Mtb Mfr Mln Mhb)) {a1 : Int32} (hx : x_X5_check a1 = none) {y_res : Int32} {y_Mft : Int32} (hT : f_X6_check MU Mbs a1 = (y_res, y_Mft)) : y_Mft = 0 := by
  obtain ⟨rfl, rfl, rfl, rfl, rfl, rfl, rfl, rfl, rfl, rfl, rfl, rfl, rfl, rfl, rfl, rfl, rfl, rfl, rfl, rfl, rfl, rfl, rfl, rfl, rfl, rfl, rfl, rfl, rfl, rfl, rfl, rfl, rfl, rfl, rfl, rfl, rfl, rfl, rfl, rfl, rfl⟩ := hI
  have h := kt_check_0 (a1 := a1) hx
  rw [hT] at h
  exact h
theorem ct_check_1 {Bf Wf Yf Cf F MB MU MH MR MW MY : Nat → Int32} {bm rp hf pl bg lo fp fb dm da cm z m Mft Msz Mal Mbs Mpl Mbg Mlo Mhs Mhf Mhp Mrs Mrf Mto Mtb Mfr Mln Mhb : Int32} (hI : (zInv Bf Wf Yf Cf F MB MU MH MR MW MY bm rp hf pl bg lo fp fb dm da cm z m Mft Msz Mal Mbs Mpl Mbg Mlo Mhs Mhf Mhp Mrs Mrf Mto Mtb Mfr Mln Mhb)) {a1 : Int32} (hx : x_X5_check a1 = some zIAE) {y_res : Int32} {y_Mft : Int32} (hT : f_X6_check MU Mbs a1 = (y_res, y_Mft)) : y_Mft = 1 := by
  obtain ⟨rfl, rfl, rfl, rfl, rfl, rfl, rfl, rfl, rfl, rfl, rfl, rfl, rfl, rfl, rfl, rfl, rfl, rfl, rfl, rfl, rfl, rfl, rfl, rfl, rfl, rfl, rfl, rfl, rfl, rfl, rfl, rfl, rfl, rfl, rfl, rfl, rfl, rfl, rfl, rfl, rfl⟩ := hI
  have h := kt_check_1 (a1 := a1) hx
  rw [hT] at h
  exact h
theorem cr_check {Bf Wf Yf Cf F MB MU MH MR MW MY : Nat → Int32} {bm rp hf pl bg lo fp fb dm da cm z m Mft Msz Mal Mbs Mpl Mbg Mlo Mhs Mhf Mhp Mrs Mrf Mto Mtb Mfr Mln Mhb : Int32} (hI : (zInv Bf Wf Yf Cf F MB MU MH MR MW MY bm rp hf pl bg lo fp fb dm da cm z m Mft Msz Mal Mbs Mpl Mbg Mlo Mhs Mhf Mhp Mrs Mrf Mto Mtb Mfr Mln Mhb)) {a1 : Int32} {J : Nat → Int64} (hx : x_X5_check a1 = none) {y_res : Int32} {y_Mft : Int32} (hT : f_X6_check MU Mbs a1 = (y_res, y_Mft)) : (vp_updL J (0 : Int32).toNatClampNeg ((f_X5_check Bf bm a1).toInt64)) (0 : Int32).toNatClampNeg = y_res.toInt64 := by
  obtain ⟨rfl, rfl, rfl, rfl, rfl, rfl, rfl, rfl, rfl, rfl, rfl, rfl, rfl, rfl, rfl, rfl, rfl, rfl, rfl, rfl, rfl, rfl, rfl, rfl, rfl, rfl, rfl, rfl, rfl, rfl, rfl, rfl, rfl, rfl, rfl, rfl, rfl, rfl, rfl, rfl, rfl⟩ := hI
  have h := kr_check (a1 := a1) hx
  rw [hT] at h
  rw [pk_uLs, h]
theorem ct_raw_0 {Bf Wf Yf Cf F MB MU MH MR MW MY : Nat → Int32} {bm rp hf pl bg lo fp fb dm da cm z m Mft Msz Mal Mbs Mpl Mbg Mlo Mhs Mhf Mhp Mrs Mrf Mto Mtb Mfr Mln Mhb : Int32} (hI : (zInv Bf Wf Yf Cf F MB MU MH MR MW MY bm rp hf pl bg lo fp fb dm da cm z m Mft Msz Mal Mbs Mpl Mbg Mlo Mhs Mhf Mhp Mrs Mrf Mto Mtb Mfr Mln Mhb)) {a1 : Int32} (hx : x_X5_raw a1 = none) {y_res : Int32} {y_MB : Nat → Int32} {y_Mft : Int32} {y_Mal : Int32} (hT : f_X6_raw MB MU Mal Mbs a1 = (y_res, y_MB, y_Mft, y_Mal)) : y_Mft = 0 := by
  obtain ⟨rfl, rfl, rfl, rfl, rfl, rfl, rfl, rfl, rfl, rfl, rfl, rfl, rfl, rfl, rfl, rfl, rfl, rfl, rfl, rfl, rfl, rfl, rfl, rfl, rfl, rfl, rfl, rfl, rfl, rfl, rfl, rfl, rfl, rfl, rfl, rfl, rfl, rfl, rfl, rfl, rfl⟩ := hI
  have h := kt_raw_0 (a1 := a1) hx
  rw [hT] at h
  exact h
theorem ct_raw_1 {Bf Wf Yf Cf F MB MU MH MR MW MY : Nat → Int32} {bm rp hf pl bg lo fp fb dm da cm z m Mft Msz Mal Mbs Mpl Mbg Mlo Mhs Mhf Mhp Mrs Mrf Mto Mtb Mfr Mln Mhb : Int32} (hI : (zInv Bf Wf Yf Cf F MB MU MH MR MW MY bm rp hf pl bg lo fp fb dm da cm z m Mft Msz Mal Mbs Mpl Mbg Mlo Mhs Mhf Mhp Mrs Mrf Mto Mtb Mfr Mln Mhb)) {a1 : Int32} (hx : x_X5_raw a1 = some zIAE) {y_res : Int32} {y_MB : Nat → Int32} {y_Mft : Int32} {y_Mal : Int32} (hT : f_X6_raw MB MU Mal Mbs a1 = (y_res, y_MB, y_Mft, y_Mal)) : y_Mft = 1 := by
  obtain ⟨rfl, rfl, rfl, rfl, rfl, rfl, rfl, rfl, rfl, rfl, rfl, rfl, rfl, rfl, rfl, rfl, rfl, rfl, rfl, rfl, rfl, rfl, rfl, rfl, rfl, rfl, rfl, rfl, rfl, rfl, rfl, rfl, rfl, rfl, rfl, rfl, rfl, rfl, rfl, rfl, rfl⟩ := hI
  have h := kt_raw_1 (a1 := a1) hx
  rw [hT] at h
  exact h
theorem cr_raw {Bf Wf Yf Cf F MB MU MH MR MW MY : Nat → Int32} {bm rp hf pl bg lo fp fb dm da cm z m Mft Msz Mal Mbs Mpl Mbg Mlo Mhs Mhf Mhp Mrs Mrf Mto Mtb Mfr Mln Mhb : Int32} (hI : (zInv Bf Wf Yf Cf F MB MU MH MR MW MY bm rp hf pl bg lo fp fb dm da cm z m Mft Msz Mal Mbs Mpl Mbg Mlo Mhs Mhf Mhp Mrs Mrf Mto Mtb Mfr Mln Mhb)) {a1 : Int32} {J : Nat → Int64} (hx : x_X5_raw a1 = none) {y_res : Int32} {y_MB : Nat → Int32} {y_Mft : Int32} {y_Mal : Int32} (hT : f_X6_raw MB MU Mal Mbs a1 = (y_res, y_MB, y_Mft, y_Mal)) : (vp_updL J (0 : Int32).toNatClampNeg ((f_X5_raw Bf F bm m a1).1.toInt64)) (0 : Int32).toNatClampNeg = y_res.toInt64 := by
  obtain ⟨rfl, rfl, rfl, rfl, rfl, rfl, rfl, rfl, rfl, rfl, rfl, rfl, rfl, rfl, rfl, rfl, rfl, rfl, rfl, rfl, rfl, rfl, rfl, rfl, rfl, rfl, rfl, rfl, rfl, rfl, rfl, rfl, rfl, rfl, rfl, rfl, rfl, rfl, rfl, rfl, rfl⟩ := hI
  have h := kr_raw (a1 := a1) hx
  rw [hT] at h
  rw [pk_uLs, h]
theorem ct_put_0 {Bf Wf Yf Cf F MB MU MH MR MW MY : Nat → Int32} {bm rp hf pl bg lo fp fb dm da cm z m Mft Msz Mal Mbs Mpl Mbg Mlo Mhs Mhf Mhp Mrs Mrf Mto Mtb Mfr Mln Mhb : Int32} (hI : (zInv Bf Wf Yf Cf F MB MU MH MR MW MY bm rp hf pl bg lo fp fb dm da cm z m Mft Msz Mal Mbs Mpl Mbg Mlo Mhs Mhf Mhp Mrs Mrf Mto Mtb Mfr Mln Mhb)) {a1 a2 : Int32} (hx : x_X5_put m a1 a2 = none) {y_res : Int32} {y_MB : Nat → Int32} {y_Mft : Int32} (hT : f_X6_put_ MB Mal a1 a2 = (y_res, y_MB, y_Mft)) : y_Mft = 0 := by
  obtain ⟨rfl, rfl, rfl, rfl, rfl, rfl, rfl, rfl, rfl, rfl, rfl, rfl, rfl, rfl, rfl, rfl, rfl, rfl, rfl, rfl, rfl, rfl, rfl, rfl, rfl, rfl, rfl, rfl, rfl, rfl, rfl, rfl, rfl, rfl, rfl, rfl, rfl, rfl, rfl, rfl, rfl⟩ := hI
  have h := kt_put_0 (a1 := a1) (a2 := a2) hx
  rw [hT] at h
  exact h
theorem ct_put_1 {Bf Wf Yf Cf F MB MU MH MR MW MY : Nat → Int32} {bm rp hf pl bg lo fp fb dm da cm z m Mft Msz Mal Mbs Mpl Mbg Mlo Mhs Mhf Mhp Mrs Mrf Mto Mtb Mfr Mln Mhb : Int32} (hI : (zInv Bf Wf Yf Cf F MB MU MH MR MW MY bm rp hf pl bg lo fp fb dm da cm z m Mft Msz Mal Mbs Mpl Mbg Mlo Mhs Mhf Mhp Mrs Mrf Mto Mtb Mfr Mln Mhb)) {a1 a2 : Int32} (hx : x_X5_put m a1 a2 = some zIOE) {y_res : Int32} {y_MB : Nat → Int32} {y_Mft : Int32} (hT : f_X6_put_ MB Mal a1 a2 = (y_res, y_MB, y_Mft)) : y_Mft = 1 := by
  obtain ⟨rfl, rfl, rfl, rfl, rfl, rfl, rfl, rfl, rfl, rfl, rfl, rfl, rfl, rfl, rfl, rfl, rfl, rfl, rfl, rfl, rfl, rfl, rfl, rfl, rfl, rfl, rfl, rfl, rfl, rfl, rfl, rfl, rfl, rfl, rfl, rfl, rfl, rfl, rfl, rfl, rfl⟩ := hI
  have h := kt_put_1 (a1 := a1) (a2 := a2) hx
  rw [hT] at h
  exact h
theorem ct_put_2 {Bf Wf Yf Cf F MB MU MH MR MW MY : Nat → Int32} {bm rp hf pl bg lo fp fb dm da cm z m Mft Msz Mal Mbs Mpl Mbg Mlo Mhs Mhf Mhp Mrs Mrf Mto Mtb Mfr Mln Mhb : Int32} (hI : (zInv Bf Wf Yf Cf F MB MU MH MR MW MY bm rp hf pl bg lo fp fb dm da cm z m Mft Msz Mal Mbs Mpl Mbg Mlo Mhs Mhf Mhp Mrs Mrf Mto Mtb Mfr Mln Mhb)) {a1 a2 : Int32} (hx : x_X5_put m a1 a2 = some zIAE) {y_res : Int32} {y_MB : Nat → Int32} {y_Mft : Int32} (hT : f_X6_put_ MB Mal a1 a2 = (y_res, y_MB, y_Mft)) : y_Mft = 2 := by
  obtain ⟨rfl, rfl, rfl, rfl, rfl, rfl, rfl, rfl, rfl, rfl, rfl, rfl, rfl, rfl, rfl, rfl, rfl, rfl, rfl, rfl, rfl, rfl, rfl, rfl, rfl, rfl, rfl, rfl, rfl, rfl, rfl, rfl, rfl, rfl, rfl, rfl, rfl, rfl, rfl, rfl, rfl⟩ := hI
  have h := kt_put_2 (a1 := a1) (a2 := a2) hx
  rw [hT] at h
  exact h
theorem cr_put {Bf Wf Yf Cf F MB MU MH MR MW MY : Nat → Int32} {bm rp hf pl bg lo fp fb dm da cm z m Mft Msz Mal Mbs Mpl Mbg Mlo Mhs Mhf Mhp Mrs Mrf Mto Mtb Mfr Mln Mhb : Int32} (hI : (zInv Bf Wf Yf Cf F MB MU MH MR MW MY bm rp hf pl bg lo fp fb dm da cm z m Mft Msz Mal Mbs Mpl Mbg Mlo Mhs Mhf Mhp Mrs Mrf Mto Mtb Mfr Mln Mhb)) {a1 a2 : Int32} {J : Nat → Int64} (hx : x_X5_put m a1 a2 = none) {y_res : Int32} {y_MB : Nat → Int32} {y_Mft : Int32} (hT : f_X6_put_ MB Mal a1 a2 = (y_res, y_MB, y_Mft)) : (vp_updL J (0 : Int32).toNatClampNeg ((f_X5_put F m a1 a2).1.toInt64)) (0 : Int32).toNatClampNeg = y_res.toInt64 := by
  obtain ⟨rfl, rfl, rfl, rfl, rfl, rfl, rfl, rfl, rfl, rfl, rfl, rfl, rfl, rfl, rfl, rfl, rfl, rfl, rfl, rfl, rfl, rfl, rfl, rfl, rfl, rfl, rfl, rfl, rfl, rfl, rfl, rfl, rfl, rfl, rfl, rfl, rfl, rfl, rfl, rfl, rfl⟩ := hI
  have h := kr_put (a1 := a1) (a2 := a2) hx
  rw [hT] at h
  rw [pk_uLs, h]
theorem ct_cut_0 {Bf Wf Yf Cf F MB MU MH MR MW MY : Nat → Int32} {bm rp hf pl bg lo fp fb dm da cm z m Mft Msz Mal Mbs Mpl Mbg Mlo Mhs Mhf Mhp Mrs Mrf Mto Mtb Mfr Mln Mhb : Int32} (hI : (zInv Bf Wf Yf Cf F MB MU MH MR MW MY bm rp hf pl bg lo fp fb dm da cm z m Mft Msz Mal Mbs Mpl Mbg Mlo Mhs Mhf Mhp Mrs Mrf Mto Mtb Mfr Mln Mhb)) {a1 : Int32} (hx : x_X5_cut m a1 = none) {y_res : Int32} {y_Mft : Int32} {y_Mal : Int32} {y_Mpl : Int32} {y_Mbg : Int32} {y_Mlo : Int32} {y_Mhs : Int32} {y_Mhf : Int32} {y_Mrs : Int32} {y_Mrf : Int32} {y_Mto : Int32} {y_Mtb : Int32} (hT : f_X6_cut Msz Mal Mpl Mbg Mlo Mhs Mhf Mrs Mrf Mto Mtb a1 = (y_res, y_Mft, y_Mal, y_Mpl, y_Mbg, y_Mlo, y_Mhs, y_Mhf, y_Mrs, y_Mrf, y_Mto, y_Mtb)) : y_Mft = 0 := by
  obtain ⟨rfl, rfl, rfl, rfl, rfl, rfl, rfl, rfl, rfl, rfl, rfl, rfl, rfl, rfl, rfl, rfl, rfl, rfl, rfl, rfl, rfl, rfl, rfl, rfl, rfl, rfl, rfl, rfl, rfl, rfl, rfl, rfl, rfl, rfl, rfl, rfl, rfl, rfl, rfl, rfl, rfl⟩ := hI
  have h := kt_cut_0 (a1 := a1) hx
  rw [hT] at h
  exact h
theorem ct_cut_1 {Bf Wf Yf Cf F MB MU MH MR MW MY : Nat → Int32} {bm rp hf pl bg lo fp fb dm da cm z m Mft Msz Mal Mbs Mpl Mbg Mlo Mhs Mhf Mhp Mrs Mrf Mto Mtb Mfr Mln Mhb : Int32} (hI : (zInv Bf Wf Yf Cf F MB MU MH MR MW MY bm rp hf pl bg lo fp fb dm da cm z m Mft Msz Mal Mbs Mpl Mbg Mlo Mhs Mhf Mhp Mrs Mrf Mto Mtb Mfr Mln Mhb)) {a1 : Int32} (hx : x_X5_cut m a1 = some zIAE) {y_res : Int32} {y_Mft : Int32} {y_Mal : Int32} {y_Mpl : Int32} {y_Mbg : Int32} {y_Mlo : Int32} {y_Mhs : Int32} {y_Mhf : Int32} {y_Mrs : Int32} {y_Mrf : Int32} {y_Mto : Int32} {y_Mtb : Int32} (hT : f_X6_cut Msz Mal Mpl Mbg Mlo Mhs Mhf Mrs Mrf Mto Mtb a1 = (y_res, y_Mft, y_Mal, y_Mpl, y_Mbg, y_Mlo, y_Mhs, y_Mhf, y_Mrs, y_Mrf, y_Mto, y_Mtb)) : y_Mft = 1 := by
  obtain ⟨rfl, rfl, rfl, rfl, rfl, rfl, rfl, rfl, rfl, rfl, rfl, rfl, rfl, rfl, rfl, rfl, rfl, rfl, rfl, rfl, rfl, rfl, rfl, rfl, rfl, rfl, rfl, rfl, rfl, rfl, rfl, rfl, rfl, rfl, rfl, rfl, rfl, rfl, rfl, rfl, rfl⟩ := hI
  have h := kt_cut_1 (a1 := a1) hx
  rw [hT] at h
  exact h
theorem cr_cut {Bf Wf Yf Cf F MB MU MH MR MW MY : Nat → Int32} {bm rp hf pl bg lo fp fb dm da cm z m Mft Msz Mal Mbs Mpl Mbg Mlo Mhs Mhf Mhp Mrs Mrf Mto Mtb Mfr Mln Mhb : Int32} (hI : (zInv Bf Wf Yf Cf F MB MU MH MR MW MY bm rp hf pl bg lo fp fb dm da cm z m Mft Msz Mal Mbs Mpl Mbg Mlo Mhs Mhf Mhp Mrs Mrf Mto Mtb Mfr Mln Mhb)) {a1 : Int32} {J : Nat → Int64} (hx : x_X5_cut m a1 = none) {y_res : Int32} {y_Mft : Int32} {y_Mal : Int32} {y_Mpl : Int32} {y_Mbg : Int32} {y_Mlo : Int32} {y_Mhs : Int32} {y_Mhf : Int32} {y_Mrs : Int32} {y_Mrf : Int32} {y_Mto : Int32} {y_Mtb : Int32} (hT : f_X6_cut Msz Mal Mpl Mbg Mlo Mhs Mhf Mrs Mrf Mto Mtb a1 = (y_res, y_Mft, y_Mal, y_Mpl, y_Mbg, y_Mlo, y_Mhs, y_Mhf, y_Mrs, y_Mrf, y_Mto, y_Mtb)) : (vp_updL J (0 : Int32).toNatClampNeg ((f_X5_cut pl bg lo dm da z m a1).1.toInt64)) (0 : Int32).toNatClampNeg = y_res.toInt64 := by
  obtain ⟨rfl, rfl, rfl, rfl, rfl, rfl, rfl, rfl, rfl, rfl, rfl, rfl, rfl, rfl, rfl, rfl, rfl, rfl, rfl, rfl, rfl, rfl, rfl, rfl, rfl, rfl, rfl, rfl, rfl, rfl, rfl, rfl, rfl, rfl, rfl, rfl, rfl, rfl, rfl, rfl, rfl⟩ := hI
  have h := kr_cut (a1 := a1) hx
  rw [hT] at h
  rw [pk_uLs, h]
theorem ct_begin_0 {Bf Wf Yf Cf F MB MU MH MR MW MY : Nat → Int32} {bm rp hf pl bg lo fp fb dm da cm z m Mft Msz Mal Mbs Mpl Mbg Mlo Mhs Mhf Mhp Mrs Mrf Mto Mtb Mfr Mln Mhb : Int32} (hI : (zInv Bf Wf Yf Cf F MB MU MH MR MW MY bm rp hf pl bg lo fp fb dm da cm z m Mft Msz Mal Mbs Mpl Mbg Mlo Mhs Mhf Mhp Mrs Mrf Mto Mtb Mfr Mln Mhb)) {a1 : Int32} (hx : x_X5_begin a1 = none) {y_res : Int32} {y_Mft : Int32} {y_Mpl : Int32} {y_Mbg : Int32} {y_Mlo : Int32} {y_Mhs : Int32} {y_Mhf : Int32} {y_Mrs : Int32} {y_Mrf : Int32} {y_Mto : Int32} {y_Mtb : Int32} (hT : f_X6_begin Msz Mpl Mbg Mlo Mhs Mhf Mrs Mrf Mto Mtb a1 = (y_res, y_Mft, y_Mpl, y_Mbg, y_Mlo, y_Mhs, y_Mhf, y_Mrs, y_Mrf, y_Mto, y_Mtb)) : y_Mft = 0 := by
  obtain ⟨rfl, rfl, rfl, rfl, rfl, rfl, rfl, rfl, rfl, rfl, rfl, rfl, rfl, rfl, rfl, rfl, rfl, rfl, rfl, rfl, rfl, rfl, rfl, rfl, rfl, rfl, rfl, rfl, rfl, rfl, rfl, rfl, rfl, rfl, rfl, rfl, rfl, rfl, rfl, rfl, rfl⟩ := hI
  have h := kt_begin_0 (a1 := a1) hx
  rw [hT] at h
  exact h
theorem ct_begin_1 {Bf Wf Yf Cf F MB MU MH MR MW MY : Nat → Int32} {bm rp hf pl bg lo fp fb dm da cm z m Mft Msz Mal Mbs Mpl Mbg Mlo Mhs Mhf Mhp Mrs Mrf Mto Mtb Mfr Mln Mhb : Int32} (hI : (zInv Bf Wf Yf Cf F MB MU MH MR MW MY bm rp hf pl bg lo fp fb dm da cm z m Mft Msz Mal Mbs Mpl Mbg Mlo Mhs Mhf Mhp Mrs Mrf Mto Mtb Mfr Mln Mhb)) {a1 : Int32} (hx : x_X5_begin a1 = some zIAE) {y_res : Int32} {y_Mft : Int32} {y_Mpl : Int32} {y_Mbg : Int32} {y_Mlo : Int32} {y_Mhs : Int32} {y_Mhf : Int32} {y_Mrs : Int32} {y_Mrf : Int32} {y_Mto : Int32} {y_Mtb : Int32} (hT : f_X6_begin Msz Mpl Mbg Mlo Mhs Mhf Mrs Mrf Mto Mtb a1 = (y_res, y_Mft, y_Mpl, y_Mbg, y_Mlo, y_Mhs, y_Mhf, y_Mrs, y_Mrf, y_Mto, y_Mtb)) : y_Mft = 1 := by
  obtain ⟨rfl, rfl, rfl, rfl, rfl, rfl, rfl, rfl, rfl, rfl, rfl, rfl, rfl, rfl, rfl, rfl, rfl, rfl, rfl, rfl, rfl, rfl, rfl, rfl, rfl, rfl, rfl, rfl, rfl, rfl, rfl, rfl, rfl, rfl, rfl, rfl, rfl, rfl, rfl, rfl, rfl⟩ := hI
  have h := kt_begin_1 (a1 := a1) hx
  rw [hT] at h
  exact h
theorem cr_begin {Bf Wf Yf Cf F MB MU MH MR MW MY : Nat → Int32} {bm rp hf pl bg lo fp fb dm da cm z m Mft Msz Mal Mbs Mpl Mbg Mlo Mhs Mhf Mhp Mrs Mrf Mto Mtb Mfr Mln Mhb : Int32} (hI : (zInv Bf Wf Yf Cf F MB MU MH MR MW MY bm rp hf pl bg lo fp fb dm da cm z m Mft Msz Mal Mbs Mpl Mbg Mlo Mhs Mhf Mhp Mrs Mrf Mto Mtb Mfr Mln Mhb)) {a1 : Int32} {J : Nat → Int64} (hx : x_X5_begin a1 = none) {y_res : Int32} {y_Mft : Int32} {y_Mpl : Int32} {y_Mbg : Int32} {y_Mlo : Int32} {y_Mhs : Int32} {y_Mhf : Int32} {y_Mrs : Int32} {y_Mrf : Int32} {y_Mto : Int32} {y_Mtb : Int32} (hT : f_X6_begin Msz Mpl Mbg Mlo Mhs Mhf Mrs Mrf Mto Mtb a1 = (y_res, y_Mft, y_Mpl, y_Mbg, y_Mlo, y_Mhs, y_Mhf, y_Mrs, y_Mrf, y_Mto, y_Mtb)) : (vp_updL J (0 : Int32).toNatClampNeg ((f_X5_begin pl bg lo dm da z a1).1.toInt64)) (0 : Int32).toNatClampNeg = y_res.toInt64 := by
  obtain ⟨rfl, rfl, rfl, rfl, rfl, rfl, rfl, rfl, rfl, rfl, rfl, rfl, rfl, rfl, rfl, rfl, rfl, rfl, rfl, rfl, rfl, rfl, rfl, rfl, rfl, rfl, rfl, rfl, rfl, rfl, rfl, rfl, rfl, rfl, rfl, rfl, rfl, rfl, rfl, rfl, rfl⟩ := hI
  have h := kr_begin (a1 := a1) hx
  rw [hT] at h
  rw [pk_uLs, h]
theorem ct_count_0 {Bf Wf Yf Cf F MB MU MH MR MW MY : Nat → Int32} {bm rp hf pl bg lo fp fb dm da cm z m Mft Msz Mal Mbs Mpl Mbg Mlo Mhs Mhf Mhp Mrs Mrf Mto Mtb Mfr Mln Mhb : Int32} (hI : (zInv Bf Wf Yf Cf F MB MU MH MR MW MY bm rp hf pl bg lo fp fb dm da cm z m Mft Msz Mal Mbs Mpl Mbg Mlo Mhs Mhf Mhp Mrs Mrf Mto Mtb Mfr Mln Mhb)) {a1 : Int32} (hx : x_X5_count a1 = none) {y_res : Int32} {y_Mft : Int32} (hT : f_X6_count Mal Mbs Mpl Mlo Mto Mtb a1 = (y_res, y_Mft)) : y_Mft = 0 := by
  obtain ⟨rfl, rfl, rfl, rfl, rfl, rfl, rfl, rfl, rfl, rfl, rfl, rfl, rfl, rfl, rfl, rfl, rfl, rfl, rfl, rfl, rfl, rfl, rfl, rfl, rfl, rfl, rfl, rfl, rfl, rfl, rfl, rfl, rfl, rfl, rfl, rfl, rfl, rfl, rfl, rfl, rfl⟩ := hI
  have h := kt_count_0 (a1 := a1) hx
  rw [hT] at h
  exact h
theorem ct_count_1 {Bf Wf Yf Cf F MB MU MH MR MW MY : Nat → Int32} {bm rp hf pl bg lo fp fb dm da cm z m Mft Msz Mal Mbs Mpl Mbg Mlo Mhs Mhf Mhp Mrs Mrf Mto Mtb Mfr Mln Mhb : Int32} (hI : (zInv Bf Wf Yf Cf F MB MU MH MR MW MY bm rp hf pl bg lo fp fb dm da cm z m Mft Msz Mal Mbs Mpl Mbg Mlo Mhs Mhf Mhp Mrs Mrf Mto Mtb Mfr Mln Mhb)) {a1 : Int32} (hx : x_X5_count a1 = some zIAE) {y_res : Int32} {y_Mft : Int32} (hT : f_X6_count Mal Mbs Mpl Mlo Mto Mtb a1 = (y_res, y_Mft)) : y_Mft = 1 := by
  obtain ⟨rfl, rfl, rfl, rfl, rfl, rfl, rfl, rfl, rfl, rfl, rfl, rfl, rfl, rfl, rfl, rfl, rfl, rfl, rfl, rfl, rfl, rfl, rfl, rfl, rfl, rfl, rfl, rfl, rfl, rfl, rfl, rfl, rfl, rfl, rfl, rfl, rfl, rfl, rfl, rfl, rfl⟩ := hI
  have h := kt_count_1 (a1 := a1) hx
  rw [hT] at h
  exact h
theorem cr_count {Bf Wf Yf Cf F MB MU MH MR MW MY : Nat → Int32} {bm rp hf pl bg lo fp fb dm da cm z m Mft Msz Mal Mbs Mpl Mbg Mlo Mhs Mhf Mhp Mrs Mrf Mto Mtb Mfr Mln Mhb : Int32} (hI : (zInv Bf Wf Yf Cf F MB MU MH MR MW MY bm rp hf pl bg lo fp fb dm da cm z m Mft Msz Mal Mbs Mpl Mbg Mlo Mhs Mhf Mhp Mrs Mrf Mto Mtb Mfr Mln Mhb)) {a1 : Int32} {J : Nat → Int64} (hx : x_X5_count a1 = none) {y_res : Int32} {y_Mft : Int32} (hT : f_X6_count Mal Mbs Mpl Mlo Mto Mtb a1 = (y_res, y_Mft)) : (vp_updL J (0 : Int32).toNatClampNeg ((f_X5_count bm pl lo dm da m a1).toInt64)) (0 : Int32).toNatClampNeg = y_res.toInt64 := by
  obtain ⟨rfl, rfl, rfl, rfl, rfl, rfl, rfl, rfl, rfl, rfl, rfl, rfl, rfl, rfl, rfl, rfl, rfl, rfl, rfl, rfl, rfl, rfl, rfl, rfl, rfl, rfl, rfl, rfl, rfl, rfl, rfl, rfl, rfl, rfl, rfl, rfl, rfl, rfl, rfl, rfl, rfl⟩ := hI
  have h := kr_count (a1 := a1) hx
  rw [hT] at h
  rw [pk_uLs, h]
theorem ct_told_0 {Bf Wf Yf Cf F MB MU MH MR MW MY : Nat → Int32} {bm rp hf pl bg lo fp fb dm da cm z m Mft Msz Mal Mbs Mpl Mbg Mlo Mhs Mhf Mhp Mrs Mrf Mto Mtb Mfr Mln Mhb : Int32} (hI : (zInv Bf Wf Yf Cf F MB MU MH MR MW MY bm rp hf pl bg lo fp fb dm da cm z m Mft Msz Mal Mbs Mpl Mbg Mlo Mhs Mhf Mhp Mrs Mrf Mto Mtb Mfr Mln Mhb)) {a1 a2 : Int32} (hx : x_X5_told a2 = none) {y_res : Int32} {y_Mft : Int32} (hT : f_X6_told MW MY Mto a1 a2 = (y_res, y_Mft)) : y_Mft = 0 := by
  obtain ⟨rfl, rfl, rfl, rfl, rfl, rfl, rfl, rfl, rfl, rfl, rfl, rfl, rfl, rfl, rfl, rfl, rfl, rfl, rfl, rfl, rfl, rfl, rfl, rfl, rfl, rfl, rfl, rfl, rfl, rfl, rfl, rfl, rfl, rfl, rfl, rfl, rfl, rfl, rfl, rfl, rfl⟩ := hI
  have h := kt_told_0 (a1 := a1) (a2 := a2) hx
  rw [hT] at h
  exact h
theorem ct_told_1 {Bf Wf Yf Cf F MB MU MH MR MW MY : Nat → Int32} {bm rp hf pl bg lo fp fb dm da cm z m Mft Msz Mal Mbs Mpl Mbg Mlo Mhs Mhf Mhp Mrs Mrf Mto Mtb Mfr Mln Mhb : Int32} (hI : (zInv Bf Wf Yf Cf F MB MU MH MR MW MY bm rp hf pl bg lo fp fb dm da cm z m Mft Msz Mal Mbs Mpl Mbg Mlo Mhs Mhf Mhp Mrs Mrf Mto Mtb Mfr Mln Mhb)) {a1 a2 : Int32} (hx : x_X5_told a2 = some zIAE) {y_res : Int32} {y_Mft : Int32} (hT : f_X6_told MW MY Mto a1 a2 = (y_res, y_Mft)) : y_Mft = 1 := by
  obtain ⟨rfl, rfl, rfl, rfl, rfl, rfl, rfl, rfl, rfl, rfl, rfl, rfl, rfl, rfl, rfl, rfl, rfl, rfl, rfl, rfl, rfl, rfl, rfl, rfl, rfl, rfl, rfl, rfl, rfl, rfl, rfl, rfl, rfl, rfl, rfl, rfl, rfl, rfl, rfl, rfl, rfl⟩ := hI
  have h := kt_told_1 (a1 := a1) (a2 := a2) hx
  rw [hT] at h
  exact h
theorem cr_told {Bf Wf Yf Cf F MB MU MH MR MW MY : Nat → Int32} {bm rp hf pl bg lo fp fb dm da cm z m Mft Msz Mal Mbs Mpl Mbg Mlo Mhs Mhf Mhp Mrs Mrf Mto Mtb Mfr Mln Mhb : Int32} (hI : (zInv Bf Wf Yf Cf F MB MU MH MR MW MY bm rp hf pl bg lo fp fb dm da cm z m Mft Msz Mal Mbs Mpl Mbg Mlo Mhs Mhf Mhp Mrs Mrf Mto Mtb Mfr Mln Mhb)) {a1 a2 : Int32} {J : Nat → Int64} (hx : x_X5_told a2 = none) {y_res : Int32} {y_Mft : Int32} (hT : f_X6_told MW MY Mto a1 a2 = (y_res, y_Mft)) : (vp_updL J (0 : Int32).toNatClampNeg ((f_X5_told Wf Yf dm a1 a2).toInt64)) (0 : Int32).toNatClampNeg = y_res.toInt64 := by
  obtain ⟨rfl, rfl, rfl, rfl, rfl, rfl, rfl, rfl, rfl, rfl, rfl, rfl, rfl, rfl, rfl, rfl, rfl, rfl, rfl, rfl, rfl, rfl, rfl, rfl, rfl, rfl, rfl, rfl, rfl, rfl, rfl, rfl, rfl, rfl, rfl, rfl, rfl, rfl, rfl, rfl, rfl⟩ := hI
  have h := kr_told (a1 := a1) (a2 := a2) hx
  rw [hT] at h
  rw [pk_uLs, h]
theorem cd_append {Bf Wf Yf Cf F MB MU MH MR MW MY : Nat → Int32} {bm rp hf pl bg lo fp fb dm da cm z m Mft Msz Mal Mbs Mpl Mbg Mlo Mhs Mhf Mhp Mrs Mrf Mto Mtb Mfr Mln Mhb : Int32} (hI : (zInv Bf Wf Yf Cf F MB MU MH MR MW MY bm rp hf pl bg lo fp fb dm da cm z m Mft Msz Mal Mbs Mpl Mbg Mlo Mhs Mhf Mhp Mrs Mrf Mto Mtb Mfr Mln Mhb))  {x_res : Int32} {x_F : Nat → Int32} {x_m : Int32} (hT1 : f_X5_append Bf F bm z m = (x_res, x_F, x_m)) {y_res : Int32} {y_MB : Nat → Int32} {y_Mft : Int32} {y_Mal : Int32} {y_Mhb : Int32} (hT2 : f_X6_append MB MU Msz Mal Mbs Mhb = (y_res, y_MB, y_Mft, y_Mal, y_Mhb)) : x_res = y_res := by
  obtain ⟨rfl, rfl, rfl, rfl, rfl, rfl, rfl, rfl, rfl, rfl, rfl, rfl, rfl, rfl, rfl, rfl, rfl, rfl, rfl, rfl, rfl, rfl, rfl, rfl, rfl, rfl, rfl, rfl, rfl, rfl, rfl, rfl, rfl, rfl, rfl, rfl, rfl, rfl, rfl, rfl, rfl⟩ := hI
  have h := kd_append 
  rw [hT1, hT2] at h
  exact h
theorem cd_read {Bf Wf Yf Cf F MB MU MH MR MW MY : Nat → Int32} {bm rp hf pl bg lo fp fb dm da cm z m Mft Msz Mal Mbs Mpl Mbg Mlo Mhs Mhf Mhp Mrs Mrf Mto Mtb Mfr Mln Mhb : Int32} (hI : (zInv Bf Wf Yf Cf F MB MU MH MR MW MY bm rp hf pl bg lo fp fb dm da cm z m Mft Msz Mal Mbs Mpl Mbg Mlo Mhs Mhf Mhp Mrs Mrf Mto Mtb Mfr Mln Mhb))  {x_res : Int32} {x_Wf : Nat → Int32} {x_Yf : Nat → Int32} {x_Cf : Nat → Int32} {x_rp : Int32} {x_hf : Int32} {x_pl : Int32} {x_lo : Int32} {x_fp : Int32} {x_fb : Int32} {x_dm : Int32} {x_da : Int32} {x_cm : Int32} (hT1 : f_X5_read Wf Yf Cf F pl bg lo fp fb dm da cm z m = (x_res, x_Wf, x_Yf, x_Cf, x_rp, x_hf, x_pl, x_lo, x_fp, x_fb, x_dm, x_da, x_cm)) {y_res : Int32} {y_MH : Nat → Int32} {y_MR : Nat → Int32} {y_MW : Nat → Int32} {y_MY : Nat → Int32} {y_Mft : Int32} {y_Mpl : Int32} {y_Mlo : Int32} {y_Mhs : Int32} {y_Mhf : Int32} {y_Mhp : Int32} {y_Mrs : Int32} {y_Mrf : Int32} {y_Mto : Int32} {y_Mtb : Int32} {y_Mfr : Int32} {y_Mln : Int32} (hT2 : f_X6_read MB MH MR MW MY Msz Mal Mpl Mbg Mlo Mhs Mhf Mhp Mto Mtb Mfr Mln = (y_res, y_MH, y_MR, y_MW, y_MY, y_Mft, y_Mpl, y_Mlo, y_Mhs, y_Mhf, y_Mhp, y_Mrs, y_Mrf, y_Mto, y_Mtb, y_Mfr, y_Mln)) : x_res = y_res := by
  obtain ⟨rfl, rfl, rfl, rfl, rfl, rfl, rfl, rfl, rfl, rfl, rfl, rfl, rfl, rfl, rfl, rfl, rfl, rfl, rfl, rfl, rfl, rfl, rfl, rfl, rfl, rfl, rfl, rfl, rfl, rfl, rfl, rfl, rfl, rfl, rfl, rfl, rfl, rfl, rfl, rfl, rfl⟩ := hI
  have h := kd_read 
  rw [hT1, hT2] at h
  exact h
theorem cd_octet {Bf Wf Yf Cf F MB MU MH MR MW MY : Nat → Int32} {bm rp hf pl bg lo fp fb dm da cm z m Mft Msz Mal Mbs Mpl Mbg Mlo Mhs Mhf Mhp Mrs Mrf Mto Mtb Mfr Mln Mhb : Int32} (hI : (zInv Bf Wf Yf Cf F MB MU MH MR MW MY bm rp hf pl bg lo fp fb dm da cm z m Mft Msz Mal Mbs Mpl Mbg Mlo Mhs Mhf Mhp Mrs Mrf Mto Mtb Mfr Mln Mhb)) {a1 : Int32} {x_res : Int32} (hT1 : f_X5_octet Cf cm a1 = x_res) {y_res : Int32} {y_Mft : Int32} (hT2 : f_X6_octet MR Mrs a1 = (y_res, y_Mft)) : x_res = y_res := by
  obtain ⟨rfl, rfl, rfl, rfl, rfl, rfl, rfl, rfl, rfl, rfl, rfl, rfl, rfl, rfl, rfl, rfl, rfl, rfl, rfl, rfl, rfl, rfl, rfl, rfl, rfl, rfl, rfl, rfl, rfl, rfl, rfl, rfl, rfl, rfl, rfl, rfl, rfl, rfl, rfl, rfl, rfl⟩ := hI
  have h := kd_octet (a1 := a1)
  rw [hT1, hT2] at h
  exact h
theorem cd_log {Bf Wf Yf Cf F MB MU MH MR MW MY : Nat → Int32} {bm rp hf pl bg lo fp fb dm da cm z m Mft Msz Mal Mbs Mpl Mbg Mlo Mhs Mhf Mhp Mrs Mrf Mto Mtb Mfr Mln Mhb : Int32} (hI : (zInv Bf Wf Yf Cf F MB MU MH MR MW MY bm rp hf pl bg lo fp fb dm da cm z m Mft Msz Mal Mbs Mpl Mbg Mlo Mhs Mhf Mhp Mrs Mrf Mto Mtb Mfr Mln Mhb)) {a1 : Int32} {x_res : Int32} (hT1 : f_X5_log F m a1 = x_res) {y_res : Int32} {y_Mft : Int32} (hT2 : f_X6_log MB Mal a1 = (y_res, y_Mft)) : x_res = y_res := by
  obtain ⟨rfl, rfl, rfl, rfl, rfl, rfl, rfl, rfl, rfl, rfl, rfl, rfl, rfl, rfl, rfl, rfl, rfl, rfl, rfl, rfl, rfl, rfl, rfl, rfl, rfl, rfl, rfl, rfl, rfl, rfl, rfl, rfl, rfl, rfl, rfl, rfl, rfl, rfl, rfl, rfl, rfl⟩ := hI
  have h := kd_log (a1 := a1)
  rw [hT1, hT2] at h
  exact h
theorem cd_erase {Bf Wf Yf Cf F MB MU MH MR MW MY : Nat → Int32} {bm rp hf pl bg lo fp fb dm da cm z m Mft Msz Mal Mbs Mpl Mbg Mlo Mhs Mhf Mhp Mrs Mrf Mto Mtb Mfr Mln Mhb : Int32} (hI : (zInv Bf Wf Yf Cf F MB MU MH MR MW MY bm rp hf pl bg lo fp fb dm da cm z m Mft Msz Mal Mbs Mpl Mbg Mlo Mhs Mhf Mhp Mrs Mrf Mto Mtb Mfr Mln Mhb)) {x_res : Int32} {x_bm : Int32} (hT1 : f_X5_erase bm = (x_res, x_bm)) : x_res = Mbs := by
  obtain ⟨rfl, rfl, rfl, rfl, rfl, rfl, rfl, rfl, rfl, rfl, rfl, rfl, rfl, rfl, rfl, rfl, rfl, rfl, rfl, rfl, rfl, rfl, rfl, rfl, rfl, rfl, rfl, rfl, rfl, rfl, rfl, rfl, rfl, rfl, rfl, rfl, rfl, rfl, rfl, rfl, rfl⟩ := hI
  have h : (f_X5_erase 0).1 = 0 := rfl
  rw [hT1] at h
  exact h
theorem cd_first {Bf Wf Yf Cf F MB MU MH MR MW MY : Nat → Int32} {bm rp hf pl bg lo fp fb dm da cm z m Mft Msz Mal Mbs Mpl Mbg Mlo Mhs Mhf Mhp Mrs Mrf Mto Mtb Mfr Mln Mhb : Int32} (hI : (zInv Bf Wf Yf Cf F MB MU MH MR MW MY bm rp hf pl bg lo fp fb dm da cm z m Mft Msz Mal Mbs Mpl Mbg Mlo Mhs Mhf Mhp Mrs Mrf Mto Mtb Mfr Mln Mhb))  : rp = Mrf := by
  obtain ⟨rfl, rfl, rfl, rfl, rfl, rfl, rfl, rfl, rfl, rfl, rfl, rfl, rfl, rfl, rfl, rfl, rfl, rfl, rfl, rfl, rfl, rfl, rfl, rfl, rfl, rfl, rfl, rfl, rfl, rfl, rfl, rfl, rfl, rfl, rfl, rfl, rfl, rfl, rfl, rfl, rfl⟩ := hI
  rfl
