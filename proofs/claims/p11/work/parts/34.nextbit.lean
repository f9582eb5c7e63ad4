def jp162_X2_nextBit (Wf : Nat → Int32) (Yf : Nat → Int32) (F : Nat → Int32) (bg : Int32) (fp : Int32) (fb : Int32) (dm : Int32) (da : Int32) (m : Int32) (lf : Int32) (ln : Int32) (kd : Int32) (pl_j162 : Int32) : Int32 × (Nat → Int32) × (Nat → Int32) × Int32 × Int32 × Int32 × Int32 × Int32 :=
    if (f_X2_isCheckRight F pl_j162 m kd ln) = 0 then
      match (f_X2_breakBlock Wf Yf pl_j162 dm da 2 lf) with
      | (rq4, Wfq4, Yfq4, plq4, dmq4, daq4) =>
        (rq4, Wfq4, Yfq4, plq4, fp, fb, dmq4, daq4)
    else
      if bg ≤ pl_j162 then
        (kd, Wf, Yf, (pl_j162 + (7 + ln)), pl_j162, ln, dm, da)
      else
        (257, Wf, Yf, (pl_j162 + (7 + ln)), pl_j162, ln, dm, da)
def jp45_X2_nextBit (Wf : Nat → Int32) (Yf : Nat → Int32) (F : Nat → Int32) (bg : Int32) (fp : Int32) (fb : Int32) (dm : Int32) (da : Int32) (z : Int32) (m : Int32) (pl_j45 : Int32) : Int32 × (Nat → Int32) × (Nat → Int32) × Int32 × Int32 × Int32 × Int32 × Int32 :=
    if 7 ≤ ((zMin ((pl_j45 - (zMod pl_j45 z)) + z) m) - pl_j45) then
      if (f_X3_numberLowestFirst F m (pl_j45 + 4) 2) ≤ (((zMin ((pl_j45 - (zMod pl_j45 z)) + z) m) - pl_j45) - 7) then
        if (f_X3_at F m ((pl_j45 + 7) - 1)) = 0 then
          if (f_X3_numberLowestFirst F m (pl_j45 + 4) 2) = 0 then
            (257, Wf, Yf, (pl_j45 + ((zMin ((pl_j45 - (zMod pl_j45 z)) + z) m) - pl_j45)), fp, fb, dm, da)
          else
            jp162_X2_nextBit Wf Yf F bg fp fb dm da m ((zMin ((pl_j45 - (zMod pl_j45 z)) + z) m) - pl_j45) (f_X3_numberLowestFirst F m (pl_j45 + 4) 2) (f_X3_at F m ((pl_j45 + 7) - 1)) pl_j45
        else
          jp162_X2_nextBit Wf Yf F bg fp fb dm da m ((zMin ((pl_j45 - (zMod pl_j45 z)) + z) m) - pl_j45) (f_X3_numberLowestFirst F m (pl_j45 + 4) 2) (f_X3_at F m ((pl_j45 + 7) - 1)) pl_j45
      else
        if (f_X0_isWhole z m pl_j45) = 0 then
          (256, Wf, Yf, pl_j45, fp, fb, dm, da)
        else
          match (f_X2_breakBlock Wf Yf pl_j45 dm da 1 ((zMin ((pl_j45 - (zMod pl_j45 z)) + z) m) - pl_j45)) with
          | (rq16, Wfq16, Yfq16, plq16, dmq16, daq16) =>
            (rq16, Wfq16, Yfq16, plq16, fp, fb, dmq16, daq16)
    else
      (256, Wf, Yf, pl_j45, fp, fb, dm, da)
def f_X2_nextBit (Wf : Nat → Int32) (Yf : Nat → Int32) (F : Nat → Int32) (pl : Int32) (bg : Int32) (fp : Int32) (fb : Int32) (dm : Int32) (da : Int32) (z : Int32) (m : Int32) : Int32 × (Nat → Int32) × (Nat → Int32) × Int32 × Int32 × Int32 × Int32 × Int32 :=
  if 7 ≤ ((zMin ((pl - (zMod pl z)) + z) m) - pl) then
    jp45_X2_nextBit Wf Yf F bg fp fb dm da z m pl
  else
    if (f_X0_isWhole z m pl) = 0 then
      jp45_X2_nextBit Wf Yf F bg fp fb dm da z m pl
    else
      jp45_X2_nextBit Wf Yf F bg fp fb dm da z m ((pl - (zMod pl z)) + z)
theorem zdok_jp162_X2_nextBit {k : Nat} {Wf Yf F W1 Y1 : Nat → Int32} {bg fp fb dm da m lf ln kd pl r p1 f1 b1 d1 a1 : Int32} (hd : zdok (k + 1) dm) (e : jp162_X2_nextBit Wf Yf F bg fp fb dm da m lf ln kd pl = (r, W1, Y1, p1, f1, b1, d1, a1)) : zdok k d1 := by
  unfold jp162_X2_nextBit at e
  split at e
  · split at e
    next e1 => cases e; exact zdok_X2_breakBlock hd e1
  · split at e <;> (cases e; exact zdok_le hd (by omega))
theorem zdok_jp45_X2_nextBit {k : Nat} {Wf Yf F W1 Y1 : Nat → Int32} {bg fp fb dm da z m pl r p1 f1 b1 d1 a1 : Int32} (hd : zdok (k + 1) dm) (e : jp45_X2_nextBit Wf Yf F bg fp fb dm da z m pl = (r, W1, Y1, p1, f1, b1, d1, a1)) : zdok k d1 := by
  unfold jp45_X2_nextBit at e
  split at e
  · split at e
    · split at e
      · split at e
        · cases e; exact zdok_le hd (by omega)
        · exact zdok_jp162_X2_nextBit hd e
      · exact zdok_jp162_X2_nextBit hd e
    · split at e
      · cases e; exact zdok_le hd (by omega)
      · split at e
        next e1 => cases e; exact zdok_X2_breakBlock hd e1
  · cases e; exact zdok_le hd (by omega)
theorem zdok_X2_nextBit {k : Nat} {Wf Yf F W1 Y1 : Nat → Int32} {pl bg fp fb dm da z m r p1 f1 b1 d1 a1 : Int32} (hd : zdok (k + 1) dm) (e : f_X2_nextBit Wf Yf F pl bg fp fb dm da z m = (r, W1, Y1, p1, f1, b1, d1, a1)) : zdok k d1 := by
  unfold f_X2_nextBit at e
  split at e
  · exact zdok_jp45_X2_nextBit hd e
  · split at e <;> exact zdok_jp45_X2_nextBit hd e
set_option maxHeartbeats 4000000 in
set_option maxRecDepth 100000 in
theorem c_X2_nextBit (l : Launch) (g : zG) (e b d c dw dy ca br ba : Nat) (Wf : Nat → Int32) (Yf : Nat → Int32) (Cf : Nat → Int32) (F : Nat → Int32) (rp : Int32) (hf : Int32) (pl : Int32) (bg : Int32) (lo : Int32) (fp : Int32) (fb : Int32) (dm : Int32) (da : Int32) (cm : Int32) (z : Int32) (m : Int32) (hz : zsz z) (hm : zok 4096 m) (hd : zdok 1 dm) : zMI l yX2_nextBit wsX2_nextBit ({ frames := 3, cells := 0, slots := 0, locals := 70 }) g [.ref e] [(e, .inr (2, [.ref b, .ref d, .ref c, .int rp, .int hf, .int pl, .int bg, .int lo, .int fp, .int fb])), (d, .inr (1, [.ref dw, .ref dy, .int dm, .int da])), (dw, .inl (g.2.2.1, 100, .inl Wf)), (dy, .inl (g.2.2.1, 100, .inl Yf)), (c, .inr (3, [.ref ca, .int cm])), (ca, .inl (g.2.1, 4096, .inl Cf)), (b, .inr (0, [.ref br, .int z])), (br, .inr (3, [.ref ba, .int m])), (ba, .inl (g.2.1, 4096, .inl F))] ((f_X2_nextBit Wf Yf F pl bg fp fb dm da z m).1) [(e, .inr (2, [.ref b, .ref d, .ref c, .int rp, .int hf, .int ((f_X2_nextBit Wf Yf F pl bg fp fb dm da z m).2.2.2.1), .int bg, .int lo, .int ((f_X2_nextBit Wf Yf F pl bg fp fb dm da z m).2.2.2.2.1), .int ((f_X2_nextBit Wf Yf F pl bg fp fb dm da z m).2.2.2.2.2.1)])), (d, .inr (1, [.ref dw, .ref dy, .int ((f_X2_nextBit Wf Yf F pl bg fp fb dm da z m).2.2.2.2.2.2.1), .int ((f_X2_nextBit Wf Yf F pl bg fp fb dm da z m).2.2.2.2.2.2.2)])), (dw, .inl (g.2.2.1, 100, .inl ((f_X2_nextBit Wf Yf F pl bg fp fb dm da z m).2.1))), (dy, .inl (g.2.2.1, 100, .inl ((f_X2_nextBit Wf Yf F pl bg fp fb dm da z m).2.2.1))), (c, .inr (3, [.ref ca, .int cm])), (ca, .inl (g.2.1, 4096, .inl Cf)), (b, .inr (0, [.ref br, .int z])), (br, .inr (3, [.ref ba, .int m])), (ba, .inl (g.2.1, 4096, .inl F))] := by
  refine zMI_of (cc := cX2_nextBit) (nL := 4) (ty := .int) (by decide) rfl (Nat.le_of_ble_eq_true rfl) rfl ?_
  intro X C hret
  refine z_lv (lv' := [(0, .ref e)]) [0] rfl ?_
  have join162 : ∀ (lf : Int32) (ln : Int32) (kd : Int32) (pl_j162 : Int32), jp162_X2_nextBit Wf Yf F bg fp fb dm da m lf ln kd pl_j162 = (f_X2_nextBit Wf Yf F pl bg fp fb dm da z m) → zV X g 4 0 0 162 [(0, .ref e), (1, .int lf), (2, .int ln), (3, .int kd)] [] [(e, .inr (2, [.ref b, .ref d, .ref c, .int rp, .int hf, .int pl_j162, .int bg, .int lo, .int fp, .int fb])), (d, .inr (1, [.ref dw, .ref dy, .int dm, .int da])), (dw, .inl (g.2.2.1, 100, .inl Wf)), (dy, .inl (g.2.2.1, 100, .inl Yf)), (c, .inr (3, [.ref ca, .int cm])), (ca, .inl (g.2.1, 4096, .inl Cf)), (b, .inr (0, [.ref br, .int z])), (br, .inr (3, [.ref ba, .int m])), (ba, .inl (g.2.1, 4096, .inl F))] := by
    intro lf ln kd pl_j162  hvj162
    refine z_aload_n C dX2_nextBit_162 rfl 0 rfl ?_
    refine z_iload_n C dX2_nextBit_163 rfl 3 rfl ?_
    refine z_iload_n C dX2_nextBit_164 rfl 2 rfl ?_
    refine z_callVi (n := 2) (isC := [0, 1, 2, 3, 4, 5, 6, 7, 8]) (isR := []) (isP := [0, 1, 2, 3, 4, 5, 6, 7, 8]) (As := [.int kd, .int ln]) (rest := []) (wr := []) (ws2 := [(e, .inr (2, [.ref b, .ref d, .ref c, .int rp, .int hf, .int pl_j162, .int bg, .int lo, .int fp, .int fb])), (d, .inr (1, [.ref dw, .ref dy, .int dm, .int da])), (dw, .inl (g.2.2.1, 100, .inl Wf)), (dy, .inl (g.2.2.1, 100, .inl Yf)), (c, .inr (3, [.ref ca, .int cm])), (ca, .inl (g.2.1, 4096, .inl Cf)), (b, .inr (0, [.ref br, .int z])), (br, .inr (3, [.ref ba, .int m])), (ba, .inl (g.2.1, 4096, .inl F))]) C dX2_nextBit_165 (c_X2_isCheckRight (zl X) g e b d c dw dy ca br ba Wf Yf Cf F rp hf pl_j162 bg lo fp fb dm da cm z m kd ln hm) gX2_nextBit_X2_isCheckRight rfl ⟨rfl, rfl⟩ (by decide +kernel) (by decide) (by decide) rfl rfl rfl rfl (Nat.le_of_ble_eq_true rfl) rfl rfl ⟨rfl, rfl, rfl⟩ (by decide) rfl ?_
    generalize hT1 : (f_X2_isCheckRight F pl_j162 m kd ln) = rq1
    refine z_if_ne (tgt := 178) C dX2_nextBit_168 (by decide) (fun c_2 => ?_) (fun c_2 => ?_)
    · skip
      refine z_aload_n C dX2_nextBit_178 rfl 0 rfl ?_
      refine z_aload_n C dX2_nextBit_179 rfl 0 rfl ?_
      refine z_get (ci := 2) (v := .int pl_j162) (Cn := RX2) (T := TX2) (N := 10) C dX2_nextBit_180 (fun w h => List.mem_cons_of_mem _ (List.mem_append_left _ (List.mem_append_left _ (List.mem_append_left _ (List.mem_append_right _ h))))) 0 rfl rfl 5 (by decide) (List.mem_of_getElem? (i := 2) rfl) rfl rfl ?_
      refine z_put (ci := 2) (v := .int pl_j162) (ty := .int) (Cn := RX2) (T := TX2) (N := 10) (ws' := [(e, .inr (2, [.ref b, .ref d, .ref c, .int rp, .int hf, .int pl_j162, .int bg, .int lo, .int pl_j162, .int fb])), (d, .inr (1, [.ref dw, .ref dy, .int dm, .int da])), (dw, .inl (g.2.2.1, 100, .inl Wf)), (dy, .inl (g.2.2.1, 100, .inl Yf)), (c, .inr (3, [.ref ca, .int cm])), (ca, .inl (g.2.1, 4096, .inl Cf)), (b, .inr (0, [.ref br, .int z])), (br, .inr (3, [.ref ba, .int m])), (ba, .inl (g.2.1, 4096, .inl F))]) C dX2_nextBit_183 (fun w h => List.mem_cons_of_mem _ (List.mem_append_left _ (List.mem_append_left _ (List.mem_append_left _ (List.mem_append_right _ h))))) tyX2 tyX2_ok nmX2 0 rfl rfl 8 (by decide) (List.mem_of_getElem? (i := 3) rfl) rfl rfl (by decide +kernel) rfl rfl (Nat.le_of_ble_eq_true rfl) rfl ?_
      refine z_aload_n C dX2_nextBit_186 rfl 0 rfl ?_
      refine z_iload_n C dX2_nextBit_187 rfl 2 rfl ?_
      refine z_put (ci := 2) (v := .int ln) (ty := .int) (Cn := RX2) (T := TX2) (N := 10) (ws' := [(e, .inr (2, [.ref b, .ref d, .ref c, .int rp, .int hf, .int pl_j162, .int bg, .int lo, .int pl_j162, .int ln])), (d, .inr (1, [.ref dw, .ref dy, .int dm, .int da])), (dw, .inl (g.2.2.1, 100, .inl Wf)), (dy, .inl (g.2.2.1, 100, .inl Yf)), (c, .inr (3, [.ref ca, .int cm])), (ca, .inl (g.2.1, 4096, .inl Cf)), (b, .inr (0, [.ref br, .int z])), (br, .inr (3, [.ref ba, .int m])), (ba, .inl (g.2.1, 4096, .inl F))]) C dX2_nextBit_188 (fun w h => List.mem_cons_of_mem _ (List.mem_append_left _ (List.mem_append_left _ (List.mem_append_left _ (List.mem_append_right _ h))))) tyX2 tyX2_ok nmX2 0 rfl rfl 9 (by decide) (List.mem_of_getElem? (i := 4) rfl) rfl rfl (by decide +kernel) rfl rfl (Nat.le_of_ble_eq_true rfl) rfl ?_
      refine z_aload_n C dX2_nextBit_191 rfl 0 rfl ?_
      refine z_dup C dX2_nextBit_192 rfl ?_
      refine z_get (ci := 2) (v := .int pl_j162) (Cn := RX2) (T := TX2) (N := 10) C dX2_nextBit_193 (fun w h => List.mem_cons_of_mem _ (List.mem_append_left _ (List.mem_append_left _ (List.mem_append_left _ (List.mem_append_right _ h))))) 0 rfl rfl 5 (by decide) (List.mem_of_getElem? (i := 2) rfl) rfl rfl ?_
      refine z_bipush (v := 7) C dX2_nextBit_196 (by decide) ?_
      refine z_iload_n C dX2_nextBit_198 rfl 2 rfl ?_
      refine z_iadd C dX2_nextBit_199 ?_
      refine z_iadd C dX2_nextBit_200 ?_
      refine z_put (ci := 2) (v := .int (pl_j162 + (7 + ln))) (ty := .int) (Cn := RX2) (T := TX2) (N := 10) (ws' := [(e, .inr (2, [.ref b, .ref d, .ref c, .int rp, .int hf, .int (pl_j162 + (7 + ln)), .int bg, .int lo, .int pl_j162, .int ln])), (d, .inr (1, [.ref dw, .ref dy, .int dm, .int da])), (dw, .inl (g.2.2.1, 100, .inl Wf)), (dy, .inl (g.2.2.1, 100, .inl Yf)), (c, .inr (3, [.ref ca, .int cm])), (ca, .inl (g.2.1, 4096, .inl Cf)), (b, .inr (0, [.ref br, .int z])), (br, .inr (3, [.ref ba, .int m])), (ba, .inl (g.2.1, 4096, .inl F))]) C dX2_nextBit_201 (fun w h => List.mem_cons_of_mem _ (List.mem_append_left _ (List.mem_append_left _ (List.mem_append_left _ (List.mem_append_right _ h))))) tyX2 tyX2_ok nmX2 0 rfl rfl 5 (by decide) (List.mem_of_getElem? (i := 2) rfl) rfl rfl (by decide +kernel) rfl rfl (Nat.le_of_ble_eq_true rfl) rfl ?_
      refine z_aload_n C dX2_nextBit_204 rfl 0 rfl ?_
      refine z_get (ci := 2) (v := .int pl_j162) (Cn := RX2) (T := TX2) (N := 10) C dX2_nextBit_205 (fun w h => List.mem_cons_of_mem _ (List.mem_append_left _ (List.mem_append_left _ (List.mem_append_left _ (List.mem_append_right _ h))))) 0 rfl rfl 8 (by decide) (List.mem_of_getElem? (i := 3) rfl) rfl rfl ?_
      refine z_aload_n C dX2_nextBit_208 rfl 0 rfl ?_
      refine z_get (ci := 2) (v := .int bg) (Cn := RX2) (T := TX2) (N := 10) C dX2_nextBit_209 (fun w h => List.mem_cons_of_mem _ (List.mem_append_left _ (List.mem_append_left _ (List.mem_append_left _ (List.mem_append_right _ h))))) 0 rfl rfl 6 (by decide) (List.mem_of_getElem? (i := 5) rfl) rfl rfl ?_
      refine z_icmp_ge (tgt := 221) C dX2_nextBit_212 (by decide) (fun c_3 => ?_) (fun c_3 => ?_)
      · skip
        refine z_iload_n C dX2_nextBit_221 rfl 3 rfl ?_
        have he : (f_X2_nextBit Wf Yf F pl bg fp fb dm da z m) = (kd, Wf, Yf, (pl_j162 + (7 + ln)), pl_j162, ln, dm, da) := by rw [← hvj162]; simp only [jp162_X2_nextBit, hT1, if_neg c_2, if_pos c_3]
        exact hret _ _ _ _ dX2_nextBit_222 (by first | rw [he] | rfl) (by first | rw [he] | rfl)
      · skip
        refine z_sipush (v := 257) C dX2_nextBit_215 (by decide) ?_
        refine z_goto (tgt := 222) C dX2_nextBit_218 (by decide) ?_
        have he : (f_X2_nextBit Wf Yf F pl bg fp fb dm da z m) = (257, Wf, Yf, (pl_j162 + (7 + ln)), pl_j162, ln, dm, da) := by rw [← hvj162]; simp only [jp162_X2_nextBit, hT1, if_neg c_2, if_neg c_3]
        exact hret _ _ _ _ dX2_nextBit_222 (by first | rw [he] | rfl) (by first | rw [he] | rfl)
    · skip
      refine z_aload_n C dX2_nextBit_171 rfl 0 rfl ?_
      refine z_iconst (v := 2) C dX2_nextBit_172 (by decide) ?_
      refine z_iload_n C dX2_nextBit_173 rfl 1 rfl ?_
      refine z_callVi (n := 2) (isC := [0, 1, 2, 3, 4, 5, 6, 7, 8]) (isR := []) (isP := [0, 1, 2, 3, 4, 5, 6, 7, 8]) (As := [.int 2, .int lf]) (rest := []) (wr := []) (ws2 := [(e, .inr (2, [.ref b, .ref d, .ref c, .int rp, .int hf, .int ((f_X2_breakBlock Wf Yf pl_j162 dm da 2 lf).2.2.2.1), .int bg, .int lo, .int fp, .int fb])), (d, .inr (1, [.ref dw, .ref dy, .int ((f_X2_breakBlock Wf Yf pl_j162 dm da 2 lf).2.2.2.2.1), .int ((f_X2_breakBlock Wf Yf pl_j162 dm da 2 lf).2.2.2.2.2)])), (dw, .inl (g.2.2.1, 100, .inl ((f_X2_breakBlock Wf Yf pl_j162 dm da 2 lf).2.1))), (dy, .inl (g.2.2.1, 100, .inl ((f_X2_breakBlock Wf Yf pl_j162 dm da 2 lf).2.2.1))), (c, .inr (3, [.ref ca, .int cm])), (ca, .inl (g.2.1, 4096, .inl Cf)), (b, .inr (0, [.ref br, .int z])), (br, .inr (3, [.ref ba, .int m])), (ba, .inl (g.2.1, 4096, .inl F))]) C dX2_nextBit_174 (c_X2_breakBlock (zl X) g e b d c dw dy ca br ba Wf Yf Cf F rp hf pl_j162 bg lo fp fb dm da cm z m 2 lf hd) gX2_nextBit_X2_breakBlock rfl ⟨rfl, rfl⟩ (by decide +kernel) (by decide) (by decide) rfl rfl rfl rfl (Nat.le_of_ble_eq_true rfl) rfl rfl ⟨rfl, rfl, rfl⟩ (by decide) rfl ?_
      generalize hT4 : (f_X2_breakBlock Wf Yf pl_j162 dm da 2 lf) = T4
      obtain ⟨rq4, Wfq4, Yfq4, plq4, dmq4, daq4⟩ := T4
      have k4_dm : zdok (0) dmq4 := zdok_X2_breakBlock (zdok_le hd (by omega)) hT4
      have he : (f_X2_nextBit Wf Yf F pl bg fp fb dm da z m) = (rq4, Wfq4, Yfq4, plq4, fp, fb, dmq4, daq4) := by rw [← hvj162]; simp only [jp162_X2_nextBit, hT1, if_pos c_2, hT4]
      exact hret _ _ _ _ dX2_nextBit_177 (by first | rw [he] | rfl) (by first | rw [he] | rfl)
  have join45 : ∀ (pl_j45 : Int32), jp45_X2_nextBit Wf Yf F bg fp fb dm da z m pl_j45 = (f_X2_nextBit Wf Yf F pl bg fp fb dm da z m) → zV X g 4 0 0 45 [(0, .ref e)] [] [(e, .inr (2, [.ref b, .ref d, .ref c, .int rp, .int hf, .int pl_j45, .int bg, .int lo, .int fp, .int fb])), (d, .inr (1, [.ref dw, .ref dy, .int dm, .int da])), (dw, .inl (g.2.2.1, 100, .inl Wf)), (dy, .inl (g.2.2.1, 100, .inl Yf)), (c, .inr (3, [.ref ca, .int cm])), (ca, .inl (g.2.1, 4096, .inl Cf)), (b, .inr (0, [.ref br, .int z])), (br, .inr (3, [.ref ba, .int m])), (ba, .inl (g.2.1, 4096, .inl F))] := by
    intro pl_j45  hvj45
    refine z_aload_n C dX2_nextBit_45 rfl 0 rfl ?_
    refine z_get (ci := 2) (v := .ref b) (Cn := RX2) (T := TX2) (N := 10) C dX2_nextBit_46 (fun w h => List.mem_cons_of_mem _ (List.mem_append_left _ (List.mem_append_left _ (List.mem_append_left _ (List.mem_append_right _ h))))) 0 rfl rfl 0 (by decide) (List.mem_of_getElem? (i := 1) rfl) rfl rfl ?_
    refine z_aload_n C dX2_nextBit_49 rfl 0 rfl ?_
    refine z_get (ci := 2) (v := .int pl_j45) (Cn := RX2) (T := TX2) (N := 10) C dX2_nextBit_50 (fun w h => List.mem_cons_of_mem _ (List.mem_append_left _ (List.mem_append_left _ (List.mem_append_left _ (List.mem_append_right _ h))))) 0 rfl rfl 5 (by decide) (List.mem_of_getElem? (i := 2) rfl) rfl rfl ?_
    refine z_callVi (n := 1) (isC := [6, 7, 8]) (isR := [0, 1, 2, 3, 4, 5]) (isP := [0, 1, 2, 3, 4, 5, 6, 7, 8]) (As := [.int pl_j45]) (rest := []) (wr := [(e, .inr (2, [.ref b, .ref d, .ref c, .int rp, .int hf, .int pl_j45, .int bg, .int lo, .int fp, .int fb])), (d, .inr (1, [.ref dw, .ref dy, .int dm, .int da])), (dw, .inl (g.2.2.1, 100, .inl Wf)), (dy, .inl (g.2.2.1, 100, .inl Yf)), (c, .inr (3, [.ref ca, .int cm])), (ca, .inl (g.2.1, 4096, .inl Cf))]) (ws2 := [(e, .inr (2, [.ref b, .ref d, .ref c, .int rp, .int hf, .int pl_j45, .int bg, .int lo, .int fp, .int fb])), (d, .inr (1, [.ref dw, .ref dy, .int dm, .int da])), (dw, .inl (g.2.2.1, 100, .inl Wf)), (dy, .inl (g.2.2.1, 100, .inl Yf)), (c, .inr (3, [.ref ca, .int cm])), (ca, .inl (g.2.1, 4096, .inl Cf)), (b, .inr (0, [.ref br, .int z])), (br, .inr (3, [.ref ba, .int m])), (ba, .inl (g.2.1, 4096, .inl F))]) C dX2_nextBit_53 (c_X0_leftInBlock (zl X) g b br ba F z m pl_j45 hz) gX2_nextBit_X0_leftInBlock rfl ⟨rfl, rfl⟩ (by decide +kernel) (by decide) (by decide) rfl rfl rfl rfl (Nat.le_of_ble_eq_true rfl) rfl rfl ⟨rfl, rfl, rfl⟩ (by decide) rfl ?_
    refine z_istore_n (lv' := [(1, .int ((zMin ((pl_j45 - (zMod pl_j45 z)) + z) m) - pl_j45)), (0, .ref e)]) C dX2_nextBit_56 rfl (by decide) rfl ?_
    refine z_iload_n C dX2_nextBit_57 rfl 0 rfl ?_
    refine z_bipush (v := 7) C dX2_nextBit_58 (by decide) ?_
    refine z_icmp_ge (tgt := 67) C dX2_nextBit_60 (by decide) (fun c_6 => ?_) (fun c_6 => ?_)
    · skip
      refine z_aload_n C dX2_nextBit_67 rfl 1 rfl ?_
      refine z_get (ci := 2) (v := .ref b) (Cn := RX2) (T := TX2) (N := 10) C dX2_nextBit_68 (fun w h => List.mem_cons_of_mem _ (List.mem_append_left _ (List.mem_append_left _ (List.mem_append_left _ (List.mem_append_right _ h))))) 0 rfl rfl 0 (by decide) (List.mem_of_getElem? (i := 1) rfl) rfl rfl ?_
      refine z_callVr (n := 0) (isC := [6, 7, 8]) (isR := [0, 1, 2, 3, 4, 5]) (isP := [0, 1, 2, 3, 4, 5, 6, 7, 8]) (As := []) (rest := []) (wr := [(e, .inr (2, [.ref b, .ref d, .ref c, .int rp, .int hf, .int pl_j45, .int bg, .int lo, .int fp, .int fb])), (d, .inr (1, [.ref dw, .ref dy, .int dm, .int da])), (dw, .inl (g.2.2.1, 100, .inl Wf)), (dy, .inl (g.2.2.1, 100, .inl Yf)), (c, .inr (3, [.ref ca, .int cm])), (ca, .inl (g.2.1, 4096, .inl Cf))]) (ws2 := [(e, .inr (2, [.ref b, .ref d, .ref c, .int rp, .int hf, .int pl_j45, .int bg, .int lo, .int fp, .int fb])), (d, .inr (1, [.ref dw, .ref dy, .int dm, .int da])), (dw, .inl (g.2.2.1, 100, .inl Wf)), (dy, .inl (g.2.2.1, 100, .inl Yf)), (c, .inr (3, [.ref ca, .int cm])), (ca, .inl (g.2.1, 4096, .inl Cf)), (b, .inr (0, [.ref br, .int z])), (br, .inr (3, [.ref ba, .int m])), (ba, .inl (g.2.1, 4096, .inl F))]) C dX2_nextBit_71 (c_X0_bytes (zl X) g b br ba F z m) gX2_nextBit_X0_bytes rfl ⟨rfl, rfl⟩ (by decide +kernel) (by decide) (by decide) rfl rfl rfl rfl (Nat.le_of_ble_eq_true rfl) rfl rfl ⟨rfl, rfl, rfl⟩ (by decide) rfl ?_
      refine z_aload_n C dX2_nextBit_74 rfl 1 rfl ?_
      refine z_get (ci := 2) (v := .int pl_j45) (Cn := RX2) (T := TX2) (N := 10) C dX2_nextBit_75 (fun w h => List.mem_cons_of_mem _ (List.mem_append_left _ (List.mem_append_left _ (List.mem_append_left _ (List.mem_append_right _ h))))) 0 rfl rfl 5 (by decide) (List.mem_of_getElem? (i := 2) rfl) rfl rfl ?_
      refine z_iconst (v := 4) C dX2_nextBit_78 (by decide) ?_
      refine z_iadd C dX2_nextBit_79 ?_
      refine z_iconst (v := 2) C dX2_nextBit_80 (by decide) ?_
      refine z_callVi (n := 2) (isC := [7, 8]) (isR := [0, 1, 2, 3, 4, 5, 6]) (isP := [0, 1, 2, 3, 4, 5, 6, 7, 8]) (As := [.int (pl_j45 + 4), .int 2]) (rest := []) (wr := [(e, .inr (2, [.ref b, .ref d, .ref c, .int rp, .int hf, .int pl_j45, .int bg, .int lo, .int fp, .int fb])), (d, .inr (1, [.ref dw, .ref dy, .int dm, .int da])), (dw, .inl (g.2.2.1, 100, .inl Wf)), (dy, .inl (g.2.2.1, 100, .inl Yf)), (c, .inr (3, [.ref ca, .int cm])), (ca, .inl (g.2.1, 4096, .inl Cf)), (b, .inr (0, [.ref br, .int z]))]) (ws2 := [(e, .inr (2, [.ref b, .ref d, .ref c, .int rp, .int hf, .int pl_j45, .int bg, .int lo, .int fp, .int fb])), (d, .inr (1, [.ref dw, .ref dy, .int dm, .int da])), (dw, .inl (g.2.2.1, 100, .inl Wf)), (dy, .inl (g.2.2.1, 100, .inl Yf)), (c, .inr (3, [.ref ca, .int cm])), (ca, .inl (g.2.1, 4096, .inl Cf)), (b, .inr (0, [.ref br, .int z])), (br, .inr (3, [.ref ba, .int m])), (ba, .inl (g.2.1, 4096, .inl F))]) C dX2_nextBit_81 (c_X3_numberLowestFirst (zl X) g br ba 4096 F m (pl_j45 + 4) 2 hm) gX2_nextBit_X3_numberLowestFirst rfl ⟨rfl, rfl⟩ (by decide +kernel) (by decide) (by decide) rfl rfl rfl rfl (Nat.le_of_ble_eq_true rfl) rfl rfl ⟨rfl, rfl, rfl⟩ (by decide) rfl ?_
      generalize hT8 : (f_X3_numberLowestFirst F m (pl_j45 + 4) 2) = rq8
      refine z_istore_n (lv' := [(2, .int rq8), (1, .int ((zMin ((pl_j45 - (zMod pl_j45 z)) + z) m) - pl_j45)), (0, .ref e)]) C dX2_nextBit_84 rfl (by decide) rfl ?_
      refine z_aload_n C dX2_nextBit_85 rfl 2 rfl ?_
      refine z_get (ci := 2) (v := .ref b) (Cn := RX2) (T := TX2) (N := 10) C dX2_nextBit_86 (fun w h => List.mem_cons_of_mem _ (List.mem_append_left _ (List.mem_append_left _ (List.mem_append_left _ (List.mem_append_right _ h))))) 0 rfl rfl 0 (by decide) (List.mem_of_getElem? (i := 1) rfl) rfl rfl ?_
      refine z_callVr (n := 0) (isC := [6, 7, 8]) (isR := [0, 1, 2, 3, 4, 5]) (isP := [0, 1, 2, 3, 4, 5, 6, 7, 8]) (As := []) (rest := []) (wr := [(e, .inr (2, [.ref b, .ref d, .ref c, .int rp, .int hf, .int pl_j45, .int bg, .int lo, .int fp, .int fb])), (d, .inr (1, [.ref dw, .ref dy, .int dm, .int da])), (dw, .inl (g.2.2.1, 100, .inl Wf)), (dy, .inl (g.2.2.1, 100, .inl Yf)), (c, .inr (3, [.ref ca, .int cm])), (ca, .inl (g.2.1, 4096, .inl Cf))]) (ws2 := [(e, .inr (2, [.ref b, .ref d, .ref c, .int rp, .int hf, .int pl_j45, .int bg, .int lo, .int fp, .int fb])), (d, .inr (1, [.ref dw, .ref dy, .int dm, .int da])), (dw, .inl (g.2.2.1, 100, .inl Wf)), (dy, .inl (g.2.2.1, 100, .inl Yf)), (c, .inr (3, [.ref ca, .int cm])), (ca, .inl (g.2.1, 4096, .inl Cf)), (b, .inr (0, [.ref br, .int z])), (br, .inr (3, [.ref ba, .int m])), (ba, .inl (g.2.1, 4096, .inl F))]) C dX2_nextBit_89 (c_X0_bytes (zl X) g b br ba F z m) gX2_nextBit_X0_bytes rfl ⟨rfl, rfl⟩ (by decide +kernel) (by decide) (by decide) rfl rfl rfl rfl (Nat.le_of_ble_eq_true rfl) rfl rfl ⟨rfl, rfl, rfl⟩ (by decide) rfl ?_
      refine z_aload_n C dX2_nextBit_92 rfl 2 rfl ?_
      refine z_get (ci := 2) (v := .int pl_j45) (Cn := RX2) (T := TX2) (N := 10) C dX2_nextBit_93 (fun w h => List.mem_cons_of_mem _ (List.mem_append_left _ (List.mem_append_left _ (List.mem_append_left _ (List.mem_append_right _ h))))) 0 rfl rfl 5 (by decide) (List.mem_of_getElem? (i := 2) rfl) rfl rfl ?_
      refine z_bipush (v := 7) C dX2_nextBit_96 (by decide) ?_
      refine z_iadd C dX2_nextBit_98 ?_
      refine z_iconst (v := 1) C dX2_nextBit_99 (by decide) ?_
      refine z_isub C dX2_nextBit_100 ?_
      refine z_callVi (n := 1) (isC := [7, 8]) (isR := [0, 1, 2, 3, 4, 5, 6]) (isP := [0, 1, 2, 3, 4, 5, 6, 7, 8]) (As := [.int ((pl_j45 + 7) - 1)]) (rest := []) (wr := [(e, .inr (2, [.ref b, .ref d, .ref c, .int rp, .int hf, .int pl_j45, .int bg, .int lo, .int fp, .int fb])), (d, .inr (1, [.ref dw, .ref dy, .int dm, .int da])), (dw, .inl (g.2.2.1, 100, .inl Wf)), (dy, .inl (g.2.2.1, 100, .inl Yf)), (c, .inr (3, [.ref ca, .int cm])), (ca, .inl (g.2.1, 4096, .inl Cf)), (b, .inr (0, [.ref br, .int z]))]) (ws2 := [(e, .inr (2, [.ref b, .ref d, .ref c, .int rp, .int hf, .int pl_j45, .int bg, .int lo, .int fp, .int fb])), (d, .inr (1, [.ref dw, .ref dy, .int dm, .int da])), (dw, .inl (g.2.2.1, 100, .inl Wf)), (dy, .inl (g.2.2.1, 100, .inl Yf)), (c, .inr (3, [.ref ca, .int cm])), (ca, .inl (g.2.1, 4096, .inl Cf)), (b, .inr (0, [.ref br, .int z])), (br, .inr (3, [.ref ba, .int m])), (ba, .inl (g.2.1, 4096, .inl F))]) C dX2_nextBit_101 (c_X3_at (zl X) g br ba 4096 F m ((pl_j45 + 7) - 1) hm) gX2_nextBit_X3_at rfl ⟨rfl, rfl⟩ (by decide +kernel) (by decide) (by decide) rfl rfl rfl rfl (Nat.le_of_ble_eq_true rfl) rfl rfl ⟨rfl, rfl, rfl⟩ (by decide) rfl ?_
      generalize hT10 : (f_X3_at F m ((pl_j45 + 7) - 1)) = rq10
      refine z_istore_n (lv' := [(3, .int rq10), (2, .int rq8), (1, .int ((zMin ((pl_j45 - (zMod pl_j45 z)) + z) m) - pl_j45)), (0, .ref e)]) C dX2_nextBit_104 rfl (by decide) rfl ?_
      refine z_iload_n C dX2_nextBit_105 rfl 1 rfl ?_
      refine z_iload_n C dX2_nextBit_106 rfl 2 rfl ?_
      refine z_bipush (v := 7) C dX2_nextBit_107 (by decide) ?_
      refine z_isub C dX2_nextBit_109 ?_
      refine z_icmp_le (tgt := 140) C dX2_nextBit_110 (by decide) (fun c_11 => ?_) (fun c_11 => ?_)
      · skip
        refine z_iload_n C dX2_nextBit_140 rfl 0 rfl ?_
        refine z_if_ne (tgt := 162) C dX2_nextBit_141 (by decide) (fun c_12 => ?_) (fun c_12 => ?_)
        · skip
          exact z_lv [3, 2, 1, 0] rfl (join162 ((zMin ((pl_j45 - (zMod pl_j45 z)) + z) m) - pl_j45) rq8 rq10 pl_j45  (by rw [← hvj45]; simp only [jp45_X2_nextBit, if_pos c_6, hT8, hT10, if_pos c_11, if_neg c_12]))
        · skip
          refine z_iload_n C dX2_nextBit_144 rfl 1 rfl ?_
          refine z_if_ne (tgt := 162) C dX2_nextBit_145 (by decide) (fun c_13 => ?_) (fun c_13 => ?_)
          · skip
            exact z_lv [3, 2, 1, 0] rfl (join162 ((zMin ((pl_j45 - (zMod pl_j45 z)) + z) m) - pl_j45) rq8 rq10 pl_j45  (by rw [← hvj45]; simp only [jp45_X2_nextBit, if_pos c_6, hT8, hT10, if_pos c_11, if_pos c_12, if_neg c_13]))
          · skip
            refine z_aload_n C dX2_nextBit_148 rfl 3 rfl ?_
            refine z_dup C dX2_nextBit_149 rfl ?_
            refine z_get (ci := 2) (v := .int pl_j45) (Cn := RX2) (T := TX2) (N := 10) C dX2_nextBit_150 (fun w h => List.mem_cons_of_mem _ (List.mem_append_left _ (List.mem_append_left _ (List.mem_append_left _ (List.mem_append_right _ h))))) 0 rfl rfl 5 (by decide) (List.mem_of_getElem? (i := 2) rfl) rfl rfl ?_
            refine z_iload_n C dX2_nextBit_153 rfl 2 rfl ?_
            refine z_iadd C dX2_nextBit_154 ?_
            refine z_put (ci := 2) (v := .int (pl_j45 + ((zMin ((pl_j45 - (zMod pl_j45 z)) + z) m) - pl_j45))) (ty := .int) (Cn := RX2) (T := TX2) (N := 10) (ws' := [(e, .inr (2, [.ref b, .ref d, .ref c, .int rp, .int hf, .int (pl_j45 + ((zMin ((pl_j45 - (zMod pl_j45 z)) + z) m) - pl_j45)), .int bg, .int lo, .int fp, .int fb])), (d, .inr (1, [.ref dw, .ref dy, .int dm, .int da])), (dw, .inl (g.2.2.1, 100, .inl Wf)), (dy, .inl (g.2.2.1, 100, .inl Yf)), (c, .inr (3, [.ref ca, .int cm])), (ca, .inl (g.2.1, 4096, .inl Cf)), (b, .inr (0, [.ref br, .int z])), (br, .inr (3, [.ref ba, .int m])), (ba, .inl (g.2.1, 4096, .inl F))]) C dX2_nextBit_155 (fun w h => List.mem_cons_of_mem _ (List.mem_append_left _ (List.mem_append_left _ (List.mem_append_left _ (List.mem_append_right _ h))))) tyX2 tyX2_ok nmX2 0 rfl rfl 5 (by decide) (List.mem_of_getElem? (i := 2) rfl) rfl rfl (by decide +kernel) rfl rfl (Nat.le_of_ble_eq_true rfl) rfl ?_
            refine z_sipush (v := 257) C dX2_nextBit_158 (by decide) ?_
            have he : (f_X2_nextBit Wf Yf F pl bg fp fb dm da z m) = (257, Wf, Yf, (pl_j45 + ((zMin ((pl_j45 - (zMod pl_j45 z)) + z) m) - pl_j45)), fp, fb, dm, da) := by rw [← hvj45]; simp only [jp45_X2_nextBit, if_pos c_6, hT8, hT10, if_pos c_11, if_pos c_12, if_pos c_13]
            exact hret _ _ _ _ dX2_nextBit_161 (by first | rw [he] | rfl) (by first | rw [he] | rfl)
      · skip
        refine z_aload_n C dX2_nextBit_113 rfl 3 rfl ?_
        refine z_get (ci := 2) (v := .ref b) (Cn := RX2) (T := TX2) (N := 10) C dX2_nextBit_114 (fun w h => List.mem_cons_of_mem _ (List.mem_append_left _ (List.mem_append_left _ (List.mem_append_left _ (List.mem_append_right _ h))))) 0 rfl rfl 0 (by decide) (List.mem_of_getElem? (i := 1) rfl) rfl rfl ?_
        refine z_aload_n C dX2_nextBit_117 rfl 3 rfl ?_
        refine z_get (ci := 2) (v := .int pl_j45) (Cn := RX2) (T := TX2) (N := 10) C dX2_nextBit_118 (fun w h => List.mem_cons_of_mem _ (List.mem_append_left _ (List.mem_append_left _ (List.mem_append_left _ (List.mem_append_right _ h))))) 0 rfl rfl 5 (by decide) (List.mem_of_getElem? (i := 2) rfl) rfl rfl ?_
        refine z_callVi (n := 1) (isC := [6, 7, 8]) (isR := [0, 1, 2, 3, 4, 5]) (isP := [0, 1, 2, 3, 4, 5, 6, 7, 8]) (As := [.int pl_j45]) (rest := []) (wr := [(e, .inr (2, [.ref b, .ref d, .ref c, .int rp, .int hf, .int pl_j45, .int bg, .int lo, .int fp, .int fb])), (d, .inr (1, [.ref dw, .ref dy, .int dm, .int da])), (dw, .inl (g.2.2.1, 100, .inl Wf)), (dy, .inl (g.2.2.1, 100, .inl Yf)), (c, .inr (3, [.ref ca, .int cm])), (ca, .inl (g.2.1, 4096, .inl Cf))]) (ws2 := [(e, .inr (2, [.ref b, .ref d, .ref c, .int rp, .int hf, .int pl_j45, .int bg, .int lo, .int fp, .int fb])), (d, .inr (1, [.ref dw, .ref dy, .int dm, .int da])), (dw, .inl (g.2.2.1, 100, .inl Wf)), (dy, .inl (g.2.2.1, 100, .inl Yf)), (c, .inr (3, [.ref ca, .int cm])), (ca, .inl (g.2.1, 4096, .inl Cf)), (b, .inr (0, [.ref br, .int z])), (br, .inr (3, [.ref ba, .int m])), (ba, .inl (g.2.1, 4096, .inl F))]) C dX2_nextBit_121 (c_X0_isWhole (zl X) g b br ba F z m pl_j45 hz) gX2_nextBit_X0_isWhole rfl ⟨rfl, rfl⟩ (by decide +kernel) (by decide) (by decide) rfl rfl rfl rfl (Nat.le_of_ble_eq_true rfl) rfl rfl ⟨rfl, rfl, rfl⟩ (by decide) rfl ?_
        generalize hT14 : (f_X0_isWhole z m pl_j45) = rq14
        refine z_if_eq (tgt := 136) C dX2_nextBit_124 (by decide) (fun c_15 => ?_) (fun c_15 => ?_)
        · skip
          refine z_sipush (v := 256) C dX2_nextBit_136 (by decide) ?_
          have he : (f_X2_nextBit Wf Yf F pl bg fp fb dm da z m) = (256, Wf, Yf, pl_j45, fp, fb, dm, da) := by rw [← hvj45]; simp only [jp45_X2_nextBit, if_pos c_6, hT8, hT10, if_neg c_11, hT14, if_pos c_15]
          exact hret _ _ _ _ dX2_nextBit_139 (by first | rw [he] | rfl) (by first | rw [he] | rfl)
        · skip
          refine z_aload_n C dX2_nextBit_127 rfl 3 rfl ?_
          refine z_iconst (v := 1) C dX2_nextBit_128 (by decide) ?_
          refine z_iload_n C dX2_nextBit_129 rfl 2 rfl ?_
          refine z_callVi (n := 2) (isC := [0, 1, 2, 3, 4, 5, 6, 7, 8]) (isR := []) (isP := [0, 1, 2, 3, 4, 5, 6, 7, 8]) (As := [.int 1, .int ((zMin ((pl_j45 - (zMod pl_j45 z)) + z) m) - pl_j45)]) (rest := []) (wr := []) (ws2 := [(e, .inr (2, [.ref b, .ref d, .ref c, .int rp, .int hf, .int ((f_X2_breakBlock Wf Yf pl_j45 dm da 1 ((zMin ((pl_j45 - (zMod pl_j45 z)) + z) m) - pl_j45)).2.2.2.1), .int bg, .int lo, .int fp, .int fb])), (d, .inr (1, [.ref dw, .ref dy, .int ((f_X2_breakBlock Wf Yf pl_j45 dm da 1 ((zMin ((pl_j45 - (zMod pl_j45 z)) + z) m) - pl_j45)).2.2.2.2.1), .int ((f_X2_breakBlock Wf Yf pl_j45 dm da 1 ((zMin ((pl_j45 - (zMod pl_j45 z)) + z) m) - pl_j45)).2.2.2.2.2)])), (dw, .inl (g.2.2.1, 100, .inl ((f_X2_breakBlock Wf Yf pl_j45 dm da 1 ((zMin ((pl_j45 - (zMod pl_j45 z)) + z) m) - pl_j45)).2.1))), (dy, .inl (g.2.2.1, 100, .inl ((f_X2_breakBlock Wf Yf pl_j45 dm da 1 ((zMin ((pl_j45 - (zMod pl_j45 z)) + z) m) - pl_j45)).2.2.1))), (c, .inr (3, [.ref ca, .int cm])), (ca, .inl (g.2.1, 4096, .inl Cf)), (b, .inr (0, [.ref br, .int z])), (br, .inr (3, [.ref ba, .int m])), (ba, .inl (g.2.1, 4096, .inl F))]) C dX2_nextBit_130 (c_X2_breakBlock (zl X) g e b d c dw dy ca br ba Wf Yf Cf F rp hf pl_j45 bg lo fp fb dm da cm z m 1 ((zMin ((pl_j45 - (zMod pl_j45 z)) + z) m) - pl_j45) hd) gX2_nextBit_X2_breakBlock rfl ⟨rfl, rfl⟩ (by decide +kernel) (by decide) (by decide) rfl rfl rfl rfl (Nat.le_of_ble_eq_true rfl) rfl rfl ⟨rfl, rfl, rfl⟩ (by decide) rfl ?_
          generalize hT16 : (f_X2_breakBlock Wf Yf pl_j45 dm da 1 ((zMin ((pl_j45 - (zMod pl_j45 z)) + z) m) - pl_j45)) = T16
          obtain ⟨rq16, Wfq16, Yfq16, plq16, dmq16, daq16⟩ := T16
          have k16_dm : zdok (0) dmq16 := zdok_X2_breakBlock (zdok_le hd (by omega)) hT16
          refine z_goto (tgt := 139) C dX2_nextBit_133 (by decide) ?_
          have he : (f_X2_nextBit Wf Yf F pl bg fp fb dm da z m) = (rq16, Wfq16, Yfq16, plq16, fp, fb, dmq16, daq16) := by rw [← hvj45]; simp only [jp45_X2_nextBit, if_pos c_6, hT8, hT10, if_neg c_11, hT14, if_neg c_15, hT16]
          exact hret _ _ _ _ dX2_nextBit_139 (by first | rw [he] | rfl) (by first | rw [he] | rfl)
    · skip
      refine z_sipush (v := 256) C dX2_nextBit_63 (by decide) ?_
      have he : (f_X2_nextBit Wf Yf F pl bg fp fb dm da z m) = (256, Wf, Yf, pl_j45, fp, fb, dm, da) := by rw [← hvj45]; simp only [jp45_X2_nextBit, if_neg c_6]
      exact hret _ _ _ _ dX2_nextBit_66 (by first | rw [he] | rfl) (by first | rw [he] | rfl)
  refine z_aload_n C dX2_nextBit_0 rfl 0 rfl ?_
  refine z_get (ci := 2) (v := .ref b) (Cn := RX2) (T := TX2) (N := 10) C dX2_nextBit_1 (fun w h => List.mem_cons_of_mem _ (List.mem_append_left _ (List.mem_append_left _ (List.mem_append_left _ (List.mem_append_right _ h))))) 0 rfl rfl 0 (by decide) (List.mem_of_getElem? (i := 1) rfl) rfl rfl ?_
  refine z_aload_n C dX2_nextBit_4 rfl 0 rfl ?_
  refine z_get (ci := 2) (v := .int pl) (Cn := RX2) (T := TX2) (N := 10) C dX2_nextBit_5 (fun w h => List.mem_cons_of_mem _ (List.mem_append_left _ (List.mem_append_left _ (List.mem_append_left _ (List.mem_append_right _ h))))) 0 rfl rfl 5 (by decide) (List.mem_of_getElem? (i := 2) rfl) rfl rfl ?_
  refine z_callVi (n := 1) (isC := [6, 7, 8]) (isR := [0, 1, 2, 3, 4, 5]) (isP := [0, 1, 2, 3, 4, 5, 6, 7, 8]) (As := [.int pl]) (rest := []) (wr := [(e, .inr (2, [.ref b, .ref d, .ref c, .int rp, .int hf, .int pl, .int bg, .int lo, .int fp, .int fb])), (d, .inr (1, [.ref dw, .ref dy, .int dm, .int da])), (dw, .inl (g.2.2.1, 100, .inl Wf)), (dy, .inl (g.2.2.1, 100, .inl Yf)), (c, .inr (3, [.ref ca, .int cm])), (ca, .inl (g.2.1, 4096, .inl Cf))]) (ws2 := [(e, .inr (2, [.ref b, .ref d, .ref c, .int rp, .int hf, .int pl, .int bg, .int lo, .int fp, .int fb])), (d, .inr (1, [.ref dw, .ref dy, .int dm, .int da])), (dw, .inl (g.2.2.1, 100, .inl Wf)), (dy, .inl (g.2.2.1, 100, .inl Yf)), (c, .inr (3, [.ref ca, .int cm])), (ca, .inl (g.2.1, 4096, .inl Cf)), (b, .inr (0, [.ref br, .int z])), (br, .inr (3, [.ref ba, .int m])), (ba, .inl (g.2.1, 4096, .inl F))]) C dX2_nextBit_8 (c_X0_leftInBlock (zl X) g b br ba F z m pl hz) gX2_nextBit_X0_leftInBlock rfl ⟨rfl, rfl⟩ (by decide +kernel) (by decide) (by decide) rfl rfl rfl rfl (Nat.le_of_ble_eq_true rfl) rfl rfl ⟨rfl, rfl, rfl⟩ (by decide) rfl ?_
  refine z_bipush (v := 7) C dX2_nextBit_11 (by decide) ?_
  refine z_icmp_ge (tgt := 45) C dX2_nextBit_13 (by decide) (fun c_18 => ?_) (fun c_18 => ?_)
  · skip
    exact z_lv [0] rfl (join45 pl  (by simp only [f_X2_nextBit, if_pos c_18]))
  · skip
    refine z_aload_n C dX2_nextBit_16 rfl 0 rfl ?_
    refine z_get (ci := 2) (v := .ref b) (Cn := RX2) (T := TX2) (N := 10) C dX2_nextBit_17 (fun w h => List.mem_cons_of_mem _ (List.mem_append_left _ (List.mem_append_left _ (List.mem_append_left _ (List.mem_append_right _ h))))) 0 rfl rfl 0 (by decide) (List.mem_of_getElem? (i := 1) rfl) rfl rfl ?_
    refine z_aload_n C dX2_nextBit_20 rfl 0 rfl ?_
    refine z_get (ci := 2) (v := .int pl) (Cn := RX2) (T := TX2) (N := 10) C dX2_nextBit_21 (fun w h => List.mem_cons_of_mem _ (List.mem_append_left _ (List.mem_append_left _ (List.mem_append_left _ (List.mem_append_right _ h))))) 0 rfl rfl 5 (by decide) (List.mem_of_getElem? (i := 2) rfl) rfl rfl ?_
    refine z_callVi (n := 1) (isC := [6, 7, 8]) (isR := [0, 1, 2, 3, 4, 5]) (isP := [0, 1, 2, 3, 4, 5, 6, 7, 8]) (As := [.int pl]) (rest := []) (wr := [(e, .inr (2, [.ref b, .ref d, .ref c, .int rp, .int hf, .int pl, .int bg, .int lo, .int fp, .int fb])), (d, .inr (1, [.ref dw, .ref dy, .int dm, .int da])), (dw, .inl (g.2.2.1, 100, .inl Wf)), (dy, .inl (g.2.2.1, 100, .inl Yf)), (c, .inr (3, [.ref ca, .int cm])), (ca, .inl (g.2.1, 4096, .inl Cf))]) (ws2 := [(e, .inr (2, [.ref b, .ref d, .ref c, .int rp, .int hf, .int pl, .int bg, .int lo, .int fp, .int fb])), (d, .inr (1, [.ref dw, .ref dy, .int dm, .int da])), (dw, .inl (g.2.2.1, 100, .inl Wf)), (dy, .inl (g.2.2.1, 100, .inl Yf)), (c, .inr (3, [.ref ca, .int cm])), (ca, .inl (g.2.1, 4096, .inl Cf)), (b, .inr (0, [.ref br, .int z])), (br, .inr (3, [.ref ba, .int m])), (ba, .inl (g.2.1, 4096, .inl F))]) C dX2_nextBit_24 (c_X0_isWhole (zl X) g b br ba F z m pl hz) gX2_nextBit_X0_isWhole rfl ⟨rfl, rfl⟩ (by decide +kernel) (by decide) (by decide) rfl rfl rfl rfl (Nat.le_of_ble_eq_true rfl) rfl rfl ⟨rfl, rfl, rfl⟩ (by decide) rfl ?_
    generalize hT19 : (f_X0_isWhole z m pl) = rq19
    refine z_if_eq (tgt := 45) C dX2_nextBit_27 (by decide) (fun c_20 => ?_) (fun c_20 => ?_)
    · skip
      exact z_lv [0] rfl (join45 pl  (by simp only [f_X2_nextBit, if_neg c_18, hT19, if_pos c_20]))
    · skip
      refine z_aload_n C dX2_nextBit_30 rfl 0 rfl ?_
      refine z_aload_n C dX2_nextBit_31 rfl 0 rfl ?_
      refine z_get (ci := 2) (v := .ref b) (Cn := RX2) (T := TX2) (N := 10) C dX2_nextBit_32 (fun w h => List.mem_cons_of_mem _ (List.mem_append_left _ (List.mem_append_left _ (List.mem_append_left _ (List.mem_append_right _ h))))) 0 rfl rfl 0 (by decide) (List.mem_of_getElem? (i := 1) rfl) rfl rfl ?_
      refine z_aload_n C dX2_nextBit_35 rfl 0 rfl ?_
      refine z_get (ci := 2) (v := .int pl) (Cn := RX2) (T := TX2) (N := 10) C dX2_nextBit_36 (fun w h => List.mem_cons_of_mem _ (List.mem_append_left _ (List.mem_append_left _ (List.mem_append_left _ (List.mem_append_right _ h))))) 0 rfl rfl 5 (by decide) (List.mem_of_getElem? (i := 2) rfl) rfl rfl ?_
      refine z_callVi (n := 1) (isC := [6, 7, 8]) (isR := [0, 1, 2, 3, 4, 5]) (isP := [0, 1, 2, 3, 4, 5, 6, 7, 8]) (As := [.int pl]) (rest := [.ref e]) (wr := [(e, .inr (2, [.ref b, .ref d, .ref c, .int rp, .int hf, .int pl, .int bg, .int lo, .int fp, .int fb])), (d, .inr (1, [.ref dw, .ref dy, .int dm, .int da])), (dw, .inl (g.2.2.1, 100, .inl Wf)), (dy, .inl (g.2.2.1, 100, .inl Yf)), (c, .inr (3, [.ref ca, .int cm])), (ca, .inl (g.2.1, 4096, .inl Cf))]) (ws2 := [(e, .inr (2, [.ref b, .ref d, .ref c, .int rp, .int hf, .int pl, .int bg, .int lo, .int fp, .int fb])), (d, .inr (1, [.ref dw, .ref dy, .int dm, .int da])), (dw, .inl (g.2.2.1, 100, .inl Wf)), (dy, .inl (g.2.2.1, 100, .inl Yf)), (c, .inr (3, [.ref ca, .int cm])), (ca, .inl (g.2.1, 4096, .inl Cf)), (b, .inr (0, [.ref br, .int z])), (br, .inr (3, [.ref ba, .int m])), (ba, .inl (g.2.1, 4096, .inl F))]) C dX2_nextBit_39 (c_X0_endOfBlock (zl X) g b br ba F z m pl hz) gX2_nextBit_X0_endOfBlock rfl ⟨rfl, rfl⟩ (by decide +kernel) (by decide) (by decide) rfl rfl rfl rfl (Nat.le_of_ble_eq_true rfl) rfl rfl ⟨rfl, rfl, rfl⟩ (by decide) rfl ?_
      refine z_put (ci := 2) (v := .int ((pl - (zMod pl z)) + z)) (ty := .int) (Cn := RX2) (T := TX2) (N := 10) (ws' := [(e, .inr (2, [.ref b, .ref d, .ref c, .int rp, .int hf, .int ((pl - (zMod pl z)) + z), .int bg, .int lo, .int fp, .int fb])), (d, .inr (1, [.ref dw, .ref dy, .int dm, .int da])), (dw, .inl (g.2.2.1, 100, .inl Wf)), (dy, .inl (g.2.2.1, 100, .inl Yf)), (c, .inr (3, [.ref ca, .int cm])), (ca, .inl (g.2.1, 4096, .inl Cf)), (b, .inr (0, [.ref br, .int z])), (br, .inr (3, [.ref ba, .int m])), (ba, .inl (g.2.1, 4096, .inl F))]) C dX2_nextBit_42 (fun w h => List.mem_cons_of_mem _ (List.mem_append_left _ (List.mem_append_left _ (List.mem_append_left _ (List.mem_append_right _ h))))) tyX2 tyX2_ok nmX2 0 rfl rfl 5 (by decide) (List.mem_of_getElem? (i := 2) rfl) rfl rfl (by decide +kernel) rfl rfl (Nat.le_of_ble_eq_true rfl) rfl ?_
      exact z_lv [0] rfl (join45 ((pl - (zMod pl z)) + z)  (by simp only [f_X2_nextBit, if_neg c_18, hT19, if_neg c_20]))
