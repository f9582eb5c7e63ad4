theorem xc_X5_clear (v : Int32) : (x_X5_clear v) = none ∨ (x_X5_clear v) = some zIAE := by
  unfold x_X5_clear
  repeat' split
  all_goals first | exact Or.inl rfl | exact Or.inr rfl
set_option maxHeartbeats 4000000 in
set_option maxRecDepth 100000 in
theorem c_L_clear (l : Launch) (hl : l.stackTraces = false) (g : zG) (o h b e ha d c dw dy ca br ba : Nat) (Bf : Nat → Int32) (Wf : Nat → Int32) (Yf : Nat → Int32) (Cf : Nat → Int32) (F : Nat → Int32) (bm : Int32) (rp : Int32) (hf : Int32) (pl : Int32) (bg : Int32) (lo : Int32) (fp : Int32) (fb : Int32) (dm : Int32) (da : Int32) (cm : Int32) (z : Int32) (m : Int32) (v : Int32) (hm : zok 4096 m) : zLI l yL_clear wsL_clear ({ frames := 7, cells := 1, slots := 6, locals := 103 }) g [.ref o, .int v] [(o, .inr (4, [.ref h, .ref b, .ref e])), (h, .inr (3, [.ref ha, .int bm])), (ha, .inl (g.2.1, 400, .inl Bf)), (e, .inr (2, [.ref b, .ref d, .ref c, .int rp, .int hf, .int pl, .int bg, .int lo, .int fp, .int fb])), (d, .inr (1, [.ref dw, .ref dy, .int dm, .int da])), (dw, .inl (g.2.2.1, 100, .inl Wf)), (dy, .inl (g.2.2.1, 100, .inl Yf)), (c, .inr (3, [.ref ca, .int cm])), (ca, .inl (g.2.1, 4096, .inl Cf)), (b, .inr (0, [.ref br, .int z])), (br, .inr (3, [.ref ba, .int m])), (ba, .inl (g.2.1, 4096, .inl F))] (fun r u => ((x_X5_clear v) = none ∧ r = 0 ∧ u = [(o, .inr (4, [.ref h, .ref b, .ref e])), (h, .inr (3, [.ref ha, .int bm])), (ha, .inl (g.2.1, 400, .inl Bf)), (e, .inr (2, [.ref b, .ref d, .ref c, .int rp, .int hf, .int ((f_X5_clear pl bg lo dm da z m v).1), .int ((f_X5_clear pl bg lo dm da z m v).2.1), .int ((f_X5_clear pl bg lo dm da z m v).2.2.1), .int fp, .int fb])), (d, .inr (1, [.ref dw, .ref dy, .int ((f_X5_clear pl bg lo dm da z m v).2.2.2.1), .int ((f_X5_clear pl bg lo dm da z m v).2.2.2.2.1)])), (dw, .inl (g.2.2.1, 100, .inl Wf)), (dy, .inl (g.2.2.1, 100, .inl Yf)), (c, .inr (3, [.ref ca, .int cm])), (ca, .inl (g.2.1, 4096, .inl Cf)), (b, .inr (0, [.ref br, .int ((f_X5_clear pl bg lo dm da z m v).2.2.2.2.2.1)])), (br, .inr (3, [.ref ba, .int ((f_X5_clear pl bg lo dm da z m v).2.2.2.2.2.2)])), (ba, .inl (g.2.1, 4096, .inl F))]) ∨ ((x_X5_clear v) = some zIAE ∧ r = 1 ∧ u = [(o, .inr (4, [.ref h, .ref b, .ref e])), (h, .inr (3, [.ref ha, .int bm])), (ha, .inl (g.2.1, 400, .inl Bf)), (e, .inr (2, [.ref b, .ref d, .ref c, .int rp, .int hf, .int pl, .int bg, .int lo, .int fp, .int fb])), (d, .inr (1, [.ref dw, .ref dy, .int dm, .int da])), (dw, .inl (g.2.2.1, 100, .inl Wf)), (dy, .inl (g.2.2.1, 100, .inl Yf)), (c, .inr (3, [.ref ca, .int cm])), (ca, .inl (g.2.1, 4096, .inl Cf)), (b, .inr (0, [.ref br, .int z])), (br, .inr (3, [.ref ba, .int m])), (ba, .inl (g.2.1, 4096, .inl F))])) := by
  refine zLI_of (cc := cL_clear) (nL := 3) (hh := [(0, 5, 8, 13)]) (by decide) rfl (Nat.le_of_ble_eq_true rfl) ?_
  intro X C L hzl hret
  have hlx : (zl X).stackTraces = false := by rw [hzl]; exact hl
  refine z_lv (lv' := [(0, .ref o), (1, .int v)]) [0, 1] rfl ?_
  refine z_aload_n C dL_clear_0 rfl 0 rfl ?_
  refine z_iload_n C dL_clear_1 rfl 1 rfl ?_
  refine z_callXv (n := 1) (isC := [0, 1, 2, 3, 4, 5, 6, 7, 8, 9, 10, 11]) (isR := []) (isP := [0, 1, 2, 3, 4, 5, 6, 7, 8, 9, 10, 11]) (As := [.int v]) (rest := []) (wr := []) (ws2 := [(o, .inr (4, [.ref h, .ref b, .ref e])), (h, .inr (3, [.ref ha, .int bm])), (ha, .inl (g.2.1, 400, .inl Bf)), (e, .inr (2, [.ref b, .ref d, .ref c, .int rp, .int hf, .int ((f_X5_clear pl bg lo dm da z m v).1), .int ((f_X5_clear pl bg lo dm da z m v).2.1), .int ((f_X5_clear pl bg lo dm da z m v).2.2.1), .int fp, .int fb])), (d, .inr (1, [.ref dw, .ref dy, .int ((f_X5_clear pl bg lo dm da z m v).2.2.2.1), .int ((f_X5_clear pl bg lo dm da z m v).2.2.2.2.1)])), (dw, .inl (g.2.2.1, 100, .inl Wf)), (dy, .inl (g.2.2.1, 100, .inl Yf)), (c, .inr (3, [.ref ca, .int cm])), (ca, .inl (g.2.1, 4096, .inl Cf)), (b, .inr (0, [.ref br, .int ((f_X5_clear pl bg lo dm da z m v).2.2.2.2.2.1)])), (br, .inr (3, [.ref ba, .int ((f_X5_clear pl bg lo dm da z m v).2.2.2.2.2.2)])), (ba, .inl (g.2.1, 4096, .inl F))]) C L dL_clear_2 (c_X5_clear (zl X) hlx g o h b e ha d c dw dy ca br ba Bf Wf Yf Cf F bm rp hf pl bg lo fp fb dm da cm z m v hm) gL_clear_X5_clear rfl ⟨rfl, rfl⟩ (by decide +kernel) (by decide) (by decide) rfl rfl rfl rfl (Nat.le_of_ble_eq_true rfl) rfl rfl ⟨rfl, rfl, rfl⟩ (by decide) rfl rfl (fun hxo => ?_) (fun E hE => ?_)
  · skip
    refine z_goto (tgt := 11) C dL_clear_5 (by decide) ?_
    refine z_iconst (v := 0) C dL_clear_11 (by decide) ?_
    exact hret _ _ _ _ dL_clear_12 (Or.inl ⟨hxo, rfl, rfl⟩)
  · skip
    rcases xc_X5_clear v with hc | hc
    · rw [hE] at hc; cases hc
    · rw [hE] at hc; cases hc
      refine zcat_0 rfl (by decide) (by decide) (List.mem_of_getElem? (i := 1) rfl) (List.mem_of_getElem? (i := 3) rfl) (fun q => ?_)
      refine z_astore_n (lv' := [(2, .ref q), (0, .ref o), (1, .int v)]) C dL_clear_8 rfl (by decide) rfl ?_
      refine z_iconst (v := 1) C dL_clear_9 (by decide) ?_
      exact hret _ _ _ _ dL_clear_10 (Or.inr ⟨hE, rfl, rfl⟩)
theorem xc_X5_feed (bm : Int32) (v : Int32) : (x_X5_feed bm v) = none ∨ (x_X5_feed bm v) = some zIAE ∨ (x_X5_feed bm v) = some zISE := by
  unfold x_X5_feed
  repeat' split
  all_goals first | exact Or.inl rfl | exact Or.inr (Or.inl rfl) | exact Or.inr (Or.inr rfl)
set_option maxHeartbeats 4000000 in
set_option maxRecDepth 100000 in
theorem c_L_feed (l : Launch) (hl : l.stackTraces = false) (g : zG) (o h b e ha d c dw dy ca br ba : Nat) (Bf : Nat → Int32) (Wf : Nat → Int32) (Yf : Nat → Int32) (Cf : Nat → Int32) (F : Nat → Int32) (bm : Int32) (rp : Int32) (hf : Int32) (pl : Int32) (bg : Int32) (lo : Int32) (fp : Int32) (fb : Int32) (dm : Int32) (da : Int32) (cm : Int32) (z : Int32) (m : Int32) (v : Int32) (pa : Int32) (pb : Int32) (pc : Int32) (pd : Int32) (j : Nat) (J : Nat → Int64) (hg : zok 400 bm) : zLI l yL_feed wsL_feed ({ frames := 7, cells := 1, slots := 6, locals := 107 }) g [.ref o, .int v, .int pa, .int pb, .int pc, .int pd, .ref j] [(o, .inr (4, [.ref h, .ref b, .ref e])), (h, .inr (3, [.ref ha, .int bm])), (ha, .inl (g.2.1, 400, .inl Bf)), (e, .inr (2, [.ref b, .ref d, .ref c, .int rp, .int hf, .int pl, .int bg, .int lo, .int fp, .int fb])), (d, .inr (1, [.ref dw, .ref dy, .int dm, .int da])), (dw, .inl (g.2.2.1, 100, .inl Wf)), (dy, .inl (g.2.2.1, 100, .inl Yf)), (c, .inr (3, [.ref ca, .int cm])), (ca, .inl (g.2.1, 4096, .inl Cf)), (b, .inr (0, [.ref br, .int z])), (br, .inr (3, [.ref ba, .int m])), (ba, .inl (g.2.1, 4096, .inl F)), (j, .inl (g.2.2.2, 1, .inr (.inl J)))] (fun r u => ((x_X5_feed bm v) = none ∧ r = 0 ∧ u = [(o, .inr (4, [.ref h, .ref b, .ref e])), (h, .inr (3, [.ref ha, .int ((f_X5_feed Bf bm v pa pb pc pd).2.2)])), (ha, .inl (g.2.1, 400, .inl ((f_X5_feed Bf bm v pa pb pc pd).2.1))), (e, .inr (2, [.ref b, .ref d, .ref c, .int rp, .int hf, .int pl, .int bg, .int lo, .int fp, .int fb])), (d, .inr (1, [.ref dw, .ref dy, .int dm, .int da])), (dw, .inl (g.2.2.1, 100, .inl Wf)), (dy, .inl (g.2.2.1, 100, .inl Yf)), (c, .inr (3, [.ref ca, .int cm])), (ca, .inl (g.2.1, 4096, .inl Cf)), (b, .inr (0, [.ref br, .int z])), (br, .inr (3, [.ref ba, .int m])), (ba, .inl (g.2.1, 4096, .inl F)), (j, .inl (g.2.2.2, 1, .inr (.inl (vp_updL J (0 : Int32).toNatClampNeg (((f_X5_feed Bf bm v pa pb pc pd).1).toInt64)))))]) ∨ ((x_X5_feed bm v) = some zIAE ∧ r = 1 ∧ u = [(o, .inr (4, [.ref h, .ref b, .ref e])), (h, .inr (3, [.ref ha, .int bm])), (ha, .inl (g.2.1, 400, .inl Bf)), (e, .inr (2, [.ref b, .ref d, .ref c, .int rp, .int hf, .int pl, .int bg, .int lo, .int fp, .int fb])), (d, .inr (1, [.ref dw, .ref dy, .int dm, .int da])), (dw, .inl (g.2.2.1, 100, .inl Wf)), (dy, .inl (g.2.2.1, 100, .inl Yf)), (c, .inr (3, [.ref ca, .int cm])), (ca, .inl (g.2.1, 4096, .inl Cf)), (b, .inr (0, [.ref br, .int z])), (br, .inr (3, [.ref ba, .int m])), (ba, .inl (g.2.1, 4096, .inl F)), (j, .inl (g.2.2.2, 1, .inr (.inl J)))]) ∨ ((x_X5_feed bm v) = some zISE ∧ r = 2 ∧ u = [(o, .inr (4, [.ref h, .ref b, .ref e])), (h, .inr (3, [.ref ha, .int bm])), (ha, .inl (g.2.1, 400, .inl Bf)), (e, .inr (2, [.ref b, .ref d, .ref c, .int rp, .int hf, .int pl, .int bg, .int lo, .int fp, .int fb])), (d, .inr (1, [.ref dw, .ref dy, .int dm, .int da])), (dw, .inl (g.2.2.1, 100, .inl Wf)), (dy, .inl (g.2.2.1, 100, .inl Yf)), (c, .inr (3, [.ref ca, .int cm])), (ca, .inl (g.2.1, 4096, .inl Cf)), (b, .inr (0, [.ref br, .int z])), (br, .inr (3, [.ref ba, .int m])), (ba, .inl (g.2.1, 4096, .inl F)), (j, .inl (g.2.2.2, 1, .inr (.inl J)))])) := by
  refine zLI_of (cc := cL_feed) (nL := 8) (hh := [(0, 16, 19, 13), (0, 16, 23, 19)]) (by decide) rfl (Nat.le_of_ble_eq_true rfl) ?_
  intro X C L hzl hret
  have hlx : (zl X).stackTraces = false := by rw [hzl]; exact hl
  refine z_lv (lv' := [(0, .ref o), (1, .int v), (2, .int pa), (3, .int pb), (4, .int pc), (5, .int pd), (6, .ref j)]) [0, 1, 2, 3, 4, 5, 6] rfl ?_
  refine z_aload C dL_feed_0 6 rfl ?_
  refine z_iconst (v := 0) C dL_feed_2 (by decide) ?_
  refine z_aload_n C dL_feed_3 rfl 0 rfl ?_
  refine z_iload_n C dL_feed_4 rfl 1 rfl ?_
  refine z_iload_n C dL_feed_5 rfl 2 rfl ?_
  refine z_iload_n C dL_feed_6 rfl 3 rfl ?_
  refine z_iload C dL_feed_7 4 rfl ?_
  refine z_iload C dL_feed_9 5 rfl ?_
  refine z_callXi (n := 5) (isC := [0, 1, 2, 3, 4, 5, 6, 7, 8, 9, 10, 11]) (isR := [12]) (isP := [1, 2, 3, 4, 5, 6, 7, 8, 9, 10, 11, 12, 0]) (As := [.int v, .int pa, .int pb, .int pc, .int pd]) (rest := [.int 0, .ref j]) (wr := [(j, .inl (g.2.2.2, 1, .inr (.inl J)))]) (ws2 := [(o, .inr (4, [.ref h, .ref b, .ref e])), (h, .inr (3, [.ref ha, .int ((f_X5_feed Bf bm v pa pb pc pd).2.2)])), (ha, .inl (g.2.1, 400, .inl ((f_X5_feed Bf bm v pa pb pc pd).2.1))), (e, .inr (2, [.ref b, .ref d, .ref c, .int rp, .int hf, .int pl, .int bg, .int lo, .int fp, .int fb])), (d, .inr (1, [.ref dw, .ref dy, .int dm, .int da])), (dw, .inl (g.2.2.1, 100, .inl Wf)), (dy, .inl (g.2.2.1, 100, .inl Yf)), (c, .inr (3, [.ref ca, .int cm])), (ca, .inl (g.2.1, 4096, .inl Cf)), (b, .inr (0, [.ref br, .int z])), (br, .inr (3, [.ref ba, .int m])), (ba, .inl (g.2.1, 4096, .inl F)), (j, .inl (g.2.2.2, 1, .inr (.inl J)))]) C L dL_feed_11 (c_X5_feed (zl X) hlx g o h b e ha d c dw dy ca br ba Bf Wf Yf Cf F bm rp hf pl bg lo fp fb dm da cm z m v pa pb pc pd hg) gL_feed_X5_feed rfl ⟨rfl, rfl⟩ (by decide +kernel) (by decide) (by decide) rfl rfl rfl rfl (Nat.le_of_ble_eq_true rfl) rfl rfl ⟨rfl, rfl, rfl⟩ (by decide) rfl rfl (fun hxo => ?_) (fun E hE => ?_)
  · skip
    refine z_i2l C dL_feed_14 ?_
    refine z_last (ws' := [(o, .inr (4, [.ref h, .ref b, .ref e])), (h, .inr (3, [.ref ha, .int ((f_X5_feed Bf bm v pa pb pc pd).2.2)])), (ha, .inl (g.2.1, 400, .inl ((f_X5_feed Bf bm v pa pb pc pd).2.1))), (e, .inr (2, [.ref b, .ref d, .ref c, .int rp, .int hf, .int pl, .int bg, .int lo, .int fp, .int fb])), (d, .inr (1, [.ref dw, .ref dy, .int dm, .int da])), (dw, .inl (g.2.2.1, 100, .inl Wf)), (dy, .inl (g.2.2.1, 100, .inl Yf)), (c, .inr (3, [.ref ca, .int cm])), (ca, .inl (g.2.1, 4096, .inl Cf)), (b, .inr (0, [.ref br, .int z])), (br, .inr (3, [.ref ba, .int m])), (ba, .inl (g.2.1, 4096, .inl F)), (j, .inl (g.2.2.2, 1, .inr (.inl (vp_updL J (0 : Int32).toNatClampNeg (((f_X5_feed Bf bm v pa pb pc pd).1).toInt64)))))]) C dL_feed_15 12 rfl zin01 rfl ?_
    refine z_goto (tgt := 27) C dL_feed_16 (by decide) ?_
    refine z_iconst (v := 0) C dL_feed_27 (by decide) ?_
    exact hret _ _ _ _ dL_feed_28 (Or.inl ⟨hxo, rfl, rfl⟩)
  · skip
    rcases xc_X5_feed bm v with hc | hc | hc
    · rw [hE] at hc; cases hc
    · rw [hE] at hc; cases hc
      refine zcat_0 rfl (by decide) (by decide) (List.mem_of_getElem? (i := 1) rfl) (List.mem_of_getElem? (i := 3) rfl) (fun q => ?_)
      refine z_astore (lv' := [(7, .ref q), (0, .ref o), (1, .int v), (2, .int pa), (3, .int pb), (4, .int pc), (5, .int pd), (6, .ref j)]) C dL_feed_19 (by decide) rfl ?_
      refine z_iconst (v := 1) C dL_feed_21 (by decide) ?_
      exact hret _ _ _ _ dL_feed_22 (Or.inr (Or.inl ⟨hE, rfl, rfl⟩))
    · rw [hE] at hc; cases hc
      refine zcat_1 (F := zIAE) L (fun _ h => h.1) rfl (by decide) (List.mem_of_getElem? (i := 1) rfl) (by decide) (by decide) (List.mem_of_getElem? (i := 2) rfl) (List.mem_of_getElem? (i := 4) rfl) (fun q => ?_)
      refine z_astore (lv' := [(7, .ref q), (0, .ref o), (1, .int v), (2, .int pa), (3, .int pb), (4, .int pc), (5, .int pd), (6, .ref j)]) C dL_feed_23 (by decide) rfl ?_
      refine z_iconst (v := 2) C dL_feed_25 (by decide) ?_
      exact hret _ _ _ _ dL_feed_26 (Or.inr (Or.inr ⟨hE, rfl, rfl⟩))
theorem xc_X5_check (v : Int32) : (x_X5_check v) = none ∨ (x_X5_check v) = some zIAE := by
  unfold x_X5_check
  repeat' split
  all_goals first | exact Or.inl rfl | exact Or.inr rfl
set_option maxHeartbeats 4000000 in
set_option maxRecDepth 100000 in
theorem c_L_check (l : Launch) (hl : l.stackTraces = false) (g : zG) (o h b e ha d c dw dy ca br ba : Nat) (Bf : Nat → Int32) (Wf : Nat → Int32) (Yf : Nat → Int32) (Cf : Nat → Int32) (F : Nat → Int32) (bm : Int32) (rp : Int32) (hf : Int32) (pl : Int32) (bg : Int32) (lo : Int32) (fp : Int32) (fb : Int32) (dm : Int32) (da : Int32) (cm : Int32) (z : Int32) (m : Int32) (v : Int32) (j : Nat) (J : Nat → Int64) (hg : zok 400 bm) : zLI l yL_check wsL_check ({ frames := 7, cells := 1, slots := 6, locals := 103 }) g [.ref o, .int v, .ref j] [(o, .inr (4, [.ref h, .ref b, .ref e])), (h, .inr (3, [.ref ha, .int bm])), (ha, .inl (g.2.1, 400, .inl Bf)), (e, .inr (2, [.ref b, .ref d, .ref c, .int rp, .int hf, .int pl, .int bg, .int lo, .int fp, .int fb])), (d, .inr (1, [.ref dw, .ref dy, .int dm, .int da])), (dw, .inl (g.2.2.1, 100, .inl Wf)), (dy, .inl (g.2.2.1, 100, .inl Yf)), (c, .inr (3, [.ref ca, .int cm])), (ca, .inl (g.2.1, 4096, .inl Cf)), (b, .inr (0, [.ref br, .int z])), (br, .inr (3, [.ref ba, .int m])), (ba, .inl (g.2.1, 4096, .inl F)), (j, .inl (g.2.2.2, 1, .inr (.inl J)))] (fun r u => ((x_X5_check v) = none ∧ r = 0 ∧ u = [(o, .inr (4, [.ref h, .ref b, .ref e])), (h, .inr (3, [.ref ha, .int bm])), (ha, .inl (g.2.1, 400, .inl Bf)), (e, .inr (2, [.ref b, .ref d, .ref c, .int rp, .int hf, .int pl, .int bg, .int lo, .int fp, .int fb])), (d, .inr (1, [.ref dw, .ref dy, .int dm, .int da])), (dw, .inl (g.2.2.1, 100, .inl Wf)), (dy, .inl (g.2.2.1, 100, .inl Yf)), (c, .inr (3, [.ref ca, .int cm])), (ca, .inl (g.2.1, 4096, .inl Cf)), (b, .inr (0, [.ref br, .int z])), (br, .inr (3, [.ref ba, .int m])), (ba, .inl (g.2.1, 4096, .inl F)), (j, .inl (g.2.2.2, 1, .inr (.inl (vp_updL J (0 : Int32).toNatClampNeg ((f_X5_check Bf bm v).toInt64)))))]) ∨ ((x_X5_check v) = some zIAE ∧ r = 1 ∧ u = [(o, .inr (4, [.ref h, .ref b, .ref e])), (h, .inr (3, [.ref ha, .int bm])), (ha, .inl (g.2.1, 400, .inl Bf)), (e, .inr (2, [.ref b, .ref d, .ref c, .int rp, .int hf, .int pl, .int bg, .int lo, .int fp, .int fb])), (d, .inr (1, [.ref dw, .ref dy, .int dm, .int da])), (dw, .inl (g.2.2.1, 100, .inl Wf)), (dy, .inl (g.2.2.1, 100, .inl Yf)), (c, .inr (3, [.ref ca, .int cm])), (ca, .inl (g.2.1, 4096, .inl Cf)), (b, .inr (0, [.ref br, .int z])), (br, .inr (3, [.ref ba, .int m])), (ba, .inl (g.2.1, 4096, .inl F)), (j, .inl (g.2.2.2, 1, .inr (.inl J)))])) := by
  refine zLI_of (cc := cL_check) (nL := 4) (hh := [(0, 9, 12, 13)]) (by decide) rfl (Nat.le_of_ble_eq_true rfl) ?_
  intro X C L hzl hret
  have hlx : (zl X).stackTraces = false := by rw [hzl]; exact hl
  refine z_lv (lv' := [(0, .ref o), (1, .int v), (2, .ref j)]) [0, 1, 2] rfl ?_
  refine z_aload_n C dL_check_0 rfl 2 rfl ?_
  refine z_iconst (v := 0) C dL_check_1 (by decide) ?_
  refine z_aload_n C dL_check_2 rfl 0 rfl ?_
  refine z_iload_n C dL_check_3 rfl 1 rfl ?_
  refine z_callXi (n := 1) (isC := [0, 1, 2, 3, 4, 5, 6, 7, 8, 9, 10, 11]) (isR := [12]) (isP := [1, 2, 3, 4, 5, 6, 7, 8, 9, 10, 11, 12, 0]) (As := [.int v]) (rest := [.int 0, .ref j]) (wr := [(j, .inl (g.2.2.2, 1, .inr (.inl J)))]) (ws2 := [(o, .inr (4, [.ref h, .ref b, .ref e])), (h, .inr (3, [.ref ha, .int bm])), (ha, .inl (g.2.1, 400, .inl Bf)), (e, .inr (2, [.ref b, .ref d, .ref c, .int rp, .int hf, .int pl, .int bg, .int lo, .int fp, .int fb])), (d, .inr (1, [.ref dw, .ref dy, .int dm, .int da])), (dw, .inl (g.2.2.1, 100, .inl Wf)), (dy, .inl (g.2.2.1, 100, .inl Yf)), (c, .inr (3, [.ref ca, .int cm])), (ca, .inl (g.2.1, 4096, .inl Cf)), (b, .inr (0, [.ref br, .int z])), (br, .inr (3, [.ref ba, .int m])), (ba, .inl (g.2.1, 4096, .inl F)), (j, .inl (g.2.2.2, 1, .inr (.inl J)))]) C L dL_check_4 (c_X5_check (zl X) hlx g o h b e ha d c dw dy ca br ba Bf Wf Yf Cf F bm rp hf pl bg lo fp fb dm da cm z m v hg) gL_check_X5_check rfl ⟨rfl, rfl⟩ (by decide +kernel) (by decide) (by decide) rfl rfl rfl rfl (Nat.le_of_ble_eq_true rfl) rfl rfl ⟨rfl, rfl, rfl⟩ (by decide) rfl rfl (fun hxo => ?_) (fun E hE => ?_)
  · skip
    refine z_i2l C dL_check_7 ?_
    refine z_last (ws' := [(o, .inr (4, [.ref h, .ref b, .ref e])), (h, .inr (3, [.ref ha, .int bm])), (ha, .inl (g.2.1, 400, .inl Bf)), (e, .inr (2, [.ref b, .ref d, .ref c, .int rp, .int hf, .int pl, .int bg, .int lo, .int fp, .int fb])), (d, .inr (1, [.ref dw, .ref dy, .int dm, .int da])), (dw, .inl (g.2.2.1, 100, .inl Wf)), (dy, .inl (g.2.2.1, 100, .inl Yf)), (c, .inr (3, [.ref ca, .int cm])), (ca, .inl (g.2.1, 4096, .inl Cf)), (b, .inr (0, [.ref br, .int z])), (br, .inr (3, [.ref ba, .int m])), (ba, .inl (g.2.1, 4096, .inl F)), (j, .inl (g.2.2.2, 1, .inr (.inl (vp_updL J (0 : Int32).toNatClampNeg ((f_X5_check Bf bm v).toInt64)))))]) C dL_check_8 12 rfl zin01 rfl ?_
    refine z_goto (tgt := 15) C dL_check_9 (by decide) ?_
    refine z_iconst (v := 0) C dL_check_15 (by decide) ?_
    exact hret _ _ _ _ dL_check_16 (Or.inl ⟨hxo, rfl, rfl⟩)
  · skip
    rcases xc_X5_check v with hc | hc
    · rw [hE] at hc; cases hc
    · rw [hE] at hc; cases hc
      refine zcat_0 rfl (by decide) (by decide) (List.mem_of_getElem? (i := 1) rfl) (List.mem_of_getElem? (i := 3) rfl) (fun q => ?_)
      refine z_astore_n (lv' := [(3, .ref q), (0, .ref o), (1, .int v), (2, .ref j)]) C dL_check_12 rfl (by decide) rfl ?_
      refine z_iconst (v := 1) C dL_check_13 (by decide) ?_
      exact hret _ _ _ _ dL_check_14 (Or.inr ⟨hE, rfl, rfl⟩)
theorem xc_X5_raw (v : Int32) : (x_X5_raw v) = none ∨ (x_X5_raw v) = some zIAE := by
  unfold x_X5_raw
  repeat' split
  all_goals first | exact Or.inl rfl | exact Or.inr rfl
set_option maxHeartbeats 4000000 in
set_option maxRecDepth 100000 in
theorem c_L_raw (l : Launch) (hl : l.stackTraces = false) (g : zG) (o h b e ha d c dw dy ca br ba : Nat) (Bf : Nat → Int32) (Wf : Nat → Int32) (Yf : Nat → Int32) (Cf : Nat → Int32) (F : Nat → Int32) (bm : Int32) (rp : Int32) (hf : Int32) (pl : Int32) (bg : Int32) (lo : Int32) (fp : Int32) (fb : Int32) (dm : Int32) (da : Int32) (cm : Int32) (z : Int32) (m : Int32) (v : Int32) (j : Nat) (J : Nat → Int64) (hm : zok 4096 m) (hg : zok 400 bm) : zLI l yL_raw wsL_raw ({ frames := 7, cells := 1, slots := 6, locals := 103 }) g [.ref o, .int v, .ref j] [(o, .inr (4, [.ref h, .ref b, .ref e])), (h, .inr (3, [.ref ha, .int bm])), (ha, .inl (g.2.1, 400, .inl Bf)), (e, .inr (2, [.ref b, .ref d, .ref c, .int rp, .int hf, .int pl, .int bg, .int lo, .int fp, .int fb])), (d, .inr (1, [.ref dw, .ref dy, .int dm, .int da])), (dw, .inl (g.2.2.1, 100, .inl Wf)), (dy, .inl (g.2.2.1, 100, .inl Yf)), (c, .inr (3, [.ref ca, .int cm])), (ca, .inl (g.2.1, 4096, .inl Cf)), (b, .inr (0, [.ref br, .int z])), (br, .inr (3, [.ref ba, .int m])), (ba, .inl (g.2.1, 4096, .inl F)), (j, .inl (g.2.2.2, 1, .inr (.inl J)))] (fun r u => ((x_X5_raw v) = none ∧ r = 0 ∧ u = [(o, .inr (4, [.ref h, .ref b, .ref e])), (h, .inr (3, [.ref ha, .int bm])), (ha, .inl (g.2.1, 400, .inl Bf)), (e, .inr (2, [.ref b, .ref d, .ref c, .int rp, .int hf, .int pl, .int bg, .int lo, .int fp, .int fb])), (d, .inr (1, [.ref dw, .ref dy, .int dm, .int da])), (dw, .inl (g.2.2.1, 100, .inl Wf)), (dy, .inl (g.2.2.1, 100, .inl Yf)), (c, .inr (3, [.ref ca, .int cm])), (ca, .inl (g.2.1, 4096, .inl Cf)), (b, .inr (0, [.ref br, .int z])), (br, .inr (3, [.ref ba, .int ((f_X5_raw Bf F bm m v).2.2)])), (ba, .inl (g.2.1, 4096, .inl ((f_X5_raw Bf F bm m v).2.1))), (j, .inl (g.2.2.2, 1, .inr (.inl (vp_updL J (0 : Int32).toNatClampNeg (((f_X5_raw Bf F bm m v).1).toInt64)))))]) ∨ ((x_X5_raw v) = some zIAE ∧ r = 1 ∧ u = [(o, .inr (4, [.ref h, .ref b, .ref e])), (h, .inr (3, [.ref ha, .int bm])), (ha, .inl (g.2.1, 400, .inl Bf)), (e, .inr (2, [.ref b, .ref d, .ref c, .int rp, .int hf, .int pl, .int bg, .int lo, .int fp, .int fb])), (d, .inr (1, [.ref dw, .ref dy, .int dm, .int da])), (dw, .inl (g.2.2.1, 100, .inl Wf)), (dy, .inl (g.2.2.1, 100, .inl Yf)), (c, .inr (3, [.ref ca, .int cm])), (ca, .inl (g.2.1, 4096, .inl Cf)), (b, .inr (0, [.ref br, .int z])), (br, .inr (3, [.ref ba, .int m])), (ba, .inl (g.2.1, 4096, .inl F)), (j, .inl (g.2.2.2, 1, .inr (.inl J)))])) := by
  refine zLI_of (cc := cL_raw) (nL := 4) (hh := [(0, 9, 12, 13)]) (by decide) rfl (Nat.le_of_ble_eq_true rfl) ?_
  intro X C L hzl hret
  have hlx : (zl X).stackTraces = false := by rw [hzl]; exact hl
  refine z_lv (lv' := [(0, .ref o), (1, .int v), (2, .ref j)]) [0, 1, 2] rfl ?_
  refine z_aload_n C dL_raw_0 rfl 2 rfl ?_
  refine z_iconst (v := 0) C dL_raw_1 (by decide) ?_
  refine z_aload_n C dL_raw_2 rfl 0 rfl ?_
  refine z_iload_n C dL_raw_3 rfl 1 rfl ?_
  refine z_callXi (n := 1) (isC := [0, 1, 2, 3, 4, 5, 6, 7, 8, 9, 10, 11]) (isR := [12]) (isP := [1, 2, 3, 4, 5, 6, 7, 8, 9, 10, 11, 12, 0]) (As := [.int v]) (rest := [.int 0, .ref j]) (wr := [(j, .inl (g.2.2.2, 1, .inr (.inl J)))]) (ws2 := [(o, .inr (4, [.ref h, .ref b, .ref e])), (h, .inr (3, [.ref ha, .int bm])), (ha, .inl (g.2.1, 400, .inl Bf)), (e, .inr (2, [.ref b, .ref d, .ref c, .int rp, .int hf, .int pl, .int bg, .int lo, .int fp, .int fb])), (d, .inr (1, [.ref dw, .ref dy, .int dm, .int da])), (dw, .inl (g.2.2.1, 100, .inl Wf)), (dy, .inl (g.2.2.1, 100, .inl Yf)), (c, .inr (3, [.ref ca, .int cm])), (ca, .inl (g.2.1, 4096, .inl Cf)), (b, .inr (0, [.ref br, .int z])), (br, .inr (3, [.ref ba, .int ((f_X5_raw Bf F bm m v).2.2)])), (ba, .inl (g.2.1, 4096, .inl ((f_X5_raw Bf F bm m v).2.1))), (j, .inl (g.2.2.2, 1, .inr (.inl J)))]) C L dL_raw_4 (c_X5_raw (zl X) hlx g o h b e ha d c dw dy ca br ba Bf Wf Yf Cf F bm rp hf pl bg lo fp fb dm da cm z m v hm hg) gL_raw_X5_raw rfl ⟨rfl, rfl⟩ (by decide +kernel) (by decide) (by decide) rfl rfl rfl rfl (Nat.le_of_ble_eq_true rfl) rfl rfl ⟨rfl, rfl, rfl⟩ (by decide) rfl rfl (fun hxo => ?_) (fun E hE => ?_)
  · skip
    refine z_i2l C dL_raw_7 ?_
    refine z_last (ws' := [(o, .inr (4, [.ref h, .ref b, .ref e])), (h, .inr (3, [.ref ha, .int bm])), (ha, .inl (g.2.1, 400, .inl Bf)), (e, .inr (2, [.ref b, .ref d, .ref c, .int rp, .int hf, .int pl, .int bg, .int lo, .int fp, .int fb])), (d, .inr (1, [.ref dw, .ref dy, .int dm, .int da])), (dw, .inl (g.2.2.1, 100, .inl Wf)), (dy, .inl (g.2.2.1, 100, .inl Yf)), (c, .inr (3, [.ref ca, .int cm])), (ca, .inl (g.2.1, 4096, .inl Cf)), (b, .inr (0, [.ref br, .int z])), (br, .inr (3, [.ref ba, .int ((f_X5_raw Bf F bm m v).2.2)])), (ba, .inl (g.2.1, 4096, .inl ((f_X5_raw Bf F bm m v).2.1))), (j, .inl (g.2.2.2, 1, .inr (.inl (vp_updL J (0 : Int32).toNatClampNeg (((f_X5_raw Bf F bm m v).1).toInt64)))))]) C dL_raw_8 12 rfl zin01 rfl ?_
    refine z_goto (tgt := 15) C dL_raw_9 (by decide) ?_
    refine z_iconst (v := 0) C dL_raw_15 (by decide) ?_
    exact hret _ _ _ _ dL_raw_16 (Or.inl ⟨hxo, rfl, rfl⟩)
  · skip
    rcases xc_X5_raw v with hc | hc
    · rw [hE] at hc; cases hc
    · rw [hE] at hc; cases hc
      refine zcat_0 rfl (by decide) (by decide) (List.mem_of_getElem? (i := 1) rfl) (List.mem_of_getElem? (i := 3) rfl) (fun q => ?_)
      refine z_astore_n (lv' := [(3, .ref q), (0, .ref o), (1, .int v), (2, .ref j)]) C dL_raw_12 rfl (by decide) rfl ?_
      refine z_iconst (v := 1) C dL_raw_13 (by decide) ?_
      exact hret _ _ _ _ dL_raw_14 (Or.inr ⟨hE, rfl, rfl⟩)
theorem xc_X5_put (m : Int32) (v : Int32) (x : Int32) : (x_X5_put m v x) = none ∨ (x_X5_put m v x) = some zIOE ∨ (x_X5_put m v x) = some zIAE := by
  unfold x_X5_put
  repeat' split
  all_goals first | exact Or.inl rfl | exact Or.inr (Or.inl rfl) | exact Or.inr (Or.inr rfl)
set_option maxHeartbeats 4000000 in
set_option maxRecDepth 100000 in
theorem c_L_put (l : Launch) (hl : l.stackTraces = false) (g : zG) (o h b e ha d c dw dy ca br ba : Nat) (Bf : Nat → Int32) (Wf : Nat → Int32) (Yf : Nat → Int32) (Cf : Nat → Int32) (F : Nat → Int32) (bm : Int32) (rp : Int32) (hf : Int32) (pl : Int32) (bg : Int32) (lo : Int32) (fp : Int32) (fb : Int32) (dm : Int32) (da : Int32) (cm : Int32) (z : Int32) (m : Int32) (v : Int32) (x : Int32) (j : Nat) (J : Nat → Int64) (hm : zok 4096 m) : zLI l yL_put wsL_put ({ frames := 7, cells := 1, slots := 6, locals := 105 }) g [.ref o, .int v, .int x, .ref j] [(o, .inr (4, [.ref h, .ref b, .ref e])), (h, .inr (3, [.ref ha, .int bm])), (ha, .inl (g.2.1, 400, .inl Bf)), (e, .inr (2, [.ref b, .ref d, .ref c, .int rp, .int hf, .int pl, .int bg, .int lo, .int fp, .int fb])), (d, .inr (1, [.ref dw, .ref dy, .int dm, .int da])), (dw, .inl (g.2.2.1, 100, .inl Wf)), (dy, .inl (g.2.2.1, 100, .inl Yf)), (c, .inr (3, [.ref ca, .int cm])), (ca, .inl (g.2.1, 4096, .inl Cf)), (b, .inr (0, [.ref br, .int z])), (br, .inr (3, [.ref ba, .int m])), (ba, .inl (g.2.1, 4096, .inl F)), (j, .inl (g.2.2.2, 1, .inr (.inl J)))] (fun r u => ((x_X5_put m v x) = none ∧ r = 0 ∧ u = [(o, .inr (4, [.ref h, .ref b, .ref e])), (h, .inr (3, [.ref ha, .int bm])), (ha, .inl (g.2.1, 400, .inl Bf)), (e, .inr (2, [.ref b, .ref d, .ref c, .int rp, .int hf, .int pl, .int bg, .int lo, .int fp, .int fb])), (d, .inr (1, [.ref dw, .ref dy, .int dm, .int da])), (dw, .inl (g.2.2.1, 100, .inl Wf)), (dy, .inl (g.2.2.1, 100, .inl Yf)), (c, .inr (3, [.ref ca, .int cm])), (ca, .inl (g.2.1, 4096, .inl Cf)), (b, .inr (0, [.ref br, .int z])), (br, .inr (3, [.ref ba, .int m])), (ba, .inl (g.2.1, 4096, .inl ((f_X5_put F m v x).2))), (j, .inl (g.2.2.2, 1, .inr (.inl (vp_updL J (0 : Int32).toNatClampNeg (((f_X5_put F m v x).1).toInt64)))))]) ∨ ((x_X5_put m v x) = some zIOE ∧ r = 1 ∧ u = [(o, .inr (4, [.ref h, .ref b, .ref e])), (h, .inr (3, [.ref ha, .int bm])), (ha, .inl (g.2.1, 400, .inl Bf)), (e, .inr (2, [.ref b, .ref d, .ref c, .int rp, .int hf, .int pl, .int bg, .int lo, .int fp, .int fb])), (d, .inr (1, [.ref dw, .ref dy, .int dm, .int da])), (dw, .inl (g.2.2.1, 100, .inl Wf)), (dy, .inl (g.2.2.1, 100, .inl Yf)), (c, .inr (3, [.ref ca, .int cm])), (ca, .inl (g.2.1, 4096, .inl Cf)), (b, .inr (0, [.ref br, .int z])), (br, .inr (3, [.ref ba, .int m])), (ba, .inl (g.2.1, 4096, .inl F)), (j, .inl (g.2.2.2, 1, .inr (.inl J)))]) ∨ ((x_X5_put m v x) = some zIAE ∧ r = 2 ∧ u = [(o, .inr (4, [.ref h, .ref b, .ref e])), (h, .inr (3, [.ref ha, .int bm])), (ha, .inl (g.2.1, 400, .inl Bf)), (e, .inr (2, [.ref b, .ref d, .ref c, .int rp, .int hf, .int pl, .int bg, .int lo, .int fp, .int fb])), (d, .inr (1, [.ref dw, .ref dy, .int dm, .int da])), (dw, .inl (g.2.2.1, 100, .inl Wf)), (dy, .inl (g.2.2.1, 100, .inl Yf)), (c, .inr (3, [.ref ca, .int cm])), (ca, .inl (g.2.1, 4096, .inl Cf)), (b, .inr (0, [.ref br, .int z])), (br, .inr (3, [.ref ba, .int m])), (ba, .inl (g.2.1, 4096, .inl F)), (j, .inl (g.2.2.2, 1, .inr (.inl J)))])) := by
  refine zLI_of (cc := cL_put) (nL := 5) (hh := [(0, 10, 13, 32), (0, 10, 17, 13)]) (by decide) rfl (Nat.le_of_ble_eq_true rfl) ?_
  intro X C L hzl hret
  have hlx : (zl X).stackTraces = false := by rw [hzl]; exact hl
  refine z_lv (lv' := [(0, .ref o), (1, .int v), (2, .int x), (3, .ref j)]) [0, 1, 2, 3] rfl ?_
  refine z_aload_n C dL_put_0 rfl 3 rfl ?_
  refine z_iconst (v := 0) C dL_put_1 (by decide) ?_
  refine z_aload_n C dL_put_2 rfl 0 rfl ?_
  refine z_iload_n C dL_put_3 rfl 1 rfl ?_
  refine z_iload_n C dL_put_4 rfl 2 rfl ?_
  refine z_callXi (n := 2) (isC := [0, 1, 2, 3, 4, 5, 6, 7, 8, 9, 10, 11]) (isR := [12]) (isP := [1, 2, 3, 4, 5, 6, 7, 8, 9, 10, 11, 12, 0]) (As := [.int v, .int x]) (rest := [.int 0, .ref j]) (wr := [(j, .inl (g.2.2.2, 1, .inr (.inl J)))]) (ws2 := [(o, .inr (4, [.ref h, .ref b, .ref e])), (h, .inr (3, [.ref ha, .int bm])), (ha, .inl (g.2.1, 400, .inl Bf)), (e, .inr (2, [.ref b, .ref d, .ref c, .int rp, .int hf, .int pl, .int bg, .int lo, .int fp, .int fb])), (d, .inr (1, [.ref dw, .ref dy, .int dm, .int da])), (dw, .inl (g.2.2.1, 100, .inl Wf)), (dy, .inl (g.2.2.1, 100, .inl Yf)), (c, .inr (3, [.ref ca, .int cm])), (ca, .inl (g.2.1, 4096, .inl Cf)), (b, .inr (0, [.ref br, .int z])), (br, .inr (3, [.ref ba, .int m])), (ba, .inl (g.2.1, 4096, .inl ((f_X5_put F m v x).2))), (j, .inl (g.2.2.2, 1, .inr (.inl J)))]) C L dL_put_5 (c_X5_put (zl X) hlx g o h b e ha d c dw dy ca br ba Bf Wf Yf Cf F bm rp hf pl bg lo fp fb dm da cm z m v x hm) gL_put_X5_put rfl ⟨rfl, rfl⟩ (by decide +kernel) (by decide) (by decide) rfl rfl rfl rfl (Nat.le_of_ble_eq_true rfl) rfl rfl ⟨rfl, rfl, rfl⟩ (by decide) rfl rfl (fun hxo => ?_) (fun E hE => ?_)
  · skip
    refine z_i2l C dL_put_8 ?_
    refine z_last (ws' := [(o, .inr (4, [.ref h, .ref b, .ref e])), (h, .inr (3, [.ref ha, .int bm])), (ha, .inl (g.2.1, 400, .inl Bf)), (e, .inr (2, [.ref b, .ref d, .ref c, .int rp, .int hf, .int pl, .int bg, .int lo, .int fp, .int fb])), (d, .inr (1, [.ref dw, .ref dy, .int dm, .int da])), (dw, .inl (g.2.2.1, 100, .inl Wf)), (dy, .inl (g.2.2.1, 100, .inl Yf)), (c, .inr (3, [.ref ca, .int cm])), (ca, .inl (g.2.1, 4096, .inl Cf)), (b, .inr (0, [.ref br, .int z])), (br, .inr (3, [.ref ba, .int m])), (ba, .inl (g.2.1, 4096, .inl ((f_X5_put F m v x).2))), (j, .inl (g.2.2.2, 1, .inr (.inl (vp_updL J (0 : Int32).toNatClampNeg (((f_X5_put F m v x).1).toInt64)))))]) C dL_put_9 12 rfl zin01 rfl ?_
    refine z_goto (tgt := 21) C dL_put_10 (by decide) ?_
    refine z_iconst (v := 0) C dL_put_21 (by decide) ?_
    exact hret _ _ _ _ dL_put_22 (Or.inl ⟨hxo, rfl, rfl⟩)
  · skip
    rcases xc_X5_put m v x with hc | hc | hc
    · rw [hE] at hc; cases hc
    · rw [hE] at hc; cases hc
      refine zcat_0 rfl (by decide) (by decide) (List.mem_of_getElem? (i := 1) rfl) (List.mem_of_getElem? (i := 5) rfl) (fun q => ?_)
      refine z_astore (lv' := [(4, .ref q), (0, .ref o), (1, .int v), (2, .int x), (3, .ref j)]) C dL_put_13 (by decide) rfl ?_
      refine z_iconst (v := 1) C dL_put_15 (by decide) ?_
      exact hret _ _ _ _ dL_put_16 (Or.inr (Or.inl ⟨hE, rfl, rfl⟩))
    · rw [hE] at hc; cases hc
      refine zcat_1 (F := zIOE) L (fun _ h => h.2) rfl (by decide) (List.mem_of_getElem? (i := 1) rfl) (by decide) (by decide) (List.mem_of_getElem? (i := 2) rfl) (List.mem_of_getElem? (i := 3) rfl) (fun q => ?_)
      refine z_astore (lv' := [(4, .ref q), (0, .ref o), (1, .int v), (2, .int x), (3, .ref j)]) C dL_put_17 (by decide) rfl ?_
      refine z_iconst (v := 2) C dL_put_19 (by decide) ?_
      exact hret _ _ _ _ dL_put_20 (Or.inr (Or.inr ⟨hE, rfl, rfl⟩))
theorem xc_X5_cut (m : Int32) (v : Int32) : (x_X5_cut m v) = none ∨ (x_X5_cut m v) = some zIAE := by
  unfold x_X5_cut
  repeat' split
  all_goals first | exact Or.inl rfl | exact Or.inr rfl
set_option maxHeartbeats 4000000 in
set_option maxRecDepth 100000 in
theorem c_L_cut (l : Launch) (hl : l.stackTraces = false) (g : zG) (o h b e ha d c dw dy ca br ba : Nat) (Bf : Nat → Int32) (Wf : Nat → Int32) (Yf : Nat → Int32) (Cf : Nat → Int32) (F : Nat → Int32) (bm : Int32) (rp : Int32) (hf : Int32) (pl : Int32) (bg : Int32) (lo : Int32) (fp : Int32) (fb : Int32) (dm : Int32) (da : Int32) (cm : Int32) (z : Int32) (m : Int32) (v : Int32) (j : Nat) (J : Nat → Int64) (hz : zsz z) (hm : zok 4096 m) : zLI l yL_cut wsL_cut ({ frames := 7, cells := 1, slots := 6, locals := 104 }) g [.ref o, .int v, .ref j] [(o, .inr (4, [.ref h, .ref b, .ref e])), (h, .inr (3, [.ref ha, .int bm])), (ha, .inl (g.2.1, 400, .inl Bf)), (e, .inr (2, [.ref b, .ref d, .ref c, .int rp, .int hf, .int pl, .int bg, .int lo, .int fp, .int fb])), (d, .inr (1, [.ref dw, .ref dy, .int dm, .int da])), (dw, .inl (g.2.2.1, 100, .inl Wf)), (dy, .inl (g.2.2.1, 100, .inl Yf)), (c, .inr (3, [.ref ca, .int cm])), (ca, .inl (g.2.1, 4096, .inl Cf)), (b, .inr (0, [.ref br, .int z])), (br, .inr (3, [.ref ba, .int m])), (ba, .inl (g.2.1, 4096, .inl F)), (j, .inl (g.2.2.2, 1, .inr (.inl J)))] (fun r u => ((x_X5_cut m v) = none ∧ r = 0 ∧ u = [(o, .inr (4, [.ref h, .ref b, .ref e])), (h, .inr (3, [.ref ha, .int bm])), (ha, .inl (g.2.1, 400, .inl Bf)), (e, .inr (2, [.ref b, .ref d, .ref c, .int rp, .int hf, .int ((f_X5_cut pl bg lo dm da z m v).2.1), .int ((f_X5_cut pl bg lo dm da z m v).2.2.1), .int ((f_X5_cut pl bg lo dm da z m v).2.2.2.1), .int fp, .int fb])), (d, .inr (1, [.ref dw, .ref dy, .int ((f_X5_cut pl bg lo dm da z m v).2.2.2.2.1), .int ((f_X5_cut pl bg lo dm da z m v).2.2.2.2.2.1)])), (dw, .inl (g.2.2.1, 100, .inl Wf)), (dy, .inl (g.2.2.1, 100, .inl Yf)), (c, .inr (3, [.ref ca, .int cm])), (ca, .inl (g.2.1, 4096, .inl Cf)), (b, .inr (0, [.ref br, .int z])), (br, .inr (3, [.ref ba, .int ((f_X5_cut pl bg lo dm da z m v).2.2.2.2.2.2)])), (ba, .inl (g.2.1, 4096, .inl F)), (j, .inl (g.2.2.2, 1, .inr (.inl (vp_updL J (0 : Int32).toNatClampNeg (((f_X5_cut pl bg lo dm da z m v).1).toInt64)))))]) ∨ ((x_X5_cut m v) = some zIAE ∧ r = 1 ∧ u = [(o, .inr (4, [.ref h, .ref b, .ref e])), (h, .inr (3, [.ref ha, .int bm])), (ha, .inl (g.2.1, 400, .inl Bf)), (e, .inr (2, [.ref b, .ref d, .ref c, .int rp, .int hf, .int pl, .int bg, .int lo, .int fp, .int fb])), (d, .inr (1, [.ref dw, .ref dy, .int dm, .int da])), (dw, .inl (g.2.2.1, 100, .inl Wf)), (dy, .inl (g.2.2.1, 100, .inl Yf)), (c, .inr (3, [.ref ca, .int cm])), (ca, .inl (g.2.1, 4096, .inl Cf)), (b, .inr (0, [.ref br, .int z])), (br, .inr (3, [.ref ba, .int m])), (ba, .inl (g.2.1, 4096, .inl F)), (j, .inl (g.2.2.2, 1, .inr (.inl J)))])) := by
  refine zLI_of (cc := cL_cut) (nL := 4) (hh := [(0, 9, 12, 13)]) (by decide) rfl (Nat.le_of_ble_eq_true rfl) ?_
  intro X C L hzl hret
  have hlx : (zl X).stackTraces = false := by rw [hzl]; exact hl
  refine z_lv (lv' := [(0, .ref o), (1, .int v), (2, .ref j)]) [0, 1, 2] rfl ?_
  refine z_aload_n C dL_cut_0 rfl 2 rfl ?_
  refine z_iconst (v := 0) C dL_cut_1 (by decide) ?_
  refine z_aload_n C dL_cut_2 rfl 0 rfl ?_
  refine z_iload_n C dL_cut_3 rfl 1 rfl ?_
  refine z_callXi (n := 1) (isC := [0, 1, 2, 3, 4, 5, 6, 7, 8, 9, 10, 11]) (isR := [12]) (isP := [1, 2, 3, 4, 5, 6, 7, 8, 9, 10, 11, 12, 0]) (As := [.int v]) (rest := [.int 0, .ref j]) (wr := [(j, .inl (g.2.2.2, 1, .inr (.inl J)))]) (ws2 := [(o, .inr (4, [.ref h, .ref b, .ref e])), (h, .inr (3, [.ref ha, .int bm])), (ha, .inl (g.2.1, 400, .inl Bf)), (e, .inr (2, [.ref b, .ref d, .ref c, .int rp, .int hf, .int ((f_X5_cut pl bg lo dm da z m v).2.1), .int ((f_X5_cut pl bg lo dm da z m v).2.2.1), .int ((f_X5_cut pl bg lo dm da z m v).2.2.2.1), .int fp, .int fb])), (d, .inr (1, [.ref dw, .ref dy, .int ((f_X5_cut pl bg lo dm da z m v).2.2.2.2.1), .int ((f_X5_cut pl bg lo dm da z m v).2.2.2.2.2.1)])), (dw, .inl (g.2.2.1, 100, .inl Wf)), (dy, .inl (g.2.2.1, 100, .inl Yf)), (c, .inr (3, [.ref ca, .int cm])), (ca, .inl (g.2.1, 4096, .inl Cf)), (b, .inr (0, [.ref br, .int z])), (br, .inr (3, [.ref ba, .int ((f_X5_cut pl bg lo dm da z m v).2.2.2.2.2.2)])), (ba, .inl (g.2.1, 4096, .inl F)), (j, .inl (g.2.2.2, 1, .inr (.inl J)))]) C L dL_cut_4 (c_X5_cut (zl X) hlx g o h b e ha d c dw dy ca br ba Bf Wf Yf Cf F bm rp hf pl bg lo fp fb dm da cm z m v hz hm) gL_cut_X5_cut rfl ⟨rfl, rfl⟩ (by decide +kernel) (by decide) (by decide) rfl rfl rfl rfl (Nat.le_of_ble_eq_true rfl) rfl rfl ⟨rfl, rfl, rfl⟩ (by decide) rfl rfl (fun hxo => ?_) (fun E hE => ?_)
  · skip
    refine z_i2l C dL_cut_7 ?_
    refine z_last (ws' := [(o, .inr (4, [.ref h, .ref b, .ref e])), (h, .inr (3, [.ref ha, .int bm])), (ha, .inl (g.2.1, 400, .inl Bf)), (e, .inr (2, [.ref b, .ref d, .ref c, .int rp, .int hf, .int ((f_X5_cut pl bg lo dm da z m v).2.1), .int ((f_X5_cut pl bg lo dm da z m v).2.2.1), .int ((f_X5_cut pl bg lo dm da z m v).2.2.2.1), .int fp, .int fb])), (d, .inr (1, [.ref dw, .ref dy, .int ((f_X5_cut pl bg lo dm da z m v).2.2.2.2.1), .int ((f_X5_cut pl bg lo dm da z m v).2.2.2.2.2.1)])), (dw, .inl (g.2.2.1, 100, .inl Wf)), (dy, .inl (g.2.2.1, 100, .inl Yf)), (c, .inr (3, [.ref ca, .int cm])), (ca, .inl (g.2.1, 4096, .inl Cf)), (b, .inr (0, [.ref br, .int z])), (br, .inr (3, [.ref ba, .int ((f_X5_cut pl bg lo dm da z m v).2.2.2.2.2.2)])), (ba, .inl (g.2.1, 4096, .inl F)), (j, .inl (g.2.2.2, 1, .inr (.inl (vp_updL J (0 : Int32).toNatClampNeg (((f_X5_cut pl bg lo dm da z m v).1).toInt64)))))]) C dL_cut_8 12 rfl zin01 rfl ?_
    refine z_goto (tgt := 15) C dL_cut_9 (by decide) ?_
    refine z_iconst (v := 0) C dL_cut_15 (by decide) ?_
    exact hret _ _ _ _ dL_cut_16 (Or.inl ⟨hxo, rfl, rfl⟩)
  · skip
    rcases xc_X5_cut m v with hc | hc
    · rw [hE] at hc; cases hc
    · rw [hE] at hc; cases hc
      refine zcat_0 rfl (by decide) (by decide) (List.mem_of_getElem? (i := 1) rfl) (List.mem_of_getElem? (i := 3) rfl) (fun q => ?_)
      refine z_astore_n (lv' := [(3, .ref q), (0, .ref o), (1, .int v), (2, .ref j)]) C dL_cut_12 rfl (by decide) rfl ?_
      refine z_iconst (v := 1) C dL_cut_13 (by decide) ?_
      exact hret _ _ _ _ dL_cut_14 (Or.inr ⟨hE, rfl, rfl⟩)
theorem xc_X5_begin (v : Int32) : (x_X5_begin v) = none ∨ (x_X5_begin v) = some zIAE := by
  unfold x_X5_begin
  repeat' split
  all_goals first | exact Or.inl rfl | exact Or.inr rfl
set_option maxHeartbeats 4000000 in
set_option maxRecDepth 100000 in
theorem c_L_begin (l : Launch) (hl : l.stackTraces = false) (g : zG) (o h b e ha d c dw dy ca br ba : Nat) (Bf : Nat → Int32) (Wf : Nat → Int32) (Yf : Nat → Int32) (Cf : Nat → Int32) (F : Nat → Int32) (bm : Int32) (rp : Int32) (hf : Int32) (pl : Int32) (bg : Int32) (lo : Int32) (fp : Int32) (fb : Int32) (dm : Int32) (da : Int32) (cm : Int32) (z : Int32) (m : Int32) (v : Int32) (j : Nat) (J : Nat → Int64) (hz : zsz z) : zLI l yL_begin wsL_begin ({ frames := 7, cells := 1, slots := 6, locals := 103 }) g [.ref o, .int v, .ref j] [(o, .inr (4, [.ref h, .ref b, .ref e])), (h, .inr (3, [.ref ha, .int bm])), (ha, .inl (g.2.1, 400, .inl Bf)), (e, .inr (2, [.ref b, .ref d, .ref c, .int rp, .int hf, .int pl, .int bg, .int lo, .int fp, .int fb])), (d, .inr (1, [.ref dw, .ref dy, .int dm, .int da])), (dw, .inl (g.2.2.1, 100, .inl Wf)), (dy, .inl (g.2.2.1, 100, .inl Yf)), (c, .inr (3, [.ref ca, .int cm])), (ca, .inl (g.2.1, 4096, .inl Cf)), (b, .inr (0, [.ref br, .int z])), (br, .inr (3, [.ref ba, .int m])), (ba, .inl (g.2.1, 4096, .inl F)), (j, .inl (g.2.2.2, 1, .inr (.inl J)))] (fun r u => ((x_X5_begin v) = none ∧ r = 0 ∧ u = [(o, .inr (4, [.ref h, .ref b, .ref e])), (h, .inr (3, [.ref ha, .int bm])), (ha, .inl (g.2.1, 400, .inl Bf)), (e, .inr (2, [.ref b, .ref d, .ref c, .int rp, .int hf, .int ((f_X5_begin pl bg lo dm da z v).2.1), .int ((f_X5_begin pl bg lo dm da z v).2.2.1), .int ((f_X5_begin pl bg lo dm da z v).2.2.2.1), .int fp, .int fb])), (d, .inr (1, [.ref dw, .ref dy, .int ((f_X5_begin pl bg lo dm da z v).2.2.2.2.1), .int ((f_X5_begin pl bg lo dm da z v).2.2.2.2.2)])), (dw, .inl (g.2.2.1, 100, .inl Wf)), (dy, .inl (g.2.2.1, 100, .inl Yf)), (c, .inr (3, [.ref ca, .int cm])), (ca, .inl (g.2.1, 4096, .inl Cf)), (b, .inr (0, [.ref br, .int z])), (br, .inr (3, [.ref ba, .int m])), (ba, .inl (g.2.1, 4096, .inl F)), (j, .inl (g.2.2.2, 1, .inr (.inl (vp_updL J (0 : Int32).toNatClampNeg (((f_X5_begin pl bg lo dm da z v).1).toInt64)))))]) ∨ ((x_X5_begin v) = some zIAE ∧ r = 1 ∧ u = [(o, .inr (4, [.ref h, .ref b, .ref e])), (h, .inr (3, [.ref ha, .int bm])), (ha, .inl (g.2.1, 400, .inl Bf)), (e, .inr (2, [.ref b, .ref d, .ref c, .int rp, .int hf, .int pl, .int bg, .int lo, .int fp, .int fb])), (d, .inr (1, [.ref dw, .ref dy, .int dm, .int da])), (dw, .inl (g.2.2.1, 100, .inl Wf)), (dy, .inl (g.2.2.1, 100, .inl Yf)), (c, .inr (3, [.ref ca, .int cm])), (ca, .inl (g.2.1, 4096, .inl Cf)), (b, .inr (0, [.ref br, .int z])), (br, .inr (3, [.ref ba, .int m])), (ba, .inl (g.2.1, 4096, .inl F)), (j, .inl (g.2.2.2, 1, .inr (.inl J)))])) := by
  refine zLI_of (cc := cL_begin) (nL := 4) (hh := [(0, 9, 12, 13)]) (by decide) rfl (Nat.le_of_ble_eq_true rfl) ?_
  intro X C L hzl hret
  have hlx : (zl X).stackTraces = false := by rw [hzl]; exact hl
  refine z_lv (lv' := [(0, .ref o), (1, .int v), (2, .ref j)]) [0, 1, 2] rfl ?_
  refine z_aload_n C dL_begin_0 rfl 2 rfl ?_
  refine z_iconst (v := 0) C dL_begin_1 (by decide) ?_
  refine z_aload_n C dL_begin_2 rfl 0 rfl ?_
  refine z_iload_n C dL_begin_3 rfl 1 rfl ?_
  refine z_callXi (n := 1) (isC := [0, 1, 2, 3, 4, 5, 6, 7, 8, 9, 10, 11]) (isR := [12]) (isP := [1, 2, 3, 4, 5, 6, 7, 8, 9, 10, 11, 12, 0]) (As := [.int v]) (rest := [.int 0, .ref j]) (wr := [(j, .inl (g.2.2.2, 1, .inr (.inl J)))]) (ws2 := [(o, .inr (4, [.ref h, .ref b, .ref e])), (h, .inr (3, [.ref ha, .int bm])), (ha, .inl (g.2.1, 400, .inl Bf)), (e, .inr (2, [.ref b, .ref d, .ref c, .int rp, .int hf, .int ((f_X5_begin pl bg lo dm da z v).2.1), .int ((f_X5_begin pl bg lo dm da z v).2.2.1), .int ((f_X5_begin pl bg lo dm da z v).2.2.2.1), .int fp, .int fb])), (d, .inr (1, [.ref dw, .ref dy, .int ((f_X5_begin pl bg lo dm da z v).2.2.2.2.1), .int ((f_X5_begin pl bg lo dm da z v).2.2.2.2.2)])), (dw, .inl (g.2.2.1, 100, .inl Wf)), (dy, .inl (g.2.2.1, 100, .inl Yf)), (c, .inr (3, [.ref ca, .int cm])), (ca, .inl (g.2.1, 4096, .inl Cf)), (b, .inr (0, [.ref br, .int z])), (br, .inr (3, [.ref ba, .int m])), (ba, .inl (g.2.1, 4096, .inl F)), (j, .inl (g.2.2.2, 1, .inr (.inl J)))]) C L dL_begin_4 (c_X5_begin (zl X) hlx g o h b e ha d c dw dy ca br ba Bf Wf Yf Cf F bm rp hf pl bg lo fp fb dm da cm z m v hz) gL_begin_X5_begin rfl ⟨rfl, rfl⟩ (by decide +kernel) (by decide) (by decide) rfl rfl rfl rfl (Nat.le_of_ble_eq_true rfl) rfl rfl ⟨rfl, rfl, rfl⟩ (by decide) rfl rfl (fun hxo => ?_) (fun E hE => ?_)
  · skip
    refine z_i2l C dL_begin_7 ?_
    refine z_last (ws' := [(o, .inr (4, [.ref h, .ref b, .ref e])), (h, .inr (3, [.ref ha, .int bm])), (ha, .inl (g.2.1, 400, .inl Bf)), (e, .inr (2, [.ref b, .ref d, .ref c, .int rp, .int hf, .int ((f_X5_begin pl bg lo dm da z v).2.1), .int ((f_X5_begin pl bg lo dm da z v).2.2.1), .int ((f_X5_begin pl bg lo dm da z v).2.2.2.1), .int fp, .int fb])), (d, .inr (1, [.ref dw, .ref dy, .int ((f_X5_begin pl bg lo dm da z v).2.2.2.2.1), .int ((f_X5_begin pl bg lo dm da z v).2.2.2.2.2)])), (dw, .inl (g.2.2.1, 100, .inl Wf)), (dy, .inl (g.2.2.1, 100, .inl Yf)), (c, .inr (3, [.ref ca, .int cm])), (ca, .inl (g.2.1, 4096, .inl Cf)), (b, .inr (0, [.ref br, .int z])), (br, .inr (3, [.ref ba, .int m])), (ba, .inl (g.2.1, 4096, .inl F)), (j, .inl (g.2.2.2, 1, .inr (.inl (vp_updL J (0 : Int32).toNatClampNeg (((f_X5_begin pl bg lo dm da z v).1).toInt64)))))]) C dL_begin_8 12 rfl zin01 rfl ?_
    refine z_goto (tgt := 15) C dL_begin_9 (by decide) ?_
    refine z_iconst (v := 0) C dL_begin_15 (by decide) ?_
    exact hret _ _ _ _ dL_begin_16 (Or.inl ⟨hxo, rfl, rfl⟩)
  · skip
    rcases xc_X5_begin v with hc | hc
    · rw [hE] at hc; cases hc
    · rw [hE] at hc; cases hc
      refine zcat_0 rfl (by decide) (by decide) (List.mem_of_getElem? (i := 1) rfl) (List.mem_of_getElem? (i := 3) rfl) (fun q => ?_)
      refine z_astore_n (lv' := [(3, .ref q), (0, .ref o), (1, .int v), (2, .ref j)]) C dL_begin_12 rfl (by decide) rfl ?_
      refine z_iconst (v := 1) C dL_begin_13 (by decide) ?_
      exact hret _ _ _ _ dL_begin_14 (Or.inr ⟨hE, rfl, rfl⟩)
theorem xc_X5_count (v : Int32) : (x_X5_count v) = none ∨ (x_X5_count v) = some zIAE := by
  unfold x_X5_count
  repeat' split
  all_goals first | exact Or.inl rfl | exact Or.inr rfl
set_option maxHeartbeats 4000000 in
set_option maxRecDepth 100000 in
theorem c_L_count (l : Launch) (hl : l.stackTraces = false) (g : zG) (o h b e ha d c dw dy ca br ba : Nat) (Bf : Nat → Int32) (Wf : Nat → Int32) (Yf : Nat → Int32) (Cf : Nat → Int32) (F : Nat → Int32) (bm : Int32) (rp : Int32) (hf : Int32) (pl : Int32) (bg : Int32) (lo : Int32) (fp : Int32) (fb : Int32) (dm : Int32) (da : Int32) (cm : Int32) (z : Int32) (m : Int32) (v : Int32) (j : Nat) (J : Nat → Int64) (hlo : zbo lo) : zLI l yL_count wsL_count ({ frames := 7, cells := 1, slots := 6, locals := 103 }) g [.ref o, .int v, .ref j] [(o, .inr (4, [.ref h, .ref b, .ref e])), (h, .inr (3, [.ref ha, .int bm])), (ha, .inl (g.2.1, 400, .inl Bf)), (e, .inr (2, [.ref b, .ref d, .ref c, .int rp, .int hf, .int pl, .int bg, .int lo, .int fp, .int fb])), (d, .inr (1, [.ref dw, .ref dy, .int dm, .int da])), (dw, .inl (g.2.2.1, 100, .inl Wf)), (dy, .inl (g.2.2.1, 100, .inl Yf)), (c, .inr (3, [.ref ca, .int cm])), (ca, .inl (g.2.1, 4096, .inl Cf)), (b, .inr (0, [.ref br, .int z])), (br, .inr (3, [.ref ba, .int m])), (ba, .inl (g.2.1, 4096, .inl F)), (j, .inl (g.2.2.2, 1, .inr (.inl J)))] (fun r u => ((x_X5_count v) = none ∧ r = 0 ∧ u = [(o, .inr (4, [.ref h, .ref b, .ref e])), (h, .inr (3, [.ref ha, .int bm])), (ha, .inl (g.2.1, 400, .inl Bf)), (e, .inr (2, [.ref b, .ref d, .ref c, .int rp, .int hf, .int pl, .int bg, .int lo, .int fp, .int fb])), (d, .inr (1, [.ref dw, .ref dy, .int dm, .int da])), (dw, .inl (g.2.2.1, 100, .inl Wf)), (dy, .inl (g.2.2.1, 100, .inl Yf)), (c, .inr (3, [.ref ca, .int cm])), (ca, .inl (g.2.1, 4096, .inl Cf)), (b, .inr (0, [.ref br, .int z])), (br, .inr (3, [.ref ba, .int m])), (ba, .inl (g.2.1, 4096, .inl F)), (j, .inl (g.2.2.2, 1, .inr (.inl (vp_updL J (0 : Int32).toNatClampNeg ((f_X5_count bm pl lo dm da m v).toInt64)))))]) ∨ ((x_X5_count v) = some zIAE ∧ r = 1 ∧ u = [(o, .inr (4, [.ref h, .ref b, .ref e])), (h, .inr (3, [.ref ha, .int bm])), (ha, .inl (g.2.1, 400, .inl Bf)), (e, .inr (2, [.ref b, .ref d, .ref c, .int rp, .int hf, .int pl, .int bg, .int lo, .int fp, .int fb])), (d, .inr (1, [.ref dw, .ref dy, .int dm, .int da])), (dw, .inl (g.2.2.1, 100, .inl Wf)), (dy, .inl (g.2.2.1, 100, .inl Yf)), (c, .inr (3, [.ref ca, .int cm])), (ca, .inl (g.2.1, 4096, .inl Cf)), (b, .inr (0, [.ref br, .int z])), (br, .inr (3, [.ref ba, .int m])), (ba, .inl (g.2.1, 4096, .inl F)), (j, .inl (g.2.2.2, 1, .inr (.inl J)))])) := by
  refine zLI_of (cc := cL_count) (nL := 4) (hh := [(0, 9, 12, 13)]) (by decide) rfl (Nat.le_of_ble_eq_true rfl) ?_
  intro X C L hzl hret
  have hlx : (zl X).stackTraces = false := by rw [hzl]; exact hl
  refine z_lv (lv' := [(0, .ref o), (1, .int v), (2, .ref j)]) [0, 1, 2] rfl ?_
  refine z_aload_n C dL_count_0 rfl 2 rfl ?_
  refine z_iconst (v := 0) C dL_count_1 (by decide) ?_
  refine z_aload_n C dL_count_2 rfl 0 rfl ?_
  refine z_iload_n C dL_count_3 rfl 1 rfl ?_
  refine z_callXi (n := 1) (isC := [0, 1, 2, 3, 4, 5, 6, 7, 8, 9, 10, 11]) (isR := [12]) (isP := [1, 2, 3, 4, 5, 6, 7, 8, 9, 10, 11, 12, 0]) (As := [.int v]) (rest := [.int 0, .ref j]) (wr := [(j, .inl (g.2.2.2, 1, .inr (.inl J)))]) (ws2 := [(o, .inr (4, [.ref h, .ref b, .ref e])), (h, .inr (3, [.ref ha, .int bm])), (ha, .inl (g.2.1, 400, .inl Bf)), (e, .inr (2, [.ref b, .ref d, .ref c, .int rp, .int hf, .int pl, .int bg, .int lo, .int fp, .int fb])), (d, .inr (1, [.ref dw, .ref dy, .int dm, .int da])), (dw, .inl (g.2.2.1, 100, .inl Wf)), (dy, .inl (g.2.2.1, 100, .inl Yf)), (c, .inr (3, [.ref ca, .int cm])), (ca, .inl (g.2.1, 4096, .inl Cf)), (b, .inr (0, [.ref br, .int z])), (br, .inr (3, [.ref ba, .int m])), (ba, .inl (g.2.1, 4096, .inl F)), (j, .inl (g.2.2.2, 1, .inr (.inl J)))]) C L dL_count_4 (c_X5_count (zl X) hlx g o h b e ha d c dw dy ca br ba Bf Wf Yf Cf F bm rp hf pl bg lo fp fb dm da cm z m v hlo) gL_count_X5_count rfl ⟨rfl, rfl⟩ (by decide +kernel) (by decide) (by decide) rfl rfl rfl rfl (Nat.le_of_ble_eq_true rfl) rfl rfl ⟨rfl, rfl, rfl⟩ (by decide) rfl rfl (fun hxo => ?_) (fun E hE => ?_)
  · skip
    refine z_i2l C dL_count_7 ?_
    refine z_last (ws' := [(o, .inr (4, [.ref h, .ref b, .ref e])), (h, .inr (3, [.ref ha, .int bm])), (ha, .inl (g.2.1, 400, .inl Bf)), (e, .inr (2, [.ref b, .ref d, .ref c, .int rp, .int hf, .int pl, .int bg, .int lo, .int fp, .int fb])), (d, .inr (1, [.ref dw, .ref dy, .int dm, .int da])), (dw, .inl (g.2.2.1, 100, .inl Wf)), (dy, .inl (g.2.2.1, 100, .inl Yf)), (c, .inr (3, [.ref ca, .int cm])), (ca, .inl (g.2.1, 4096, .inl Cf)), (b, .inr (0, [.ref br, .int z])), (br, .inr (3, [.ref ba, .int m])), (ba, .inl (g.2.1, 4096, .inl F)), (j, .inl (g.2.2.2, 1, .inr (.inl (vp_updL J (0 : Int32).toNatClampNeg ((f_X5_count bm pl lo dm da m v).toInt64)))))]) C dL_count_8 12 rfl zin01 rfl ?_
    refine z_goto (tgt := 15) C dL_count_9 (by decide) ?_
    refine z_iconst (v := 0) C dL_count_15 (by decide) ?_
    exact hret _ _ _ _ dL_count_16 (Or.inl ⟨hxo, rfl, rfl⟩)
  · skip
    rcases xc_X5_count v with hc | hc
    · rw [hE] at hc; cases hc
    · rw [hE] at hc; cases hc
      refine zcat_0 rfl (by decide) (by decide) (List.mem_of_getElem? (i := 1) rfl) (List.mem_of_getElem? (i := 3) rfl) (fun q => ?_)
      refine z_astore_n (lv' := [(3, .ref q), (0, .ref o), (1, .int v), (2, .ref j)]) C dL_count_12 rfl (by decide) rfl ?_
      refine z_iconst (v := 1) C dL_count_13 (by decide) ?_
      exact hret _ _ _ _ dL_count_14 (Or.inr ⟨hE, rfl, rfl⟩)
theorem xc_X5_told (x : Int32) : (x_X5_told x) = none ∨ (x_X5_told x) = some zIAE := by
  unfold x_X5_told
  repeat' split
  all_goals first | exact Or.inl rfl | exact Or.inr rfl
set_option maxHeartbeats 4000000 in
set_option maxRecDepth 100000 in
theorem c_L_told (l : Launch) (hl : l.stackTraces = false) (g : zG) (o h b e ha d c dw dy ca br ba : Nat) (Bf : Nat → Int32) (Wf : Nat → Int32) (Yf : Nat → Int32) (Cf : Nat → Int32) (F : Nat → Int32) (bm : Int32) (rp : Int32) (hf : Int32) (pl : Int32) (bg : Int32) (lo : Int32) (fp : Int32) (fb : Int32) (dm : Int32) (da : Int32) (cm : Int32) (z : Int32) (m : Int32) (v : Int32) (x : Int32) (j : Nat) (J : Nat → Int64) : zLI l yL_told wsL_told ({ frames := 7, cells := 1, slots := 6, locals := 104 }) g [.ref o, .int v, .int x, .ref j] [(o, .inr (4, [.ref h, .ref b, .ref e])), (h, .inr (3, [.ref ha, .int bm])), (ha, .inl (g.2.1, 400, .inl Bf)), (e, .inr (2, [.ref b, .ref d, .ref c, .int rp, .int hf, .int pl, .int bg, .int lo, .int fp, .int fb])), (d, .inr (1, [.ref dw, .ref dy, .int dm, .int da])), (dw, .inl (g.2.2.1, 100, .inl Wf)), (dy, .inl (g.2.2.1, 100, .inl Yf)), (c, .inr (3, [.ref ca, .int cm])), (ca, .inl (g.2.1, 4096, .inl Cf)), (b, .inr (0, [.ref br, .int z])), (br, .inr (3, [.ref ba, .int m])), (ba, .inl (g.2.1, 4096, .inl F)), (j, .inl (g.2.2.2, 1, .inr (.inl J)))] (fun r u => ((x_X5_told x) = none ∧ r = 0 ∧ u = [(o, .inr (4, [.ref h, .ref b, .ref e])), (h, .inr (3, [.ref ha, .int bm])), (ha, .inl (g.2.1, 400, .inl Bf)), (e, .inr (2, [.ref b, .ref d, .ref c, .int rp, .int hf, .int pl, .int bg, .int lo, .int fp, .int fb])), (d, .inr (1, [.ref dw, .ref dy, .int dm, .int da])), (dw, .inl (g.2.2.1, 100, .inl Wf)), (dy, .inl (g.2.2.1, 100, .inl Yf)), (c, .inr (3, [.ref ca, .int cm])), (ca, .inl (g.2.1, 4096, .inl Cf)), (b, .inr (0, [.ref br, .int z])), (br, .inr (3, [.ref ba, .int m])), (ba, .inl (g.2.1, 4096, .inl F)), (j, .inl (g.2.2.2, 1, .inr (.inl (vp_updL J (0 : Int32).toNatClampNeg ((f_X5_told Wf Yf dm v x).toInt64)))))]) ∨ ((x_X5_told x) = some zIAE ∧ r = 1 ∧ u = [(o, .inr (4, [.ref h, .ref b, .ref e])), (h, .inr (3, [.ref ha, .int bm])), (ha, .inl (g.2.1, 400, .inl Bf)), (e, .inr (2, [.ref b, .ref d, .ref c, .int rp, .int hf, .int pl, .int bg, .int lo, .int fp, .int fb])), (d, .inr (1, [.ref dw, .ref dy, .int dm, .int da])), (dw, .inl (g.2.2.1, 100, .inl Wf)), (dy, .inl (g.2.2.1, 100, .inl Yf)), (c, .inr (3, [.ref ca, .int cm])), (ca, .inl (g.2.1, 4096, .inl Cf)), (b, .inr (0, [.ref br, .int z])), (br, .inr (3, [.ref ba, .int m])), (ba, .inl (g.2.1, 4096, .inl F)), (j, .inl (g.2.2.2, 1, .inr (.inl J)))])) := by
  refine zLI_of (cc := cL_told) (nL := 5) (hh := [(0, 10, 13, 13)]) (by decide) rfl (Nat.le_of_ble_eq_true rfl) ?_
  intro X C L hzl hret
  have hlx : (zl X).stackTraces = false := by rw [hzl]; exact hl
  refine z_lv (lv' := [(0, .ref o), (1, .int v), (2, .int x), (3, .ref j)]) [0, 1, 2, 3] rfl ?_
  refine z_aload_n C dL_told_0 rfl 3 rfl ?_
  refine z_iconst (v := 0) C dL_told_1 (by decide) ?_
  refine z_aload_n C dL_told_2 rfl 0 rfl ?_
  refine z_iload_n C dL_told_3 rfl 1 rfl ?_
  refine z_iload_n C dL_told_4 rfl 2 rfl ?_
  refine z_callXi (n := 2) (isC := [0, 1, 2, 3, 4, 5, 6, 7, 8, 9, 10, 11]) (isR := [12]) (isP := [1, 2, 3, 4, 5, 6, 7, 8, 9, 10, 11, 12, 0]) (As := [.int v, .int x]) (rest := [.int 0, .ref j]) (wr := [(j, .inl (g.2.2.2, 1, .inr (.inl J)))]) (ws2 := [(o, .inr (4, [.ref h, .ref b, .ref e])), (h, .inr (3, [.ref ha, .int bm])), (ha, .inl (g.2.1, 400, .inl Bf)), (e, .inr (2, [.ref b, .ref d, .ref c, .int rp, .int hf, .int pl, .int bg, .int lo, .int fp, .int fb])), (d, .inr (1, [.ref dw, .ref dy, .int dm, .int da])), (dw, .inl (g.2.2.1, 100, .inl Wf)), (dy, .inl (g.2.2.1, 100, .inl Yf)), (c, .inr (3, [.ref ca, .int cm])), (ca, .inl (g.2.1, 4096, .inl Cf)), (b, .inr (0, [.ref br, .int z])), (br, .inr (3, [.ref ba, .int m])), (ba, .inl (g.2.1, 4096, .inl F)), (j, .inl (g.2.2.2, 1, .inr (.inl J)))]) C L dL_told_5 (c_X5_told (zl X) hlx g o h b e ha d c dw dy ca br ba Bf Wf Yf Cf F bm rp hf pl bg lo fp fb dm da cm z m v x ) gL_told_X5_told rfl ⟨rfl, rfl⟩ (by decide +kernel) (by decide) (by decide) rfl rfl rfl rfl (Nat.le_of_ble_eq_true rfl) rfl rfl ⟨rfl, rfl, rfl⟩ (by decide) rfl rfl (fun hxo => ?_) (fun E hE => ?_)
  · skip
    refine z_i2l C dL_told_8 ?_
    refine z_last (ws' := [(o, .inr (4, [.ref h, .ref b, .ref e])), (h, .inr (3, [.ref ha, .int bm])), (ha, .inl (g.2.1, 400, .inl Bf)), (e, .inr (2, [.ref b, .ref d, .ref c, .int rp, .int hf, .int pl, .int bg, .int lo, .int fp, .int fb])), (d, .inr (1, [.ref dw, .ref dy, .int dm, .int da])), (dw, .inl (g.2.2.1, 100, .inl Wf)), (dy, .inl (g.2.2.1, 100, .inl Yf)), (c, .inr (3, [.ref ca, .int cm])), (ca, .inl (g.2.1, 4096, .inl Cf)), (b, .inr (0, [.ref br, .int z])), (br, .inr (3, [.ref ba, .int m])), (ba, .inl (g.2.1, 4096, .inl F)), (j, .inl (g.2.2.2, 1, .inr (.inl (vp_updL J (0 : Int32).toNatClampNeg ((f_X5_told Wf Yf dm v x).toInt64)))))]) C dL_told_9 12 rfl zin01 rfl ?_
    refine z_goto (tgt := 17) C dL_told_10 (by decide) ?_
    refine z_iconst (v := 0) C dL_told_17 (by decide) ?_
    exact hret _ _ _ _ dL_told_18 (Or.inl ⟨hxo, rfl, rfl⟩)
  · skip
    rcases xc_X5_told x with hc | hc
    · rw [hE] at hc; cases hc
    · rw [hE] at hc; cases hc
      refine zcat_0 rfl (by decide) (by decide) (List.mem_of_getElem? (i := 1) rfl) (List.mem_of_getElem? (i := 3) rfl) (fun q => ?_)
      refine z_astore (lv' := [(4, .ref q), (0, .ref o), (1, .int v), (2, .int x), (3, .ref j)]) C dL_told_13 (by decide) rfl ?_
      refine z_iconst (v := 1) C dL_told_15 (by decide) ?_
      exact hret _ _ _ _ dL_told_16 (Or.inr ⟨hE, rfl, rfl⟩)
