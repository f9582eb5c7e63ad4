def f_X5_clear (pl : Int32) (bg : Int32) (lo : Int32) (dm : Int32) (da : Int32) (z : Int32) (m : Int32) (v : Int32) : Int32 × Int32 × Int32 × Int32 × Int32 × Int32 × Int32 :=
  if v < 16 then
    (pl, bg, lo, dm, da, z, m)
  else
    if v ≤ 512 then
      match (f_X0_startAnew m v) with
      | (zq3, mq3) =>
        match (f_X2_beginAt zq3 0) with
        | (plq4, bgq4, loq4, dmq4, daq4) =>
          (plq4, bgq4, loq4, dmq4, daq4, zq3, mq3)
    else
      (pl, bg, lo, dm, da, z, m)
def x_X5_clear (v : Int32) : Option String :=
  if v < 16 then
    some zIAE
  else
    if v ≤ 512 then
      none
    else
      some zIAE
set_option maxHeartbeats 4000000 in
set_option maxRecDepth 100000 in
theorem c_X5_clear (l : Launch) (hl : l.stackTraces = false) (g : zG) (o h b e ha d c dw dy ca br ba : Nat) (Bf : Nat → Int32) (Wf : Nat → Int32) (Yf : Nat → Int32) (Cf : Nat → Int32) (F : Nat → Int32) (bm : Int32) (rp : Int32) (hf : Int32) (pl : Int32) (bg : Int32) (lo : Int32) (fp : Int32) (fb : Int32) (dm : Int32) (da : Int32) (cm : Int32) (z : Int32) (m : Int32) (v : Int32) (hm : zok 4096 m) : zXV l yX5_clear wsX5_clear ({ frames := 6, cells := 1, slots := 6, locals := 82 }) g [.ref o, .int v] [(o, .inr (4, [.ref h, .ref b, .ref e])), (h, .inr (3, [.ref ha, .int bm])), (ha, .inl (g.2.1, 400, .inl Bf)), (e, .inr (2, [.ref b, .ref d, .ref c, .int rp, .int hf, .int pl, .int bg, .int lo, .int fp, .int fb])), (d, .inr (1, [.ref dw, .ref dy, .int dm, .int da])), (dw, .inl (g.2.2.1, 100, .inl Wf)), (dy, .inl (g.2.2.1, 100, .inl Yf)), (c, .inr (3, [.ref ca, .int cm])), (ca, .inl (g.2.1, 4096, .inl Cf)), (b, .inr (0, [.ref br, .int z])), (br, .inr (3, [.ref ba, .int m])), (ba, .inl (g.2.1, 4096, .inl F))] (x_X5_clear v) [(o, .inr (4, [.ref h, .ref b, .ref e])), (h, .inr (3, [.ref ha, .int bm])), (ha, .inl (g.2.1, 400, .inl Bf)), (e, .inr (2, [.ref b, .ref d, .ref c, .int rp, .int hf, .int ((f_X5_clear pl bg lo dm da z m v).1), .int ((f_X5_clear pl bg lo dm da z m v).2.1), .int ((f_X5_clear pl bg lo dm da z m v).2.2.1), .int fp, .int fb])), (d, .inr (1, [.ref dw, .ref dy, .int ((f_X5_clear pl bg lo dm da z m v).2.2.2.1), .int ((f_X5_clear pl bg lo dm da z m v).2.2.2.2.1)])), (dw, .inl (g.2.2.1, 100, .inl Wf)), (dy, .inl (g.2.2.1, 100, .inl Yf)), (c, .inr (3, [.ref ca, .int cm])), (ca, .inl (g.2.1, 4096, .inl Cf)), (b, .inr (0, [.ref br, .int ((f_X5_clear pl bg lo dm da z m v).2.2.2.2.2.1)])), (br, .inr (3, [.ref ba, .int ((f_X5_clear pl bg lo dm da z m v).2.2.2.2.2.2)])), (ba, .inl (g.2.1, 4096, .inl F))] := by
  refine zXV_of (cc := cX5_clear) (nL := 2) hl rfl (by decide) rfl (Nat.le_of_ble_eq_true rfl) (by decide) ?_
  intro X C hret hthr
  refine z_lv (lv' := [(0, .ref o), (1, .int v)]) [0, 1] rfl ?_
  refine z_iload_n C dX5_clear_0 rfl 1 rfl ?_
  refine z_bipush (v := 16) C dX5_clear_1 (by decide) ?_
  refine z_icmp_lt (tgt := 13) C dX5_clear_3 (by decide) (fun c_1 => ?_) (fun c_1 => ?_)
  · skip
    have hx : (x_X5_clear v) = some zIAE := by simp only [x_X5_clear, if_pos c_1]
    exact hthr 13 _ 34 36 38 zIAE "a size is 16 .. 512" dX5_clear_13 dX5_clear_16 dX5_clear_17 dX5_clear_19 dX5_clear_22 (List.mem_of_getElem? (i := 1) rfl) (List.mem_of_getElem? (i := 2) rfl) (fun w h => List.mem_cons_of_mem _ (List.mem_append_right _ h)) zat38 (zot_c zot38) (List.mem_of_getElem? (i := 0) rfl) (by decide) hx
  · skip
    refine z_iload_n C dX5_clear_6 rfl 1 rfl ?_
    refine z_sipush (v := 512) C dX5_clear_7 (by decide) ?_
    refine z_icmp_le (tgt := 23) C dX5_clear_10 (by decide) (fun c_2 => ?_) (fun c_2 => ?_)
    · skip
      refine z_aload_n C dX5_clear_23 rfl 0 rfl ?_
      refine z_get (ci := 4) (v := .ref b) (Cn := RX5) (T := TX5) (N := 3) C dX5_clear_24 (fun w h => List.mem_cons_of_mem _ (List.mem_append_left _ (List.mem_append_left _ (List.mem_append_left _ (List.mem_append_left _ (List.mem_append_left _ (List.mem_append_right _ h))))))) 0 rfl rfl 1 (by decide) (List.mem_of_getElem? (i := 3) rfl) rfl rfl ?_
      refine z_iload_n C dX5_clear_27 rfl 1 rfl ?_
      refine z_callVv (n := 1) (isC := [9, 10, 11]) (isR := [0, 1, 2, 3, 4, 5, 6, 7, 8]) (isP := [0, 1, 2, 3, 4, 5, 6, 7, 8, 9, 10, 11]) (As := [.int v]) (rest := []) (wr := [(o, .inr (4, [.ref h, .ref b, .ref e])), (h, .inr (3, [.ref ha, .int bm])), (ha, .inl (g.2.1, 400, .inl Bf)), (e, .inr (2, [.ref b, .ref d, .ref c, .int rp, .int hf, .int pl, .int bg, .int lo, .int fp, .int fb])), (d, .inr (1, [.ref dw, .ref dy, .int dm, .int da])), (dw, .inl (g.2.2.1, 100, .inl Wf)), (dy, .inl (g.2.2.1, 100, .inl Yf)), (c, .inr (3, [.ref ca, .int cm])), (ca, .inl (g.2.1, 4096, .inl Cf))]) (ws2 := [(o, .inr (4, [.ref h, .ref b, .ref e])), (h, .inr (3, [.ref ha, .int bm])), (ha, .inl (g.2.1, 400, .inl Bf)), (e, .inr (2, [.ref b, .ref d, .ref c, .int rp, .int hf, .int pl, .int bg, .int lo, .int fp, .int fb])), (d, .inr (1, [.ref dw, .ref dy, .int dm, .int da])), (dw, .inl (g.2.2.1, 100, .inl Wf)), (dy, .inl (g.2.2.1, 100, .inl Yf)), (c, .inr (3, [.ref ca, .int cm])), (ca, .inl (g.2.1, 4096, .inl Cf)), (b, .inr (0, [.ref br, .int ((f_X0_startAnew m v).1)])), (br, .inr (3, [.ref ba, .int ((f_X0_startAnew m v).2)])), (ba, .inl (g.2.1, 4096, .inl F))]) C dX5_clear_28 (c_X0_startAnew (zl X) g b br ba F z m v hm) gX5_clear_X0_startAnew rfl ⟨rfl, rfl⟩ (by decide +kernel) (by decide) (by decide) rfl rfl rfl rfl (Nat.le_of_ble_eq_true rfl) rfl rfl ⟨rfl, rfl, rfl⟩ (by decide) rfl ?_
      generalize hT3 : (f_X0_startAnew m v) = T3
      obtain ⟨zq3, mq3⟩ := T3
      refine z_aload_n C dX5_clear_31 rfl 0 rfl ?_
      refine z_get (ci := 4) (v := .ref e) (Cn := RX5) (T := TX5) (N := 3) C dX5_clear_32 (fun w h => List.mem_cons_of_mem _ (List.mem_append_left _ (List.mem_append_left _ (List.mem_append_left _ (List.mem_append_left _ (List.mem_append_left _ (List.mem_append_right _ h))))))) 0 rfl rfl 2 (by decide) (List.mem_of_getElem? (i := 4) rfl) rfl rfl ?_
      refine z_iconst (v := 0) C dX5_clear_35 (by decide) ?_
      refine z_callVv (n := 1) (isC := [3, 4, 5, 6, 7, 8, 9, 10, 11]) (isR := [0, 1, 2]) (isP := [0, 1, 2, 3, 4, 5, 6, 7, 8, 9, 10, 11]) (As := [.int 0]) (rest := []) (wr := [(o, .inr (4, [.ref h, .ref b, .ref e])), (h, .inr (3, [.ref ha, .int bm])), (ha, .inl (g.2.1, 400, .inl Bf))]) (ws2 := [(o, .inr (4, [.ref h, .ref b, .ref e])), (h, .inr (3, [.ref ha, .int bm])), (ha, .inl (g.2.1, 400, .inl Bf)), (e, .inr (2, [.ref b, .ref d, .ref c, .int rp, .int hf, .int ((f_X2_beginAt zq3 0).1), .int ((f_X2_beginAt zq3 0).2.1), .int ((f_X2_beginAt zq3 0).2.2.1), .int fp, .int fb])), (d, .inr (1, [.ref dw, .ref dy, .int ((f_X2_beginAt zq3 0).2.2.2.1), .int ((f_X2_beginAt zq3 0).2.2.2.2)])), (dw, .inl (g.2.2.1, 100, .inl Wf)), (dy, .inl (g.2.2.1, 100, .inl Yf)), (c, .inr (3, [.ref ca, .int cm])), (ca, .inl (g.2.1, 4096, .inl Cf)), (b, .inr (0, [.ref br, .int zq3])), (br, .inr (3, [.ref ba, .int mq3])), (ba, .inl (g.2.1, 4096, .inl F))]) C dX5_clear_36 (c_X2_beginAt (zl X) g e b d c dw dy ca br ba Wf Yf Cf F rp hf pl bg lo fp fb dm da cm zq3 mq3 0 (zsz_new hT3 (zsz_of2 c_1 c_2))) gX5_clear_X2_beginAt rfl ⟨rfl, rfl⟩ (by decide +kernel) (by decide) (by decide) rfl rfl rfl rfl (Nat.le_of_ble_eq_true rfl) rfl rfl ⟨rfl, rfl, rfl⟩ (by decide) rfl ?_
      generalize hT4 : (f_X2_beginAt zq3 0) = T4
      obtain ⟨plq4, bgq4, loq4, dmq4, daq4⟩ := T4
      have he : (f_X5_clear pl bg lo dm da z m v) = (plq4, bgq4, loq4, dmq4, daq4, zq3, mq3) := by simp only [f_X5_clear, if_neg c_1, if_pos c_2, hT3, hT4]
      have hx : (x_X5_clear v) = none := by simp only [x_X5_clear, if_neg c_1, if_pos c_2, hT3, hT4]
      exact hret _ _ _ dX5_clear_39 hx (by first | rw [he] | rfl)
    · skip
      have hx : (x_X5_clear v) = some zIAE := by simp only [x_X5_clear, if_neg c_1, if_neg c_2]
      exact hthr 13 _ 34 36 38 zIAE "a size is 16 .. 512" dX5_clear_13 dX5_clear_16 dX5_clear_17 dX5_clear_19 dX5_clear_22 (List.mem_of_getElem? (i := 1) rfl) (List.mem_of_getElem? (i := 2) rfl) (fun w h => List.mem_cons_of_mem _ (List.mem_append_right _ h)) zat38 (zot_c zot38) (List.mem_of_getElem? (i := 0) rfl) (by decide) hx
def f_X5_feed (Bf : Nat → Int32) (bm : Int32) (v : Int32) (pa : Int32) (pb : Int32) (pc : Int32) (pd : Int32) : Int32 × (Nat → Int32) × Int32 :=
  if v < 0 then
    (0, Bf, bm)
  else
    if v ≤ 16 then
      if (f_X3_hasRoomFor 400 bm v) = 0 then
        (0, Bf, bm)
      else
        match (f_X5_feedFrom Bf bm pa (zMin v 4)) with
        | (Bfq5, bmq5) =>
          match (f_X5_feedFrom Bfq5 bmq5 pb (zMin (v - 4) 4)) with
          | (Bfq6, bmq6) =>
            match (f_X5_feedFrom Bfq6 bmq6 pc (zMin (v - 8) 4)) with
            | (Bfq7, bmq7) =>
              match (f_X5_feedFrom Bfq7 bmq7 pd (zMin (v - 12) 4)) with
              | (Bfq8, bmq8) =>
                (bmq8, Bfq8, bmq8)
    else
      (0, Bf, bm)
def x_X5_feed (bm : Int32) (v : Int32) : Option String :=
  if v < 0 then
    some zIAE
  else
    if v ≤ 16 then
      if (f_X3_hasRoomFor 400 bm v) = 0 then
        some zISE
      else
        none
    else
      some zIAE
set_option maxHeartbeats 4000000 in
set_option maxRecDepth 100000 in
theorem c_X5_feed (l : Launch) (hl : l.stackTraces = false) (g : zG) (o h b e ha d c dw dy ca br ba : Nat) (Bf : Nat → Int32) (Wf : Nat → Int32) (Yf : Nat → Int32) (Cf : Nat → Int32) (F : Nat → Int32) (bm : Int32) (rp : Int32) (hf : Int32) (pl : Int32) (bg : Int32) (lo : Int32) (fp : Int32) (fb : Int32) (dm : Int32) (da : Int32) (cm : Int32) (z : Int32) (m : Int32) (v : Int32) (pa : Int32) (pb : Int32) (pc : Int32) (pd : Int32) (hg : zok 400 bm) : zXI l yX5_feed wsX5_feed ({ frames := 6, cells := 1, slots := 6, locals := 82 }) g [.ref o, .int v, .int pa, .int pb, .int pc, .int pd] [(o, .inr (4, [.ref h, .ref b, .ref e])), (h, .inr (3, [.ref ha, .int bm])), (ha, .inl (g.2.1, 400, .inl Bf)), (e, .inr (2, [.ref b, .ref d, .ref c, .int rp, .int hf, .int pl, .int bg, .int lo, .int fp, .int fb])), (d, .inr (1, [.ref dw, .ref dy, .int dm, .int da])), (dw, .inl (g.2.2.1, 100, .inl Wf)), (dy, .inl (g.2.2.1, 100, .inl Yf)), (c, .inr (3, [.ref ca, .int cm])), (ca, .inl (g.2.1, 4096, .inl Cf)), (b, .inr (0, [.ref br, .int z])), (br, .inr (3, [.ref ba, .int m])), (ba, .inl (g.2.1, 4096, .inl F))] (x_X5_feed bm v) ((f_X5_feed Bf bm v pa pb pc pd).1) [(o, .inr (4, [.ref h, .ref b, .ref e])), (h, .inr (3, [.ref ha, .int ((f_X5_feed Bf bm v pa pb pc pd).2.2)])), (ha, .inl (g.2.1, 400, .inl ((f_X5_feed Bf bm v pa pb pc pd).2.1))), (e, .inr (2, [.ref b, .ref d, .ref c, .int rp, .int hf, .int pl, .int bg, .int lo, .int fp, .int fb])), (d, .inr (1, [.ref dw, .ref dy, .int dm, .int da])), (dw, .inl (g.2.2.1, 100, .inl Wf)), (dy, .inl (g.2.2.1, 100, .inl Yf)), (c, .inr (3, [.ref ca, .int cm])), (ca, .inl (g.2.1, 4096, .inl Cf)), (b, .inr (0, [.ref br, .int z])), (br, .inr (3, [.ref ba, .int m])), (ba, .inl (g.2.1, 4096, .inl F))] := by
  refine zXI_of (cc := cX5_feed) (nL := 6) (ty := .int) hl rfl (by decide) rfl (Nat.le_of_ble_eq_true rfl) rfl (by decide) ?_
  intro X C hret hthr
  refine z_lv (lv' := [(0, .ref o), (1, .int v), (2, .int pa), (3, .int pb), (4, .int pc), (5, .int pd)]) [0, 1, 2, 3, 4, 5] rfl ?_
  refine z_iload_n C dX5_feed_0 rfl 1 rfl ?_
  refine z_if_lt (tgt := 10) C dX5_feed_1 (by decide) (fun c_1 => ?_) (fun c_1 => ?_)
  · skip
    have hx : (x_X5_feed bm v) = some zIAE := by simp only [x_X5_feed, if_pos c_1]
    exact hthr 10 _ 34 47 38 zIAE "many is 0 .. 16" dX5_feed_10 dX5_feed_13 dX5_feed_14 dX5_feed_16 dX5_feed_19 (List.mem_of_getElem? (i := 1) rfl) (List.mem_of_getElem? (i := 2) rfl) (fun w h => List.mem_cons_of_mem _ (List.mem_append_left _ (List.mem_append_right _ h))) zat38 (zot_c zot38) (List.mem_of_getElem? (i := 1) rfl) (by decide) hx
  · skip
    refine z_iload_n C dX5_feed_4 rfl 1 rfl ?_
    refine z_bipush (v := 16) C dX5_feed_5 (by decide) ?_
    refine z_icmp_le (tgt := 20) C dX5_feed_7 (by decide) (fun c_2 => ?_) (fun c_2 => ?_)
    · skip
      refine z_aload_n C dX5_feed_20 rfl 0 rfl ?_
      refine z_get (ci := 4) (v := .ref h) (Cn := RX5) (T := TX5) (N := 3) C dX5_feed_21 (fun w h => List.mem_cons_of_mem _ (List.mem_append_left _ (List.mem_append_left _ (List.mem_append_left _ (List.mem_append_right _ h))))) 0 rfl rfl 0 (by decide) (List.mem_of_getElem? (i := 5) rfl) rfl rfl ?_
      refine z_iload_n C dX5_feed_24 rfl 1 rfl ?_
      refine z_callVi (n := 1) (isC := [1, 2]) (isR := [0, 3, 4, 5, 6, 7, 8, 9, 10, 11]) (isP := [0, 10, 11, 1, 2, 3, 4, 5, 6, 7, 8, 9]) (As := [.int v]) (rest := []) (wr := [(o, .inr (4, [.ref h, .ref b, .ref e])), (e, .inr (2, [.ref b, .ref d, .ref c, .int rp, .int hf, .int pl, .int bg, .int lo, .int fp, .int fb])), (d, .inr (1, [.ref dw, .ref dy, .int dm, .int da])), (dw, .inl (g.2.2.1, 100, .inl Wf)), (dy, .inl (g.2.2.1, 100, .inl Yf)), (c, .inr (3, [.ref ca, .int cm])), (ca, .inl (g.2.1, 4096, .inl Cf)), (b, .inr (0, [.ref br, .int z])), (br, .inr (3, [.ref ba, .int m])), (ba, .inl (g.2.1, 4096, .inl F))]) (ws2 := [(o, .inr (4, [.ref h, .ref b, .ref e])), (h, .inr (3, [.ref ha, .int bm])), (ha, .inl (g.2.1, 400, .inl Bf)), (e, .inr (2, [.ref b, .ref d, .ref c, .int rp, .int hf, .int pl, .int bg, .int lo, .int fp, .int fb])), (d, .inr (1, [.ref dw, .ref dy, .int dm, .int da])), (dw, .inl (g.2.2.1, 100, .inl Wf)), (dy, .inl (g.2.2.1, 100, .inl Yf)), (c, .inr (3, [.ref ca, .int cm])), (ca, .inl (g.2.1, 4096, .inl Cf)), (b, .inr (0, [.ref br, .int z])), (br, .inr (3, [.ref ba, .int m])), (ba, .inl (g.2.1, 4096, .inl F))]) C dX5_feed_25 (c_X3_hasRoomFor (zl X) g h ha 400 Bf bm v) gX5_feed_X3_hasRoomFor rfl ⟨rfl, rfl⟩ (by decide +kernel) (by decide) (by decide) rfl rfl rfl rfl (Nat.le_of_ble_eq_true rfl) rfl rfl ⟨rfl, rfl, rfl⟩ (by decide) rfl ?_
      generalize hT3 : (f_X3_hasRoomFor 400 bm v) = rq3
      refine z_if_ne (tgt := 41) C dX5_feed_28 (by decide) (fun c_4 => ?_) (fun c_4 => ?_)
      · skip
        refine z_aload_n C dX5_feed_41 rfl 0 rfl ?_
        refine z_iload_n C dX5_feed_42 rfl 2 rfl ?_
        refine z_iload_n C dX5_feed_43 rfl 1 rfl ?_
        refine z_iconst (v := 4) C dX5_feed_44 (by decide) ?_
        refine z_min C dX5_feed_45 (List.mem_of_getElem? (i := 6) rfl) (List.mem_of_getElem? (i := 7) rfl) (List.mem_of_getElem? (i := 8) rfl) (List.mem_of_getElem? (i := 9) rfl) (by decide) (Nat.le_of_ble_eq_true rfl) (by decide) (by decide) ?_
        refine z_callVv (n := 2) (isC := [0, 1, 2, 3, 4, 5, 6, 7, 8, 9, 10, 11]) (isR := []) (isP := [0, 1, 2, 3, 4, 5, 6, 7, 8, 9, 10, 11]) (As := [.int pa, .int (zMin v 4)]) (rest := []) (wr := []) (ws2 := [(o, .inr (4, [.ref h, .ref b, .ref e])), (h, .inr (3, [.ref ha, .int ((f_X5_feedFrom Bf bm pa (zMin v 4)).2)])), (ha, .inl (g.2.1, 400, .inl ((f_X5_feedFrom Bf bm pa (zMin v 4)).1))), (e, .inr (2, [.ref b, .ref d, .ref c, .int rp, .int hf, .int pl, .int bg, .int lo, .int fp, .int fb])), (d, .inr (1, [.ref dw, .ref dy, .int dm, .int da])), (dw, .inl (g.2.2.1, 100, .inl Wf)), (dy, .inl (g.2.2.1, 100, .inl Yf)), (c, .inr (3, [.ref ca, .int cm])), (ca, .inl (g.2.1, 4096, .inl Cf)), (b, .inr (0, [.ref br, .int z])), (br, .inr (3, [.ref ba, .int m])), (ba, .inl (g.2.1, 4096, .inl F))]) C dX5_feed_48 (c_X5_feedFrom (zl X) g o h b e ha d c dw dy ca br ba Bf Wf Yf Cf F bm rp hf pl bg lo fp fb dm da cm z m pa (zMin v 4) hg) gX5_feed_X5_feedFrom rfl ⟨rfl, rfl⟩ (by decide +kernel) (by decide) (by decide) rfl rfl rfl rfl (Nat.le_of_ble_eq_true rfl) rfl rfl ⟨rfl, rfl, rfl⟩ (by decide) rfl ?_
        generalize hT5 : (f_X5_feedFrom Bf bm pa (zMin v 4)) = T5
        obtain ⟨Bfq5, bmq5⟩ := T5
        have k5_bm : zok 400 bmq5 := zok_X5_feedFrom hg hT5
        refine z_aload_n C dX5_feed_51 rfl 0 rfl ?_
        refine z_iload_n C dX5_feed_52 rfl 3 rfl ?_
        refine z_iload_n C dX5_feed_53 rfl 1 rfl ?_
        refine z_iconst (v := 4) C dX5_feed_54 (by decide) ?_
        refine z_isub C dX5_feed_55 ?_
        refine z_iconst (v := 4) C dX5_feed_56 (by decide) ?_
        refine z_min C dX5_feed_57 (List.mem_of_getElem? (i := 6) rfl) (List.mem_of_getElem? (i := 7) rfl) (List.mem_of_getElem? (i := 8) rfl) (List.mem_of_getElem? (i := 9) rfl) (by decide) (Nat.le_of_ble_eq_true rfl) (by decide) (by decide) ?_
        refine z_callVv (n := 2) (isC := [0, 1, 2, 3, 4, 5, 6, 7, 8, 9, 10, 11]) (isR := []) (isP := [0, 1, 2, 3, 4, 5, 6, 7, 8, 9, 10, 11]) (As := [.int pb, .int (zMin (v - 4) 4)]) (rest := []) (wr := []) (ws2 := [(o, .inr (4, [.ref h, .ref b, .ref e])), (h, .inr (3, [.ref ha, .int ((f_X5_feedFrom Bfq5 bmq5 pb (zMin (v - 4) 4)).2)])), (ha, .inl (g.2.1, 400, .inl ((f_X5_feedFrom Bfq5 bmq5 pb (zMin (v - 4) 4)).1))), (e, .inr (2, [.ref b, .ref d, .ref c, .int rp, .int hf, .int pl, .int bg, .int lo, .int fp, .int fb])), (d, .inr (1, [.ref dw, .ref dy, .int dm, .int da])), (dw, .inl (g.2.2.1, 100, .inl Wf)), (dy, .inl (g.2.2.1, 100, .inl Yf)), (c, .inr (3, [.ref ca, .int cm])), (ca, .inl (g.2.1, 4096, .inl Cf)), (b, .inr (0, [.ref br, .int z])), (br, .inr (3, [.ref ba, .int m])), (ba, .inl (g.2.1, 4096, .inl F))]) C dX5_feed_60 (c_X5_feedFrom (zl X) g o h b e ha d c dw dy ca br ba Bfq5 Wf Yf Cf F bmq5 rp hf pl bg lo fp fb dm da cm z m pb (zMin (v - 4) 4) k5_bm) gX5_feed_X5_feedFrom rfl ⟨rfl, rfl⟩ (by decide +kernel) (by decide) (by decide) rfl rfl rfl rfl (Nat.le_of_ble_eq_true rfl) rfl rfl ⟨rfl, rfl, rfl⟩ (by decide) rfl ?_
        generalize hT6 : (f_X5_feedFrom Bfq5 bmq5 pb (zMin (v - 4) 4)) = T6
        obtain ⟨Bfq6, bmq6⟩ := T6
        have k6_bm : zok 400 bmq6 := zok_X5_feedFrom k5_bm hT6
        refine z_aload_n C dX5_feed_63 rfl 0 rfl ?_
        refine z_iload C dX5_feed_64 4 rfl ?_
        refine z_iload_n C dX5_feed_66 rfl 1 rfl ?_
        refine z_bipush (v := 8) C dX5_feed_67 (by decide) ?_
        refine z_isub C dX5_feed_69 ?_
        refine z_iconst (v := 4) C dX5_feed_70 (by decide) ?_
        refine z_min C dX5_feed_71 (List.mem_of_getElem? (i := 6) rfl) (List.mem_of_getElem? (i := 7) rfl) (List.mem_of_getElem? (i := 8) rfl) (List.mem_of_getElem? (i := 9) rfl) (by decide) (Nat.le_of_ble_eq_true rfl) (by decide) (by decide) ?_
        refine z_callVv (n := 2) (isC := [0, 1, 2, 3, 4, 5, 6, 7, 8, 9, 10, 11]) (isR := []) (isP := [0, 1, 2, 3, 4, 5, 6, 7, 8, 9, 10, 11]) (As := [.int pc, .int (zMin (v - 8) 4)]) (rest := []) (wr := []) (ws2 := [(o, .inr (4, [.ref h, .ref b, .ref e])), (h, .inr (3, [.ref ha, .int ((f_X5_feedFrom Bfq6 bmq6 pc (zMin (v - 8) 4)).2)])), (ha, .inl (g.2.1, 400, .inl ((f_X5_feedFrom Bfq6 bmq6 pc (zMin (v - 8) 4)).1))), (e, .inr (2, [.ref b, .ref d, .ref c, .int rp, .int hf, .int pl, .int bg, .int lo, .int fp, .int fb])), (d, .inr (1, [.ref dw, .ref dy, .int dm, .int da])), (dw, .inl (g.2.2.1, 100, .inl Wf)), (dy, .inl (g.2.2.1, 100, .inl Yf)), (c, .inr (3, [.ref ca, .int cm])), (ca, .inl (g.2.1, 4096, .inl Cf)), (b, .inr (0, [.ref br, .int z])), (br, .inr (3, [.ref ba, .int m])), (ba, .inl (g.2.1, 4096, .inl F))]) C dX5_feed_74 (c_X5_feedFrom (zl X) g o h b e ha d c dw dy ca br ba Bfq6 Wf Yf Cf F bmq6 rp hf pl bg lo fp fb dm da cm z m pc (zMin (v - 8) 4) k6_bm) gX5_feed_X5_feedFrom rfl ⟨rfl, rfl⟩ (by decide +kernel) (by decide) (by decide) rfl rfl rfl rfl (Nat.le_of_ble_eq_true rfl) rfl rfl ⟨rfl, rfl, rfl⟩ (by decide) rfl ?_
        generalize hT7 : (f_X5_feedFrom Bfq6 bmq6 pc (zMin (v - 8) 4)) = T7
        obtain ⟨Bfq7, bmq7⟩ := T7
        have k7_bm : zok 400 bmq7 := zok_X5_feedFrom k6_bm hT7
        refine z_aload_n C dX5_feed_77 rfl 0 rfl ?_
        refine z_iload C dX5_feed_78 5 rfl ?_
        refine z_iload_n C dX5_feed_80 rfl 1 rfl ?_
        refine z_bipush (v := 12) C dX5_feed_81 (by decide) ?_
        refine z_isub C dX5_feed_83 ?_
        refine z_iconst (v := 4) C dX5_feed_84 (by decide) ?_
        refine z_min C dX5_feed_85 (List.mem_of_getElem? (i := 6) rfl) (List.mem_of_getElem? (i := 7) rfl) (List.mem_of_getElem? (i := 8) rfl) (List.mem_of_getElem? (i := 9) rfl) (by decide) (Nat.le_of_ble_eq_true rfl) (by decide) (by decide) ?_
        refine z_callVv (n := 2) (isC := [0, 1, 2, 3, 4, 5, 6, 7, 8, 9, 10, 11]) (isR := []) (isP := [0, 1, 2, 3, 4, 5, 6, 7, 8, 9, 10, 11]) (As := [.int pd, .int (zMin (v - 12) 4)]) (rest := []) (wr := []) (ws2 := [(o, .inr (4, [.ref h, .ref b, .ref e])), (h, .inr (3, [.ref ha, .int ((f_X5_feedFrom Bfq7 bmq7 pd (zMin (v - 12) 4)).2)])), (ha, .inl (g.2.1, 400, .inl ((f_X5_feedFrom Bfq7 bmq7 pd (zMin (v - 12) 4)).1))), (e, .inr (2, [.ref b, .ref d, .ref c, .int rp, .int hf, .int pl, .int bg, .int lo, .int fp, .int fb])), (d, .inr (1, [.ref dw, .ref dy, .int dm, .int da])), (dw, .inl (g.2.2.1, 100, .inl Wf)), (dy, .inl (g.2.2.1, 100, .inl Yf)), (c, .inr (3, [.ref ca, .int cm])), (ca, .inl (g.2.1, 4096, .inl Cf)), (b, .inr (0, [.ref br, .int z])), (br, .inr (3, [.ref ba, .int m])), (ba, .inl (g.2.1, 4096, .inl F))]) C dX5_feed_88 (c_X5_feedFrom (zl X) g o h b e ha d c dw dy ca br ba Bfq7 Wf Yf Cf F bmq7 rp hf pl bg lo fp fb dm da cm z m pd (zMin (v - 12) 4) k7_bm) gX5_feed_X5_feedFrom rfl ⟨rfl, rfl⟩ (by decide +kernel) (by decide) (by decide) rfl rfl rfl rfl (Nat.le_of_ble_eq_true rfl) rfl rfl ⟨rfl, rfl, rfl⟩ (by decide) rfl ?_
        generalize hT8 : (f_X5_feedFrom Bfq7 bmq7 pd (zMin (v - 12) 4)) = T8
        obtain ⟨Bfq8, bmq8⟩ := T8
        have k8_bm : zok 400 bmq8 := zok_X5_feedFrom k7_bm hT8
        refine z_aload_n C dX5_feed_91 rfl 0 rfl ?_
        refine z_get (ci := 4) (v := .ref h) (Cn := RX5) (T := TX5) (N := 3) C dX5_feed_92 (fun w h => List.mem_cons_of_mem _ (List.mem_append_left _ (List.mem_append_left _ (List.mem_append_left _ (List.mem_append_right _ h))))) 0 rfl rfl 0 (by decide) (List.mem_of_getElem? (i := 5) rfl) rfl rfl ?_
        refine z_callVi (n := 0) (isC := [1, 2]) (isR := [0, 3, 4, 5, 6, 7, 8, 9, 10, 11]) (isP := [0, 10, 11, 1, 2, 3, 4, 5, 6, 7, 8, 9]) (As := []) (rest := []) (wr := [(o, .inr (4, [.ref h, .ref b, .ref e])), (e, .inr (2, [.ref b, .ref d, .ref c, .int rp, .int hf, .int pl, .int bg, .int lo, .int fp, .int fb])), (d, .inr (1, [.ref dw, .ref dy, .int dm, .int da])), (dw, .inl (g.2.2.1, 100, .inl Wf)), (dy, .inl (g.2.2.1, 100, .inl Yf)), (c, .inr (3, [.ref ca, .int cm])), (ca, .inl (g.2.1, 4096, .inl Cf)), (b, .inr (0, [.ref br, .int z])), (br, .inr (3, [.ref ba, .int m])), (ba, .inl (g.2.1, 4096, .inl F))]) (ws2 := [(o, .inr (4, [.ref h, .ref b, .ref e])), (h, .inr (3, [.ref ha, .int bmq8])), (ha, .inl (g.2.1, 400, .inl Bfq8)), (e, .inr (2, [.ref b, .ref d, .ref c, .int rp, .int hf, .int pl, .int bg, .int lo, .int fp, .int fb])), (d, .inr (1, [.ref dw, .ref dy, .int dm, .int da])), (dw, .inl (g.2.2.1, 100, .inl Wf)), (dy, .inl (g.2.2.1, 100, .inl Yf)), (c, .inr (3, [.ref ca, .int cm])), (ca, .inl (g.2.1, 4096, .inl Cf)), (b, .inr (0, [.ref br, .int z])), (br, .inr (3, [.ref ba, .int m])), (ba, .inl (g.2.1, 4096, .inl F))]) C dX5_feed_95 (c_X3_many (zl X) g h ha 400 Bfq8 bmq8) gX5_feed_X3_many rfl ⟨rfl, rfl⟩ (by decide +kernel) (by decide) (by decide) rfl rfl rfl rfl (Nat.le_of_ble_eq_true rfl) rfl rfl ⟨rfl, rfl, rfl⟩ (by decide) rfl ?_
        have he : (f_X5_feed Bf bm v pa pb pc pd) = (bmq8, Bfq8, bmq8) := by simp only [f_X5_feed, if_neg c_1, if_pos c_2, hT3, if_neg c_4, hT5, hT6, hT7, hT8]
        have hx : (x_X5_feed bm v) = none := by simp only [x_X5_feed, if_neg c_1, if_pos c_2, hT3, if_neg c_4, hT5, hT6, hT7, hT8]
        exact hret _ _ _ _ dX5_feed_98 hx (by first | rw [he] | rfl) (by first | rw [he] | rfl)
      · skip
        have hx : (x_X5_feed bm v) = some zISE := by simp only [x_X5_feed, if_neg c_1, if_pos c_2, hT3, if_pos c_4]
        exact hthr 31 _ 53 55 57 zISE "the buffer has at most 400 bytes" dX5_feed_31 dX5_feed_34 dX5_feed_35 dX5_feed_37 dX5_feed_40 (List.mem_of_getElem? (i := 3) rfl) (List.mem_of_getElem? (i := 4) rfl) (fun w h => List.mem_cons_of_mem _ (List.mem_append_right _ h)) zat57 (zot_c zot57) (List.mem_of_getElem? (i := 2) rfl) (by decide) hx
    · skip
      have hx : (x_X5_feed bm v) = some zIAE := by simp only [x_X5_feed, if_neg c_1, if_neg c_2]
      exact hthr 10 _ 34 47 38 zIAE "many is 0 .. 16" dX5_feed_10 dX5_feed_13 dX5_feed_14 dX5_feed_16 dX5_feed_19 (List.mem_of_getElem? (i := 1) rfl) (List.mem_of_getElem? (i := 2) rfl) (fun w h => List.mem_cons_of_mem _ (List.mem_append_left _ (List.mem_append_right _ h))) zat38 (zot_c zot38) (List.mem_of_getElem? (i := 1) rfl) (by decide) hx
def f_X5_check (Bf : Nat → Int32) (bm : Int32) (v : Int32) : Int32 :=
  if (f_X5_isByte v) = 0 then
    0
  else
    (f_X4_of Bf bm v 0 bm)
def x_X5_check (v : Int32) : Option String :=
  if (f_X5_isByte v) = 0 then
    some zIAE
  else
    none
set_option maxHeartbeats 4000000 in
set_option maxRecDepth 100000 in
theorem c_X5_check (l : Launch) (hl : l.stackTraces = false) (g : zG) (o h b e ha d c dw dy ca br ba : Nat) (Bf : Nat → Int32) (Wf : Nat → Int32) (Yf : Nat → Int32) (Cf : Nat → Int32) (F : Nat → Int32) (bm : Int32) (rp : Int32) (hf : Int32) (pl : Int32) (bg : Int32) (lo : Int32) (fp : Int32) (fb : Int32) (dm : Int32) (da : Int32) (cm : Int32) (z : Int32) (m : Int32) (v : Int32) (hg : zok 400 bm) : zXI l yX5_check wsX5_check ({ frames := 6, cells := 1, slots := 6, locals := 82 }) g [.ref o, .int v] [(o, .inr (4, [.ref h, .ref b, .ref e])), (h, .inr (3, [.ref ha, .int bm])), (ha, .inl (g.2.1, 400, .inl Bf)), (e, .inr (2, [.ref b, .ref d, .ref c, .int rp, .int hf, .int pl, .int bg, .int lo, .int fp, .int fb])), (d, .inr (1, [.ref dw, .ref dy, .int dm, .int da])), (dw, .inl (g.2.2.1, 100, .inl Wf)), (dy, .inl (g.2.2.1, 100, .inl Yf)), (c, .inr (3, [.ref ca, .int cm])), (ca, .inl (g.2.1, 4096, .inl Cf)), (b, .inr (0, [.ref br, .int z])), (br, .inr (3, [.ref ba, .int m])), (ba, .inl (g.2.1, 4096, .inl F))] (x_X5_check v) (f_X5_check Bf bm v) [(o, .inr (4, [.ref h, .ref b, .ref e])), (h, .inr (3, [.ref ha, .int bm])), (ha, .inl (g.2.1, 400, .inl Bf)), (e, .inr (2, [.ref b, .ref d, .ref c, .int rp, .int hf, .int pl, .int bg, .int lo, .int fp, .int fb])), (d, .inr (1, [.ref dw, .ref dy, .int dm, .int da])), (dw, .inl (g.2.2.1, 100, .inl Wf)), (dy, .inl (g.2.2.1, 100, .inl Yf)), (c, .inr (3, [.ref ca, .int cm])), (ca, .inl (g.2.1, 4096, .inl Cf)), (b, .inr (0, [.ref br, .int z])), (br, .inr (3, [.ref ba, .int m])), (ba, .inl (g.2.1, 4096, .inl F))] := by
  refine zXI_of (cc := cX5_check) (nL := 2) (ty := .int) hl rfl (by decide) rfl (Nat.le_of_ble_eq_true rfl) rfl (by decide) ?_
  intro X C hret hthr
  refine z_lv (lv' := [(0, .ref o), (1, .int v)]) [0, 1] rfl ?_
  refine z_iload_n C dX5_check_0 rfl 1 rfl ?_
  refine z_callSi (n := 1) (isC := []) (isR := [0, 1, 2, 3, 4, 5, 6, 7, 8, 9, 10, 11]) (isP := [0, 1, 2, 3, 4, 5, 6, 7, 8, 9, 10, 11]) (As := [.int v]) (rest := []) (wr := [(o, .inr (4, [.ref h, .ref b, .ref e])), (h, .inr (3, [.ref ha, .int bm])), (ha, .inl (g.2.1, 400, .inl Bf)), (e, .inr (2, [.ref b, .ref d, .ref c, .int rp, .int hf, .int pl, .int bg, .int lo, .int fp, .int fb])), (d, .inr (1, [.ref dw, .ref dy, .int dm, .int da])), (dw, .inl (g.2.2.1, 100, .inl Wf)), (dy, .inl (g.2.2.1, 100, .inl Yf)), (c, .inr (3, [.ref ca, .int cm])), (ca, .inl (g.2.1, 4096, .inl Cf)), (b, .inr (0, [.ref br, .int z])), (br, .inr (3, [.ref ba, .int m])), (ba, .inl (g.2.1, 4096, .inl F))]) (ws2 := [(o, .inr (4, [.ref h, .ref b, .ref e])), (h, .inr (3, [.ref ha, .int bm])), (ha, .inl (g.2.1, 400, .inl Bf)), (e, .inr (2, [.ref b, .ref d, .ref c, .int rp, .int hf, .int pl, .int bg, .int lo, .int fp, .int fb])), (d, .inr (1, [.ref dw, .ref dy, .int dm, .int da])), (dw, .inl (g.2.2.1, 100, .inl Wf)), (dy, .inl (g.2.2.1, 100, .inl Yf)), (c, .inr (3, [.ref ca, .int cm])), (ca, .inl (g.2.1, 4096, .inl Cf)), (b, .inr (0, [.ref br, .int z])), (br, .inr (3, [.ref ba, .int m])), (ba, .inl (g.2.1, 4096, .inl F))]) C dX5_check_1 (c_X5_isByte (zl X) g v) gX5_check_X5_isByte rfl ⟨rfl, rfl⟩ (by decide +kernel) (by decide) (by decide) rfl rfl (Nat.le_of_ble_eq_true rfl) rfl rfl ⟨rfl, rfl, rfl⟩ (by decide) rfl ?_
  generalize hT1 : (f_X5_isByte v) = rq1
  refine z_if_ne (tgt := 17) C dX5_check_4 (by decide) (fun c_2 => ?_) (fun c_2 => ?_)
  · skip
    refine z_iload_n C dX5_check_17 rfl 1 rfl ?_
    refine z_aload_n C dX5_check_18 rfl 0 rfl ?_
    refine z_get (ci := 4) (v := .ref h) (Cn := RX5) (T := TX5) (N := 3) C dX5_check_19 (fun w h => List.mem_cons_of_mem _ (List.mem_append_left _ (List.mem_append_left _ (List.mem_append_right _ h)))) 0 rfl rfl 0 (by decide) (List.mem_of_getElem? (i := 3) rfl) rfl rfl ?_
    refine z_iconst (v := 0) C dX5_check_22 (by decide) ?_
    refine z_aload_n C dX5_check_23 rfl 0 rfl ?_
    refine z_get (ci := 4) (v := .ref h) (Cn := RX5) (T := TX5) (N := 3) C dX5_check_24 (fun w h => List.mem_cons_of_mem _ (List.mem_append_left _ (List.mem_append_left _ (List.mem_append_right _ h)))) 0 rfl rfl 0 (by decide) (List.mem_of_getElem? (i := 3) rfl) rfl rfl ?_
    refine z_callVi (n := 0) (isC := [1, 2]) (isR := [0, 3, 4, 5, 6, 7, 8, 9, 10, 11]) (isP := [0, 10, 11, 1, 2, 3, 4, 5, 6, 7, 8, 9]) (As := []) (rest := [.int 0, .ref h, .int v]) (wr := [(o, .inr (4, [.ref h, .ref b, .ref e])), (e, .inr (2, [.ref b, .ref d, .ref c, .int rp, .int hf, .int pl, .int bg, .int lo, .int fp, .int fb])), (d, .inr (1, [.ref dw, .ref dy, .int dm, .int da])), (dw, .inl (g.2.2.1, 100, .inl Wf)), (dy, .inl (g.2.2.1, 100, .inl Yf)), (c, .inr (3, [.ref ca, .int cm])), (ca, .inl (g.2.1, 4096, .inl Cf)), (b, .inr (0, [.ref br, .int z])), (br, .inr (3, [.ref ba, .int m])), (ba, .inl (g.2.1, 4096, .inl F))]) (ws2 := [(o, .inr (4, [.ref h, .ref b, .ref e])), (h, .inr (3, [.ref ha, .int bm])), (ha, .inl (g.2.1, 400, .inl Bf)), (e, .inr (2, [.ref b, .ref d, .ref c, .int rp, .int hf, .int pl, .int bg, .int lo, .int fp, .int fb])), (d, .inr (1, [.ref dw, .ref dy, .int dm, .int da])), (dw, .inl (g.2.2.1, 100, .inl Wf)), (dy, .inl (g.2.2.1, 100, .inl Yf)), (c, .inr (3, [.ref ca, .int cm])), (ca, .inl (g.2.1, 4096, .inl Cf)), (b, .inr (0, [.ref br, .int z])), (br, .inr (3, [.ref ba, .int m])), (ba, .inl (g.2.1, 4096, .inl F))]) C dX5_check_27 (c_X3_many (zl X) g h ha 400 Bf bm) gX5_check_X3_many rfl ⟨rfl, rfl⟩ (by decide +kernel) (by decide) (by decide) rfl rfl rfl rfl (Nat.le_of_ble_eq_true rfl) rfl rfl ⟨rfl, rfl, rfl⟩ (by decide) rfl ?_
    refine z_callSi (n := 4) (isC := [1, 2]) (isR := [0, 3, 4, 5, 6, 7, 8, 9, 10, 11]) (isP := [0, 10, 11, 1, 2, 3, 4, 5, 6, 7, 8, 9]) (As := [.int v, .ref h, .int 0, .int bm]) (rest := []) (wr := [(o, .inr (4, [.ref h, .ref b, .ref e])), (e, .inr (2, [.ref b, .ref d, .ref c, .int rp, .int hf, .int pl, .int bg, .int lo, .int fp, .int fb])), (d, .inr (1, [.ref dw, .ref dy, .int dm, .int da])), (dw, .inl (g.2.2.1, 100, .inl Wf)), (dy, .inl (g.2.2.1, 100, .inl Yf)), (c, .inr (3, [.ref ca, .int cm])), (ca, .inl (g.2.1, 4096, .inl Cf)), (b, .inr (0, [.ref br, .int z])), (br, .inr (3, [.ref ba, .int m])), (ba, .inl (g.2.1, 4096, .inl F))]) (ws2 := [(o, .inr (4, [.ref h, .ref b, .ref e])), (h, .inr (3, [.ref ha, .int bm])), (ha, .inl (g.2.1, 400, .inl Bf)), (e, .inr (2, [.ref b, .ref d, .ref c, .int rp, .int hf, .int pl, .int bg, .int lo, .int fp, .int fb])), (d, .inr (1, [.ref dw, .ref dy, .int dm, .int da])), (dw, .inl (g.2.2.1, 100, .inl Wf)), (dy, .inl (g.2.2.1, 100, .inl Yf)), (c, .inr (3, [.ref ca, .int cm])), (ca, .inl (g.2.1, 4096, .inl Cf)), (b, .inr (0, [.ref br, .int z])), (br, .inr (3, [.ref ba, .int m])), (ba, .inl (g.2.1, 4096, .inl F))]) C dX5_check_30 (c_X4_of (zl X) g h ha 400 Bf bm v 0 bm hg) gX5_check_X4_of rfl ⟨rfl, rfl⟩ (by decide +kernel) (by decide) (by decide) rfl rfl (Nat.le_of_ble_eq_true rfl) rfl rfl ⟨rfl, rfl, rfl⟩ (by decide) rfl ?_
    generalize hT4 : (f_X4_of Bf bm v 0 bm) = rq4
    have he : (f_X5_check Bf bm v) = rq4 := by simp only [f_X5_check, hT1, if_neg c_2, hT4]
    have hx : (x_X5_check v) = none := by simp only [x_X5_check, hT1, if_neg c_2, hT4]
    exact hret _ _ _ _ dX5_check_33 hx (by first | rw [he] | rfl) (by first | rw [he] | rfl)
  · skip
    have hx : (x_X5_check v) = some zIAE := by simp only [x_X5_check, hT1, if_pos c_2]
    exact hthr 7 _ 34 81 38 zIAE "a kind is 0 .. 255" dX5_check_7 dX5_check_10 dX5_check_11 dX5_check_13 dX5_check_16 (List.mem_of_getElem? (i := 1) rfl) (List.mem_of_getElem? (i := 2) rfl) (fun w h => List.mem_cons_of_mem _ (List.mem_append_right _ h)) zat38 (zot_c zot38) (List.mem_of_getElem? (i := 3) rfl) (by decide) hx
def f_X5_raw (Bf : Nat → Int32) (F : Nat → Int32) (bm : Int32) (m : Int32) (v : Int32) : Int32 × (Nat → Int32) × Int32 :=
  if (f_X5_isByte v) = 0 then
    (0, F, m)
  else
    match (f_X0_addFragment F Bf m bm v 0 bm) with
    | (rq4, Fq4, mq4) =>
      if rq4 = 0 then
        ((-2), Fq4, mq4)
      else
        (mq4, Fq4, mq4)
def x_X5_raw (v : Int32) : Option String :=
  if (f_X5_isByte v) = 0 then
    some zIAE
  else
    none
set_option maxHeartbeats 4000000 in
set_option maxRecDepth 100000 in
theorem c_X5_raw (l : Launch) (hl : l.stackTraces = false) (g : zG) (o h b e ha d c dw dy ca br ba : Nat) (Bf : Nat → Int32) (Wf : Nat → Int32) (Yf : Nat → Int32) (Cf : Nat → Int32) (F : Nat → Int32) (bm : Int32) (rp : Int32) (hf : Int32) (pl : Int32) (bg : Int32) (lo : Int32) (fp : Int32) (fb : Int32) (dm : Int32) (da : Int32) (cm : Int32) (z : Int32) (m : Int32) (v : Int32) (hm : zok 4096 m) (hg : zok 400 bm) : zXI l yX5_raw wsX5_raw ({ frames := 6, cells := 1, slots := 6, locals := 82 }) g [.ref o, .int v] [(o, .inr (4, [.ref h, .ref b, .ref e])), (h, .inr (3, [.ref ha, .int bm])), (ha, .inl (g.2.1, 400, .inl Bf)), (e, .inr (2, [.ref b, .ref d, .ref c, .int rp, .int hf, .int pl, .int bg, .int lo, .int fp, .int fb])), (d, .inr (1, [.ref dw, .ref dy, .int dm, .int da])), (dw, .inl (g.2.2.1, 100, .inl Wf)), (dy, .inl (g.2.2.1, 100, .inl Yf)), (c, .inr (3, [.ref ca, .int cm])), (ca, .inl (g.2.1, 4096, .inl Cf)), (b, .inr (0, [.ref br, .int z])), (br, .inr (3, [.ref ba, .int m])), (ba, .inl (g.2.1, 4096, .inl F))] (x_X5_raw v) ((f_X5_raw Bf F bm m v).1) [(o, .inr (4, [.ref h, .ref b, .ref e])), (h, .inr (3, [.ref ha, .int bm])), (ha, .inl (g.2.1, 400, .inl Bf)), (e, .inr (2, [.ref b, .ref d, .ref c, .int rp, .int hf, .int pl, .int bg, .int lo, .int fp, .int fb])), (d, .inr (1, [.ref dw, .ref dy, .int dm, .int da])), (dw, .inl (g.2.2.1, 100, .inl Wf)), (dy, .inl (g.2.2.1, 100, .inl Yf)), (c, .inr (3, [.ref ca, .int cm])), (ca, .inl (g.2.1, 4096, .inl Cf)), (b, .inr (0, [.ref br, .int z])), (br, .inr (3, [.ref ba, .int ((f_X5_raw Bf F bm m v).2.2)])), (ba, .inl (g.2.1, 4096, .inl ((f_X5_raw Bf F bm m v).2.1)))] := by
  refine zXI_of (cc := cX5_raw) (nL := 2) (ty := .int) hl rfl (by decide) rfl (Nat.le_of_ble_eq_true rfl) rfl (by decide) ?_
  intro X C hret hthr
  refine z_lv (lv' := [(0, .ref o), (1, .int v)]) [0, 1] rfl ?_
  refine z_iload_n C dX5_raw_0 rfl 1 rfl ?_
  refine z_callSi (n := 1) (isC := []) (isR := [0, 1, 2, 3, 4, 5, 6, 7, 8, 9, 10, 11]) (isP := [0, 1, 2, 3, 4, 5, 6, 7, 8, 9, 10, 11]) (As := [.int v]) (rest := []) (wr := [(o, .inr (4, [.ref h, .ref b, .ref e])), (h, .inr (3, [.ref ha, .int bm])), (ha, .inl (g.2.1, 400, .inl Bf)), (e, .inr (2, [.ref b, .ref d, .ref c, .int rp, .int hf, .int pl, .int bg, .int lo, .int fp, .int fb])), (d, .inr (1, [.ref dw, .ref dy, .int dm, .int da])), (dw, .inl (g.2.2.1, 100, .inl Wf)), (dy, .inl (g.2.2.1, 100, .inl Yf)), (c, .inr (3, [.ref ca, .int cm])), (ca, .inl (g.2.1, 4096, .inl Cf)), (b, .inr (0, [.ref br, .int z])), (br, .inr (3, [.ref ba, .int m])), (ba, .inl (g.2.1, 4096, .inl F))]) (ws2 := [(o, .inr (4, [.ref h, .ref b, .ref e])), (h, .inr (3, [.ref ha, .int bm])), (ha, .inl (g.2.1, 400, .inl Bf)), (e, .inr (2, [.ref b, .ref d, .ref c, .int rp, .int hf, .int pl, .int bg, .int lo, .int fp, .int fb])), (d, .inr (1, [.ref dw, .ref dy, .int dm, .int da])), (dw, .inl (g.2.2.1, 100, .inl Wf)), (dy, .inl (g.2.2.1, 100, .inl Yf)), (c, .inr (3, [.ref ca, .int cm])), (ca, .inl (g.2.1, 4096, .inl Cf)), (b, .inr (0, [.ref br, .int z])), (br, .inr (3, [.ref ba, .int m])), (ba, .inl (g.2.1, 4096, .inl F))]) C dX5_raw_1 (c_X5_isByte (zl X) g v) gX5_raw_X5_isByte rfl ⟨rfl, rfl⟩ (by decide +kernel) (by decide) (by decide) rfl rfl (Nat.le_of_ble_eq_true rfl) rfl rfl ⟨rfl, rfl, rfl⟩ (by decide) rfl ?_
  generalize hT1 : (f_X5_isByte v) = rq1
  refine z_if_ne (tgt := 17) C dX5_raw_4 (by decide) (fun c_2 => ?_) (fun c_2 => ?_)
  · skip
    refine z_aload_n C dX5_raw_17 rfl 0 rfl ?_
    refine z_get (ci := 4) (v := .ref b) (Cn := RX5) (T := TX5) (N := 3) C dX5_raw_18 (fun w h => List.mem_cons_of_mem _ (List.mem_append_left _ (List.mem_append_left _ (List.mem_append_left _ (List.mem_append_right _ h))))) 0 rfl rfl 1 (by decide) (List.mem_of_getElem? (i := 3) rfl) rfl rfl ?_
    refine z_iload_n C dX5_raw_21 rfl 1 rfl ?_
    refine z_aload_n C dX5_raw_22 rfl 0 rfl ?_
    refine z_get (ci := 4) (v := .ref h) (Cn := RX5) (T := TX5) (N := 3) C dX5_raw_23 (fun w h => List.mem_cons_of_mem _ (List.mem_append_left _ (List.mem_append_left _ (List.mem_append_left _ (List.mem_append_right _ h))))) 0 rfl rfl 0 (by decide) (List.mem_of_getElem? (i := 4) rfl) rfl rfl ?_
    refine z_iconst (v := 0) C dX5_raw_26 (by decide) ?_
    refine z_aload_n C dX5_raw_27 rfl 0 rfl ?_
    refine z_get (ci := 4) (v := .ref h) (Cn := RX5) (T := TX5) (N := 3) C dX5_raw_28 (fun w h => List.mem_cons_of_mem _ (List.mem_append_left _ (List.mem_append_left _ (List.mem_append_left _ (List.mem_append_right _ h))))) 0 rfl rfl 0 (by decide) (List.mem_of_getElem? (i := 4) rfl) rfl rfl ?_
    refine z_callVi (n := 0) (isC := [1, 2]) (isR := [0, 3, 4, 5, 6, 7, 8, 9, 10, 11]) (isP := [0, 10, 11, 1, 2, 3, 4, 5, 6, 7, 8, 9]) (As := []) (rest := [.int 0, .ref h, .int v, .ref b]) (wr := [(o, .inr (4, [.ref h, .ref b, .ref e])), (e, .inr (2, [.ref b, .ref d, .ref c, .int rp, .int hf, .int pl, .int bg, .int lo, .int fp, .int fb])), (d, .inr (1, [.ref dw, .ref dy, .int dm, .int da])), (dw, .inl (g.2.2.1, 100, .inl Wf)), (dy, .inl (g.2.2.1, 100, .inl Yf)), (c, .inr (3, [.ref ca, .int cm])), (ca, .inl (g.2.1, 4096, .inl Cf)), (b, .inr (0, [.ref br, .int z])), (br, .inr (3, [.ref ba, .int m])), (ba, .inl (g.2.1, 4096, .inl F))]) (ws2 := [(o, .inr (4, [.ref h, .ref b, .ref e])), (h, .inr (3, [.ref ha, .int bm])), (ha, .inl (g.2.1, 400, .inl Bf)), (e, .inr (2, [.ref b, .ref d, .ref c, .int rp, .int hf, .int pl, .int bg, .int lo, .int fp, .int fb])), (d, .inr (1, [.ref dw, .ref dy, .int dm, .int da])), (dw, .inl (g.2.2.1, 100, .inl Wf)), (dy, .inl (g.2.2.1, 100, .inl Yf)), (c, .inr (3, [.ref ca, .int cm])), (ca, .inl (g.2.1, 4096, .inl Cf)), (b, .inr (0, [.ref br, .int z])), (br, .inr (3, [.ref ba, .int m])), (ba, .inl (g.2.1, 4096, .inl F))]) C dX5_raw_31 (c_X3_many (zl X) g h ha 400 Bf bm) gX5_raw_X3_many rfl ⟨rfl, rfl⟩ (by decide +kernel) (by decide) (by decide) rfl rfl rfl rfl (Nat.le_of_ble_eq_true rfl) rfl rfl ⟨rfl, rfl, rfl⟩ (by decide) rfl ?_
    refine z_callVi (n := 4) (isC := [9, 10, 11, 1, 2]) (isR := [0, 3, 4, 5, 6, 7, 8]) (isP := [0, 10, 11, 1, 2, 3, 4, 5, 6, 7, 8, 9]) (As := [.int v, .ref h, .int 0, .int bm]) (rest := []) (wr := [(o, .inr (4, [.ref h, .ref b, .ref e])), (e, .inr (2, [.ref b, .ref d, .ref c, .int rp, .int hf, .int pl, .int bg, .int lo, .int fp, .int fb])), (d, .inr (1, [.ref dw, .ref dy, .int dm, .int da])), (dw, .inl (g.2.2.1, 100, .inl Wf)), (dy, .inl (g.2.2.1, 100, .inl Yf)), (c, .inr (3, [.ref ca, .int cm])), (ca, .inl (g.2.1, 4096, .inl Cf))]) (ws2 := [(o, .inr (4, [.ref h, .ref b, .ref e])), (h, .inr (3, [.ref ha, .int bm])), (ha, .inl (g.2.1, 400, .inl Bf)), (e, .inr (2, [.ref b, .ref d, .ref c, .int rp, .int hf, .int pl, .int bg, .int lo, .int fp, .int fb])), (d, .inr (1, [.ref dw, .ref dy, .int dm, .int da])), (dw, .inl (g.2.2.1, 100, .inl Wf)), (dy, .inl (g.2.2.1, 100, .inl Yf)), (c, .inr (3, [.ref ca, .int cm])), (ca, .inl (g.2.1, 4096, .inl Cf)), (b, .inr (0, [.ref br, .int z])), (br, .inr (3, [.ref ba, .int ((f_X0_addFragment F Bf m bm v 0 bm).2.2)])), (ba, .inl (g.2.1, 4096, .inl ((f_X0_addFragment F Bf m bm v 0 bm).2.1)))]) C dX5_raw_34 (c_X0_addFragment (zl X) g b br ba h ha 400 F Bf z m bm v 0 bm hm hg) gX5_raw_X0_addFragment rfl ⟨rfl, rfl⟩ (by decide +kernel) (by decide) (by decide) rfl rfl rfl rfl (Nat.le_of_ble_eq_true rfl) rfl rfl ⟨rfl, rfl, rfl⟩ (by decide) rfl ?_
    generalize hT4 : (f_X0_addFragment F Bf m bm v 0 bm) = T4
    obtain ⟨rq4, Fq4, mq4⟩ := T4
    have k4_m : zok 4096 mq4 := zok_X0_addFragment hm hg hT4
    refine z_if_eq (tgt := 53) C dX5_raw_37 (by decide) (fun c_5 => ?_) (fun c_5 => ?_)
    · skip
      refine z_bipush (v := (-2)) C dX5_raw_53 (by decide) ?_
      have he : (f_X5_raw Bf F bm m v) = ((-2), Fq4, mq4) := by simp only [f_X5_raw, hT1, if_neg c_2, hT4, if_pos c_5]
      have hx : (x_X5_raw v) = none := by simp only [x_X5_raw, hT1, if_neg c_2, hT4, if_pos c_5]
      exact hret _ _ _ _ dX5_raw_55 hx (by first | rw [he] | rfl) (by first | rw [he] | rfl)
    · skip
      refine z_aload_n C dX5_raw_40 rfl 0 rfl ?_
      refine z_get (ci := 4) (v := .ref b) (Cn := RX5) (T := TX5) (N := 3) C dX5_raw_41 (fun w h => List.mem_cons_of_mem _ (List.mem_append_left _ (List.mem_append_left _ (List.mem_append_left _ (List.mem_append_right _ h))))) 0 rfl rfl 1 (by decide) (List.mem_of_getElem? (i := 3) rfl) rfl rfl ?_
      refine z_callVr (n := 0) (isC := [9, 10, 11]) (isR := [0, 1, 2, 3, 4, 5, 6, 7, 8]) (isP := [0, 1, 2, 3, 4, 5, 6, 7, 8, 9, 10, 11]) (As := []) (rest := []) (wr := [(o, .inr (4, [.ref h, .ref b, .ref e])), (h, .inr (3, [.ref ha, .int bm])), (ha, .inl (g.2.1, 400, .inl Bf)), (e, .inr (2, [.ref b, .ref d, .ref c, .int rp, .int hf, .int pl, .int bg, .int lo, .int fp, .int fb])), (d, .inr (1, [.ref dw, .ref dy, .int dm, .int da])), (dw, .inl (g.2.2.1, 100, .inl Wf)), (dy, .inl (g.2.2.1, 100, .inl Yf)), (c, .inr (3, [.ref ca, .int cm])), (ca, .inl (g.2.1, 4096, .inl Cf))]) (ws2 := [(o, .inr (4, [.ref h, .ref b, .ref e])), (h, .inr (3, [.ref ha, .int bm])), (ha, .inl (g.2.1, 400, .inl Bf)), (e, .inr (2, [.ref b, .ref d, .ref c, .int rp, .int hf, .int pl, .int bg, .int lo, .int fp, .int fb])), (d, .inr (1, [.ref dw, .ref dy, .int dm, .int da])), (dw, .inl (g.2.2.1, 100, .inl Wf)), (dy, .inl (g.2.2.1, 100, .inl Yf)), (c, .inr (3, [.ref ca, .int cm])), (ca, .inl (g.2.1, 4096, .inl Cf)), (b, .inr (0, [.ref br, .int z])), (br, .inr (3, [.ref ba, .int mq4])), (ba, .inl (g.2.1, 4096, .inl Fq4))]) C dX5_raw_44 (c_X0_bytes (zl X) g b br ba Fq4 z mq4) gX5_raw_X0_bytes rfl ⟨rfl, rfl⟩ (by decide +kernel) (by decide) (by decide) rfl rfl rfl rfl (Nat.le_of_ble_eq_true rfl) rfl rfl ⟨rfl, rfl, rfl⟩ (by decide) rfl ?_
      refine z_callVi (n := 0) (isC := [10, 11]) (isR := [0, 1, 2, 3, 4, 5, 6, 7, 8, 9]) (isP := [0, 1, 2, 3, 4, 5, 6, 7, 8, 9, 10, 11]) (As := []) (rest := []) (wr := [(o, .inr (4, [.ref h, .ref b, .ref e])), (h, .inr (3, [.ref ha, .int bm])), (ha, .inl (g.2.1, 400, .inl Bf)), (e, .inr (2, [.ref b, .ref d, .ref c, .int rp, .int hf, .int pl, .int bg, .int lo, .int fp, .int fb])), (d, .inr (1, [.ref dw, .ref dy, .int dm, .int da])), (dw, .inl (g.2.2.1, 100, .inl Wf)), (dy, .inl (g.2.2.1, 100, .inl Yf)), (c, .inr (3, [.ref ca, .int cm])), (ca, .inl (g.2.1, 4096, .inl Cf)), (b, .inr (0, [.ref br, .int z]))]) (ws2 := [(o, .inr (4, [.ref h, .ref b, .ref e])), (h, .inr (3, [.ref ha, .int bm])), (ha, .inl (g.2.1, 400, .inl Bf)), (e, .inr (2, [.ref b, .ref d, .ref c, .int rp, .int hf, .int pl, .int bg, .int lo, .int fp, .int fb])), (d, .inr (1, [.ref dw, .ref dy, .int dm, .int da])), (dw, .inl (g.2.2.1, 100, .inl Wf)), (dy, .inl (g.2.2.1, 100, .inl Yf)), (c, .inr (3, [.ref ca, .int cm])), (ca, .inl (g.2.1, 4096, .inl Cf)), (b, .inr (0, [.ref br, .int z])), (br, .inr (3, [.ref ba, .int mq4])), (ba, .inl (g.2.1, 4096, .inl Fq4))]) C dX5_raw_47 (c_X3_many (zl X) g br ba 4096 Fq4 mq4) gX5_raw_X3_many rfl ⟨rfl, rfl⟩ (by decide +kernel) (by decide) (by decide) rfl rfl rfl rfl (Nat.le_of_ble_eq_true rfl) rfl rfl ⟨rfl, rfl, rfl⟩ (by decide) rfl ?_
      refine z_goto (tgt := 55) C dX5_raw_50 (by decide) ?_
      have he : (f_X5_raw Bf F bm m v) = (mq4, Fq4, mq4) := by simp only [f_X5_raw, hT1, if_neg c_2, hT4, if_neg c_5]
      have hx : (x_X5_raw v) = none := by simp only [x_X5_raw, hT1, if_neg c_2, hT4, if_neg c_5]
      exact hret _ _ _ _ dX5_raw_55 hx (by first | rw [he] | rfl) (by first | rw [he] | rfl)
  · skip
    have hx : (x_X5_raw v) = some zIAE := by simp only [x_X5_raw, hT1, if_pos c_2]
    exact hthr 7 _ 34 81 38 zIAE "a kind is 0 .. 255" dX5_raw_7 dX5_raw_10 dX5_raw_11 dX5_raw_13 dX5_raw_16 (List.mem_of_getElem? (i := 1) rfl) (List.mem_of_getElem? (i := 2) rfl) (fun w h => List.mem_cons_of_mem _ (List.mem_append_right _ h)) zat38 (zot_c zot38) (List.mem_of_getElem? (i := 3) rfl) (by decide) hx
def f_X5_put (F : Nat → Int32) (m : Int32) (v : Int32) (x : Int32) : Int32 × (Nat → Int32) :=
  if (f_X3_has m v) = 0 then
    (0, F)
  else
    if (f_X5_isByte x) = 0 then
      (0, F)
    else
      ((f_X3_at F m v), (f_X3_replace F m v x))
def x_X5_put (m : Int32) (v : Int32) (x : Int32) : Option String :=
  if (f_X3_has m v) = 0 then
    some zIOE
  else
    if (f_X5_isByte x) = 0 then
      some zIAE
    else
      none
set_option maxHeartbeats 4000000 in
set_option maxRecDepth 100000 in
theorem c_X5_put (l : Launch) (hl : l.stackTraces = false) (g : zG) (o h b e ha d c dw dy ca br ba : Nat) (Bf : Nat → Int32) (Wf : Nat → Int32) (Yf : Nat → Int32) (Cf : Nat → Int32) (F : Nat → Int32) (bm : Int32) (rp : Int32) (hf : Int32) (pl : Int32) (bg : Int32) (lo : Int32) (fp : Int32) (fb : Int32) (dm : Int32) (da : Int32) (cm : Int32) (z : Int32) (m : Int32) (v : Int32) (x : Int32) (hm : zok 4096 m) : zXI l yX5_put wsX5_put ({ frames := 6, cells := 1, slots := 6, locals := 82 }) g [.ref o, .int v, .int x] [(o, .inr (4, [.ref h, .ref b, .ref e])), (h, .inr (3, [.ref ha, .int bm])), (ha, .inl (g.2.1, 400, .inl Bf)), (e, .inr (2, [.ref b, .ref d, .ref c, .int rp, .int hf, .int pl, .int bg, .int lo, .int fp, .int fb])), (d, .inr (1, [.ref dw, .ref dy, .int dm, .int da])), (dw, .inl (g.2.2.1, 100, .inl Wf)), (dy, .inl (g.2.2.1, 100, .inl Yf)), (c, .inr (3, [.ref ca, .int cm])), (ca, .inl (g.2.1, 4096, .inl Cf)), (b, .inr (0, [.ref br, .int z])), (br, .inr (3, [.ref ba, .int m])), (ba, .inl (g.2.1, 4096, .inl F))] (x_X5_put m v x) ((f_X5_put F m v x).1) [(o, .inr (4, [.ref h, .ref b, .ref e])), (h, .inr (3, [.ref ha, .int bm])), (ha, .inl (g.2.1, 400, .inl Bf)), (e, .inr (2, [.ref b, .ref d, .ref c, .int rp, .int hf, .int pl, .int bg, .int lo, .int fp, .int fb])), (d, .inr (1, [.ref dw, .ref dy, .int dm, .int da])), (dw, .inl (g.2.2.1, 100, .inl Wf)), (dy, .inl (g.2.2.1, 100, .inl Yf)), (c, .inr (3, [.ref ca, .int cm])), (ca, .inl (g.2.1, 4096, .inl Cf)), (b, .inr (0, [.ref br, .int z])), (br, .inr (3, [.ref ba, .int m])), (ba, .inl (g.2.1, 4096, .inl ((f_X5_put F m v x).2)))] := by
  refine zXI_of (cc := cX5_put) (nL := 4) (ty := .int) hl rfl (by decide) rfl (Nat.le_of_ble_eq_true rfl) rfl (by decide) ?_
  intro X C hret hthr
  refine z_lv (lv' := [(0, .ref o), (1, .int v), (2, .int x)]) [0, 1, 2] rfl ?_
  refine z_aload_n C dX5_put_0 rfl 0 rfl ?_
  refine z_get (ci := 4) (v := .ref b) (Cn := RX5) (T := TX5) (N := 3) C dX5_put_1 (fun w h => List.mem_cons_of_mem _ (List.mem_append_left _ (List.mem_append_left _ (List.mem_append_left _ (List.mem_append_left _ (List.mem_append_right _ h)))))) 0 rfl rfl 1 (by decide) (List.mem_of_getElem? (i := 5) rfl) rfl rfl ?_
  refine z_callVr (n := 0) (isC := [9, 10, 11]) (isR := [0, 1, 2, 3, 4, 5, 6, 7, 8]) (isP := [0, 1, 2, 3, 4, 5, 6, 7, 8, 9, 10, 11]) (As := []) (rest := []) (wr := [(o, .inr (4, [.ref h, .ref b, .ref e])), (h, .inr (3, [.ref ha, .int bm])), (ha, .inl (g.2.1, 400, .inl Bf)), (e, .inr (2, [.ref b, .ref d, .ref c, .int rp, .int hf, .int pl, .int bg, .int lo, .int fp, .int fb])), (d, .inr (1, [.ref dw, .ref dy, .int dm, .int da])), (dw, .inl (g.2.2.1, 100, .inl Wf)), (dy, .inl (g.2.2.1, 100, .inl Yf)), (c, .inr (3, [.ref ca, .int cm])), (ca, .inl (g.2.1, 4096, .inl Cf))]) (ws2 := [(o, .inr (4, [.ref h, .ref b, .ref e])), (h, .inr (3, [.ref ha, .int bm])), (ha, .inl (g.2.1, 400, .inl Bf)), (e, .inr (2, [.ref b, .ref d, .ref c, .int rp, .int hf, .int pl, .int bg, .int lo, .int fp, .int fb])), (d, .inr (1, [.ref dw, .ref dy, .int dm, .int da])), (dw, .inl (g.2.2.1, 100, .inl Wf)), (dy, .inl (g.2.2.1, 100, .inl Yf)), (c, .inr (3, [.ref ca, .int cm])), (ca, .inl (g.2.1, 4096, .inl Cf)), (b, .inr (0, [.ref br, .int z])), (br, .inr (3, [.ref ba, .int m])), (ba, .inl (g.2.1, 4096, .inl F))]) C dX5_put_4 (c_X0_bytes (zl X) g b br ba F z m) gX5_put_X0_bytes rfl ⟨rfl, rfl⟩ (by decide +kernel) (by decide) (by decide) rfl rfl rfl rfl (Nat.le_of_ble_eq_true rfl) rfl rfl ⟨rfl, rfl, rfl⟩ (by decide) rfl ?_
  refine z_iload_n C dX5_put_7 rfl 1 rfl ?_
  refine z_callVi (n := 1) (isC := [10, 11]) (isR := [0, 1, 2, 3, 4, 5, 6, 7, 8, 9]) (isP := [0, 1, 2, 3, 4, 5, 6, 7, 8, 9, 10, 11]) (As := [.int v]) (rest := []) (wr := [(o, .inr (4, [.ref h, .ref b, .ref e])), (h, .inr (3, [.ref ha, .int bm])), (ha, .inl (g.2.1, 400, .inl Bf)), (e, .inr (2, [.ref b, .ref d, .ref c, .int rp, .int hf, .int pl, .int bg, .int lo, .int fp, .int fb])), (d, .inr (1, [.ref dw, .ref dy, .int dm, .int da])), (dw, .inl (g.2.2.1, 100, .inl Wf)), (dy, .inl (g.2.2.1, 100, .inl Yf)), (c, .inr (3, [.ref ca, .int cm])), (ca, .inl (g.2.1, 4096, .inl Cf)), (b, .inr (0, [.ref br, .int z]))]) (ws2 := [(o, .inr (4, [.ref h, .ref b, .ref e])), (h, .inr (3, [.ref ha, .int bm])), (ha, .inl (g.2.1, 400, .inl Bf)), (e, .inr (2, [.ref b, .ref d, .ref c, .int rp, .int hf, .int pl, .int bg, .int lo, .int fp, .int fb])), (d, .inr (1, [.ref dw, .ref dy, .int dm, .int da])), (dw, .inl (g.2.2.1, 100, .inl Wf)), (dy, .inl (g.2.2.1, 100, .inl Yf)), (c, .inr (3, [.ref ca, .int cm])), (ca, .inl (g.2.1, 4096, .inl Cf)), (b, .inr (0, [.ref br, .int z])), (br, .inr (3, [.ref ba, .int m])), (ba, .inl (g.2.1, 4096, .inl F))]) C dX5_put_8 (c_X3_has (zl X) g br ba 4096 F m v) gX5_put_X3_has rfl ⟨rfl, rfl⟩ (by decide +kernel) (by decide) (by decide) rfl rfl rfl rfl (Nat.le_of_ble_eq_true rfl) rfl rfl ⟨rfl, rfl, rfl⟩ (by decide) rfl ?_
  generalize hT2 : (f_X3_has m v) = rq2
  refine z_if_ne (tgt := 24) C dX5_put_11 (by decide) (fun c_3 => ?_) (fun c_3 => ?_)
  · skip
    refine z_iload_n C dX5_put_24 rfl 2 rfl ?_
    refine z_callSi (n := 1) (isC := []) (isR := [0, 1, 2, 3, 4, 5, 6, 7, 8, 9, 10, 11]) (isP := [0, 1, 2, 3, 4, 5, 6, 7, 8, 9, 10, 11]) (As := [.int x]) (rest := []) (wr := [(o, .inr (4, [.ref h, .ref b, .ref e])), (h, .inr (3, [.ref ha, .int bm])), (ha, .inl (g.2.1, 400, .inl Bf)), (e, .inr (2, [.ref b, .ref d, .ref c, .int rp, .int hf, .int pl, .int bg, .int lo, .int fp, .int fb])), (d, .inr (1, [.ref dw, .ref dy, .int dm, .int da])), (dw, .inl (g.2.2.1, 100, .inl Wf)), (dy, .inl (g.2.2.1, 100, .inl Yf)), (c, .inr (3, [.ref ca, .int cm])), (ca, .inl (g.2.1, 4096, .inl Cf)), (b, .inr (0, [.ref br, .int z])), (br, .inr (3, [.ref ba, .int m])), (ba, .inl (g.2.1, 4096, .inl F))]) (ws2 := [(o, .inr (4, [.ref h, .ref b, .ref e])), (h, .inr (3, [.ref ha, .int bm])), (ha, .inl (g.2.1, 400, .inl Bf)), (e, .inr (2, [.ref b, .ref d, .ref c, .int rp, .int hf, .int pl, .int bg, .int lo, .int fp, .int fb])), (d, .inr (1, [.ref dw, .ref dy, .int dm, .int da])), (dw, .inl (g.2.2.1, 100, .inl Wf)), (dy, .inl (g.2.2.1, 100, .inl Yf)), (c, .inr (3, [.ref ca, .int cm])), (ca, .inl (g.2.1, 4096, .inl Cf)), (b, .inr (0, [.ref br, .int z])), (br, .inr (3, [.ref ba, .int m])), (ba, .inl (g.2.1, 4096, .inl F))]) C dX5_put_25 (c_X5_isByte (zl X) g x) gX5_put_X5_isByte rfl ⟨rfl, rfl⟩ (by decide +kernel) (by decide) (by decide) rfl rfl (Nat.le_of_ble_eq_true rfl) rfl rfl ⟨rfl, rfl, rfl⟩ (by decide) rfl ?_
    generalize hT4 : (f_X5_isByte x) = rq4
    refine z_if_ne (tgt := 41) C dX5_put_28 (by decide) (fun c_5 => ?_) (fun c_5 => ?_)
    · skip
      refine z_aload_n C dX5_put_41 rfl 0 rfl ?_
      refine z_get (ci := 4) (v := .ref b) (Cn := RX5) (T := TX5) (N := 3) C dX5_put_42 (fun w h => List.mem_cons_of_mem _ (List.mem_append_left _ (List.mem_append_left _ (List.mem_append_left _ (List.mem_append_left _ (List.mem_append_right _ h)))))) 0 rfl rfl 1 (by decide) (List.mem_of_getElem? (i := 5) rfl) rfl rfl ?_
      refine z_callVr (n := 0) (isC := [9, 10, 11]) (isR := [0, 1, 2, 3, 4, 5, 6, 7, 8]) (isP := [0, 1, 2, 3, 4, 5, 6, 7, 8, 9, 10, 11]) (As := []) (rest := []) (wr := [(o, .inr (4, [.ref h, .ref b, .ref e])), (h, .inr (3, [.ref ha, .int bm])), (ha, .inl (g.2.1, 400, .inl Bf)), (e, .inr (2, [.ref b, .ref d, .ref c, .int rp, .int hf, .int pl, .int bg, .int lo, .int fp, .int fb])), (d, .inr (1, [.ref dw, .ref dy, .int dm, .int da])), (dw, .inl (g.2.2.1, 100, .inl Wf)), (dy, .inl (g.2.2.1, 100, .inl Yf)), (c, .inr (3, [.ref ca, .int cm])), (ca, .inl (g.2.1, 4096, .inl Cf))]) (ws2 := [(o, .inr (4, [.ref h, .ref b, .ref e])), (h, .inr (3, [.ref ha, .int bm])), (ha, .inl (g.2.1, 400, .inl Bf)), (e, .inr (2, [.ref b, .ref d, .ref c, .int rp, .int hf, .int pl, .int bg, .int lo, .int fp, .int fb])), (d, .inr (1, [.ref dw, .ref dy, .int dm, .int da])), (dw, .inl (g.2.2.1, 100, .inl Wf)), (dy, .inl (g.2.2.1, 100, .inl Yf)), (c, .inr (3, [.ref ca, .int cm])), (ca, .inl (g.2.1, 4096, .inl Cf)), (b, .inr (0, [.ref br, .int z])), (br, .inr (3, [.ref ba, .int m])), (ba, .inl (g.2.1, 4096, .inl F))]) C dX5_put_45 (c_X0_bytes (zl X) g b br ba F z m) gX5_put_X0_bytes rfl ⟨rfl, rfl⟩ (by decide +kernel) (by decide) (by decide) rfl rfl rfl rfl (Nat.le_of_ble_eq_true rfl) rfl rfl ⟨rfl, rfl, rfl⟩ (by decide) rfl ?_
      refine z_iload_n C dX5_put_48 rfl 1 rfl ?_
      refine z_callVi (n := 1) (isC := [10, 11]) (isR := [0, 1, 2, 3, 4, 5, 6, 7, 8, 9]) (isP := [0, 1, 2, 3, 4, 5, 6, 7, 8, 9, 10, 11]) (As := [.int v]) (rest := []) (wr := [(o, .inr (4, [.ref h, .ref b, .ref e])), (h, .inr (3, [.ref ha, .int bm])), (ha, .inl (g.2.1, 400, .inl Bf)), (e, .inr (2, [.ref b, .ref d, .ref c, .int rp, .int hf, .int pl, .int bg, .int lo, .int fp, .int fb])), (d, .inr (1, [.ref dw, .ref dy, .int dm, .int da])), (dw, .inl (g.2.2.1, 100, .inl Wf)), (dy, .inl (g.2.2.1, 100, .inl Yf)), (c, .inr (3, [.ref ca, .int cm])), (ca, .inl (g.2.1, 4096, .inl Cf)), (b, .inr (0, [.ref br, .int z]))]) (ws2 := [(o, .inr (4, [.ref h, .ref b, .ref e])), (h, .inr (3, [.ref ha, .int bm])), (ha, .inl (g.2.1, 400, .inl Bf)), (e, .inr (2, [.ref b, .ref d, .ref c, .int rp, .int hf, .int pl, .int bg, .int lo, .int fp, .int fb])), (d, .inr (1, [.ref dw, .ref dy, .int dm, .int da])), (dw, .inl (g.2.2.1, 100, .inl Wf)), (dy, .inl (g.2.2.1, 100, .inl Yf)), (c, .inr (3, [.ref ca, .int cm])), (ca, .inl (g.2.1, 4096, .inl Cf)), (b, .inr (0, [.ref br, .int z])), (br, .inr (3, [.ref ba, .int m])), (ba, .inl (g.2.1, 4096, .inl F))]) C dX5_put_49 (c_X3_at (zl X) g br ba 4096 F m v hm) gX5_put_X3_at rfl ⟨rfl, rfl⟩ (by decide +kernel) (by decide) (by decide) rfl rfl rfl rfl (Nat.le_of_ble_eq_true rfl) rfl rfl ⟨rfl, rfl, rfl⟩ (by decide) rfl ?_
      generalize hT7 : (f_X3_at F m v) = rq7
      refine z_istore_n (lv' := [(3, .int rq7), (0, .ref o), (1, .int v), (2, .int x)]) C dX5_put_52 rfl (by decide) rfl ?_
      refine z_aload_n C dX5_put_53 rfl 1 rfl ?_
      refine z_get (ci := 4) (v := .ref b) (Cn := RX5) (T := TX5) (N := 3) C dX5_put_54 (fun w h => List.mem_cons_of_mem _ (List.mem_append_left _ (List.mem_append_left _ (List.mem_append_left _ (List.mem_append_left _ (List.mem_append_right _ h)))))) 0 rfl rfl 1 (by decide) (List.mem_of_getElem? (i := 5) rfl) rfl rfl ?_
      refine z_callVr (n := 0) (isC := [9, 10, 11]) (isR := [0, 1, 2, 3, 4, 5, 6, 7, 8]) (isP := [0, 1, 2, 3, 4, 5, 6, 7, 8, 9, 10, 11]) (As := []) (rest := []) (wr := [(o, .inr (4, [.ref h, .ref b, .ref e])), (h, .inr (3, [.ref ha, .int bm])), (ha, .inl (g.2.1, 400, .inl Bf)), (e, .inr (2, [.ref b, .ref d, .ref c, .int rp, .int hf, .int pl, .int bg, .int lo, .int fp, .int fb])), (d, .inr (1, [.ref dw, .ref dy, .int dm, .int da])), (dw, .inl (g.2.2.1, 100, .inl Wf)), (dy, .inl (g.2.2.1, 100, .inl Yf)), (c, .inr (3, [.ref ca, .int cm])), (ca, .inl (g.2.1, 4096, .inl Cf))]) (ws2 := [(o, .inr (4, [.ref h, .ref b, .ref e])), (h, .inr (3, [.ref ha, .int bm])), (ha, .inl (g.2.1, 400, .inl Bf)), (e, .inr (2, [.ref b, .ref d, .ref c, .int rp, .int hf, .int pl, .int bg, .int lo, .int fp, .int fb])), (d, .inr (1, [.ref dw, .ref dy, .int dm, .int da])), (dw, .inl (g.2.2.1, 100, .inl Wf)), (dy, .inl (g.2.2.1, 100, .inl Yf)), (c, .inr (3, [.ref ca, .int cm])), (ca, .inl (g.2.1, 4096, .inl Cf)), (b, .inr (0, [.ref br, .int z])), (br, .inr (3, [.ref ba, .int m])), (ba, .inl (g.2.1, 4096, .inl F))]) C dX5_put_57 (c_X0_bytes (zl X) g b br ba F z m) gX5_put_X0_bytes rfl ⟨rfl, rfl⟩ (by decide +kernel) (by decide) (by decide) rfl rfl rfl rfl (Nat.le_of_ble_eq_true rfl) rfl rfl ⟨rfl, rfl, rfl⟩ (by decide) rfl ?_
      refine z_iload_n C dX5_put_60 rfl 2 rfl ?_
      refine z_iload_n C dX5_put_61 rfl 3 rfl ?_
      refine z_callVv (n := 2) (isC := [10, 11]) (isR := [0, 1, 2, 3, 4, 5, 6, 7, 8, 9]) (isP := [0, 1, 2, 3, 4, 5, 6, 7, 8, 9, 10, 11]) (As := [.int v, .int x]) (rest := []) (wr := [(o, .inr (4, [.ref h, .ref b, .ref e])), (h, .inr (3, [.ref ha, .int bm])), (ha, .inl (g.2.1, 400, .inl Bf)), (e, .inr (2, [.ref b, .ref d, .ref c, .int rp, .int hf, .int pl, .int bg, .int lo, .int fp, .int fb])), (d, .inr (1, [.ref dw, .ref dy, .int dm, .int da])), (dw, .inl (g.2.2.1, 100, .inl Wf)), (dy, .inl (g.2.2.1, 100, .inl Yf)), (c, .inr (3, [.ref ca, .int cm])), (ca, .inl (g.2.1, 4096, .inl Cf)), (b, .inr (0, [.ref br, .int z]))]) (ws2 := [(o, .inr (4, [.ref h, .ref b, .ref e])), (h, .inr (3, [.ref ha, .int bm])), (ha, .inl (g.2.1, 400, .inl Bf)), (e, .inr (2, [.ref b, .ref d, .ref c, .int rp, .int hf, .int pl, .int bg, .int lo, .int fp, .int fb])), (d, .inr (1, [.ref dw, .ref dy, .int dm, .int da])), (dw, .inl (g.2.2.1, 100, .inl Wf)), (dy, .inl (g.2.2.1, 100, .inl Yf)), (c, .inr (3, [.ref ca, .int cm])), (ca, .inl (g.2.1, 4096, .inl Cf)), (b, .inr (0, [.ref br, .int z])), (br, .inr (3, [.ref ba, .int m])), (ba, .inl (g.2.1, 4096, .inl (f_X3_replace F m v x)))]) C dX5_put_62 (c_X3_replace (zl X) g br ba 4096 F m v x hm) gX5_put_X3_replace rfl ⟨rfl, rfl⟩ (by decide +kernel) (by decide) (by decide) rfl rfl rfl rfl (Nat.le_of_ble_eq_true rfl) rfl rfl ⟨rfl, rfl, rfl⟩ (by decide) rfl ?_
      generalize hT9 : (f_X3_replace F m v x) = Fq9
      refine z_iload_n C dX5_put_65 rfl 0 rfl ?_
      have he : (f_X5_put F m v x) = (rq7, Fq9) := by simp only [f_X5_put, hT2, if_neg c_3, hT4, if_neg c_5, hT7, hT9]
      have hx : (x_X5_put m v x) = none := by simp only [x_X5_put, hT2, if_neg c_3, hT4, if_neg c_5, hT7, hT9]
      exact hret _ _ _ _ dX5_put_66 hx (by first | rw [he] | rfl) (by first | rw [he] | rfl)
    · skip
      have hx : (x_X5_put m v x) = some zIAE := by simp only [x_X5_put, hT2, if_neg c_3, hT4, if_pos c_5]
      exact hthr 31 _ 34 109 38 zIAE "a byte is 0 .. 255" dX5_put_31 dX5_put_34 dX5_put_35 dX5_put_37 dX5_put_40 (List.mem_of_getElem? (i := 3) rfl) (List.mem_of_getElem? (i := 4) rfl) (fun w h => List.mem_cons_of_mem _ (List.mem_append_right _ h)) zat38 (zot_c zot38) (List.mem_of_getElem? (i := 5) rfl) (by decide) hx
  · skip
    have hx : (x_X5_put m v x) = some zIOE := by simp only [x_X5_put, hT2, if_pos c_3]
    exact hthr 14 _ 104 106 108 zIOE "the log has no such byte" dX5_put_14 dX5_put_17 dX5_put_18 dX5_put_20 dX5_put_23 (List.mem_of_getElem? (i := 1) rfl) (List.mem_of_getElem? (i := 2) rfl) (fun w h => List.mem_cons_of_mem _ (List.mem_append_left _ (List.mem_append_right _ h))) zat108 (zot_c zot108) (List.mem_of_getElem? (i := 4) rfl) (by decide) hx
def f_X5_cut (pl : Int32) (bg : Int32) (lo : Int32) (dm : Int32) (da : Int32) (z : Int32) (m : Int32) (v : Int32) : Int32 × Int32 × Int32 × Int32 × Int32 × Int32 × Int32 :=
  if v < 0 then
    (0, pl, bg, lo, dm, da, m)
  else
    if v ≤ m then
      match (f_X2_beginAt z 0) with
      | (plq7, bgq7, loq7, dmq7, daq7) =>
        ((m - v), plq7, bgq7, loq7, dmq7, daq7, (f_X3_shorten m v))
    else
      (0, pl, bg, lo, dm, da, m)
def x_X5_cut (m : Int32) (v : Int32) : Option String :=
  if v < 0 then
    some zIAE
  else
    if v ≤ m then
      none
    else
      some zIAE
set_option maxHeartbeats 4000000 in
set_option maxRecDepth 100000 in
theorem c_X5_cut (l : Launch) (hl : l.stackTraces = false) (g : zG) (o h b e ha d c dw dy ca br ba : Nat) (Bf : Nat → Int32) (Wf : Nat → Int32) (Yf : Nat → Int32) (Cf : Nat → Int32) (F : Nat → Int32) (bm : Int32) (rp : Int32) (hf : Int32) (pl : Int32) (bg : Int32) (lo : Int32) (fp : Int32) (fb : Int32) (dm : Int32) (da : Int32) (cm : Int32) (z : Int32) (m : Int32) (v : Int32) (hz : zsz z) (hm : zok 4096 m) : zXI l yX5_cut wsX5_cut ({ frames := 6, cells := 1, slots := 6, locals := 82 }) g [.ref o, .int v] [(o, .inr (4, [.ref h, .ref b, .ref e])), (h, .inr (3, [.ref ha, .int bm])), (ha, .inl (g.2.1, 400, .inl Bf)), (e, .inr (2, [.ref b, .ref d, .ref c, .int rp, .int hf, .int pl, .int bg, .int lo, .int fp, .int fb])), (d, .inr (1, [.ref dw, .ref dy, .int dm, .int da])), (dw, .inl (g.2.2.1, 100, .inl Wf)), (dy, .inl (g.2.2.1, 100, .inl Yf)), (c, .inr (3, [.ref ca, .int cm])), (ca, .inl (g.2.1, 4096, .inl Cf)), (b, .inr (0, [.ref br, .int z])), (br, .inr (3, [.ref ba, .int m])), (ba, .inl (g.2.1, 4096, .inl F))] (x_X5_cut m v) ((f_X5_cut pl bg lo dm da z m v).1) [(o, .inr (4, [.ref h, .ref b, .ref e])), (h, .inr (3, [.ref ha, .int bm])), (ha, .inl (g.2.1, 400, .inl Bf)), (e, .inr (2, [.ref b, .ref d, .ref c, .int rp, .int hf, .int ((f_X5_cut pl bg lo dm da z m v).2.1), .int ((f_X5_cut pl bg lo dm da z m v).2.2.1), .int ((f_X5_cut pl bg lo dm da z m v).2.2.2.1), .int fp, .int fb])), (d, .inr (1, [.ref dw, .ref dy, .int ((f_X5_cut pl bg lo dm da z m v).2.2.2.2.1), .int ((f_X5_cut pl bg lo dm da z m v).2.2.2.2.2.1)])), (dw, .inl (g.2.2.1, 100, .inl Wf)), (dy, .inl (g.2.2.1, 100, .inl Yf)), (c, .inr (3, [.ref ca, .int cm])), (ca, .inl (g.2.1, 4096, .inl Cf)), (b, .inr (0, [.ref br, .int z])), (br, .inr (3, [.ref ba, .int ((f_X5_cut pl bg lo dm da z m v).2.2.2.2.2.2)])), (ba, .inl (g.2.1, 4096, .inl F))] := by
  refine zXI_of (cc := cX5_cut) (nL := 3) (ty := .int) hl rfl (by decide) rfl (Nat.le_of_ble_eq_true rfl) rfl (by decide) ?_
  intro X C hret hthr
  refine z_lv (lv' := [(0, .ref o), (1, .int v)]) [0, 1] rfl ?_
  refine z_aload_n C dX5_cut_0 rfl 0 rfl ?_
  refine z_get (ci := 4) (v := .ref b) (Cn := RX5) (T := TX5) (N := 3) C dX5_cut_1 (fun w h => List.mem_cons_of_mem _ (List.mem_append_left _ (List.mem_append_left _ (List.mem_append_left _ (List.mem_append_left _ (List.mem_append_left _ (List.mem_append_right _ h))))))) 0 rfl rfl 1 (by decide) (List.mem_of_getElem? (i := 3) rfl) rfl rfl ?_
  refine z_callVr (n := 0) (isC := [9, 10, 11]) (isR := [0, 1, 2, 3, 4, 5, 6, 7, 8]) (isP := [0, 1, 2, 3, 4, 5, 6, 7, 8, 9, 10, 11]) (As := []) (rest := []) (wr := [(o, .inr (4, [.ref h, .ref b, .ref e])), (h, .inr (3, [.ref ha, .int bm])), (ha, .inl (g.2.1, 400, .inl Bf)), (e, .inr (2, [.ref b, .ref d, .ref c, .int rp, .int hf, .int pl, .int bg, .int lo, .int fp, .int fb])), (d, .inr (1, [.ref dw, .ref dy, .int dm, .int da])), (dw, .inl (g.2.2.1, 100, .inl Wf)), (dy, .inl (g.2.2.1, 100, .inl Yf)), (c, .inr (3, [.ref ca, .int cm])), (ca, .inl (g.2.1, 4096, .inl Cf))]) (ws2 := [(o, .inr (4, [.ref h, .ref b, .ref e])), (h, .inr (3, [.ref ha, .int bm])), (ha, .inl (g.2.1, 400, .inl Bf)), (e, .inr (2, [.ref b, .ref d, .ref c, .int rp, .int hf, .int pl, .int bg, .int lo, .int fp, .int fb])), (d, .inr (1, [.ref dw, .ref dy, .int dm, .int da])), (dw, .inl (g.2.2.1, 100, .inl Wf)), (dy, .inl (g.2.2.1, 100, .inl Yf)), (c, .inr (3, [.ref ca, .int cm])), (ca, .inl (g.2.1, 4096, .inl Cf)), (b, .inr (0, [.ref br, .int z])), (br, .inr (3, [.ref ba, .int m])), (ba, .inl (g.2.1, 4096, .inl F))]) C dX5_cut_4 (c_X0_bytes (zl X) g b br ba F z m) gX5_cut_X0_bytes rfl ⟨rfl, rfl⟩ (by decide +kernel) (by decide) (by decide) rfl rfl rfl rfl (Nat.le_of_ble_eq_true rfl) rfl rfl ⟨rfl, rfl, rfl⟩ (by decide) rfl ?_
  refine z_callVi (n := 0) (isC := [10, 11]) (isR := [0, 1, 2, 3, 4, 5, 6, 7, 8, 9]) (isP := [0, 1, 2, 3, 4, 5, 6, 7, 8, 9, 10, 11]) (As := []) (rest := []) (wr := [(o, .inr (4, [.ref h, .ref b, .ref e])), (h, .inr (3, [.ref ha, .int bm])), (ha, .inl (g.2.1, 400, .inl Bf)), (e, .inr (2, [.ref b, .ref d, .ref c, .int rp, .int hf, .int pl, .int bg, .int lo, .int fp, .int fb])), (d, .inr (1, [.ref dw, .ref dy, .int dm, .int da])), (dw, .inl (g.2.2.1, 100, .inl Wf)), (dy, .inl (g.2.2.1, 100, .inl Yf)), (c, .inr (3, [.ref ca, .int cm])), (ca, .inl (g.2.1, 4096, .inl Cf)), (b, .inr (0, [.ref br, .int z]))]) (ws2 := [(o, .inr (4, [.ref h, .ref b, .ref e])), (h, .inr (3, [.ref ha, .int bm])), (ha, .inl (g.2.1, 400, .inl Bf)), (e, .inr (2, [.ref b, .ref d, .ref c, .int rp, .int hf, .int pl, .int bg, .int lo, .int fp, .int fb])), (d, .inr (1, [.ref dw, .ref dy, .int dm, .int da])), (dw, .inl (g.2.2.1, 100, .inl Wf)), (dy, .inl (g.2.2.1, 100, .inl Yf)), (c, .inr (3, [.ref ca, .int cm])), (ca, .inl (g.2.1, 4096, .inl Cf)), (b, .inr (0, [.ref br, .int z])), (br, .inr (3, [.ref ba, .int m])), (ba, .inl (g.2.1, 4096, .inl F))]) C dX5_cut_7 (c_X3_many (zl X) g br ba 4096 F m) gX5_cut_X3_many rfl ⟨rfl, rfl⟩ (by decide +kernel) (by decide) (by decide) rfl rfl rfl rfl (Nat.le_of_ble_eq_true rfl) rfl rfl ⟨rfl, rfl, rfl⟩ (by decide) rfl ?_
  refine z_istore_n (lv' := [(2, .int m), (0, .ref o), (1, .int v)]) C dX5_cut_10 rfl (by decide) rfl ?_
  refine z_iload_n C dX5_cut_11 rfl 2 rfl ?_
  refine z_if_lt (tgt := 20) C dX5_cut_12 (by decide) (fun c_3 => ?_) (fun c_3 => ?_)
  · skip
    have hx : (x_X5_cut m v) = some zIAE := by simp only [x_X5_cut, if_pos c_3]
    exact hthr 20 _ 34 118 38 zIAE "the log has not so many bytes" dX5_cut_20 dX5_cut_23 dX5_cut_24 dX5_cut_26 dX5_cut_29 (List.mem_of_getElem? (i := 1) rfl) (List.mem_of_getElem? (i := 2) rfl) (fun w h => List.mem_cons_of_mem _ (List.mem_append_right _ h)) zat38 (zot_c zot38) (List.mem_of_getElem? (i := 6) rfl) (by decide) hx
  · skip
    refine z_iload_n C dX5_cut_15 rfl 2 rfl ?_
    refine z_iload_n C dX5_cut_16 rfl 0 rfl ?_
    refine z_icmp_le (tgt := 30) C dX5_cut_17 (by decide) (fun c_4 => ?_) (fun c_4 => ?_)
    · skip
      refine z_aload_n C dX5_cut_30 rfl 1 rfl ?_
      refine z_get (ci := 4) (v := .ref b) (Cn := RX5) (T := TX5) (N := 3) C dX5_cut_31 (fun w h => List.mem_cons_of_mem _ (List.mem_append_left _ (List.mem_append_left _ (List.mem_append_left _ (List.mem_append_left _ (List.mem_append_left _ (List.mem_append_right _ h))))))) 0 rfl rfl 1 (by decide) (List.mem_of_getElem? (i := 3) rfl) rfl rfl ?_
      refine z_callVr (n := 0) (isC := [9, 10, 11]) (isR := [0, 1, 2, 3, 4, 5, 6, 7, 8]) (isP := [0, 1, 2, 3, 4, 5, 6, 7, 8, 9, 10, 11]) (As := []) (rest := []) (wr := [(o, .inr (4, [.ref h, .ref b, .ref e])), (h, .inr (3, [.ref ha, .int bm])), (ha, .inl (g.2.1, 400, .inl Bf)), (e, .inr (2, [.ref b, .ref d, .ref c, .int rp, .int hf, .int pl, .int bg, .int lo, .int fp, .int fb])), (d, .inr (1, [.ref dw, .ref dy, .int dm, .int da])), (dw, .inl (g.2.2.1, 100, .inl Wf)), (dy, .inl (g.2.2.1, 100, .inl Yf)), (c, .inr (3, [.ref ca, .int cm])), (ca, .inl (g.2.1, 4096, .inl Cf))]) (ws2 := [(o, .inr (4, [.ref h, .ref b, .ref e])), (h, .inr (3, [.ref ha, .int bm])), (ha, .inl (g.2.1, 400, .inl Bf)), (e, .inr (2, [.ref b, .ref d, .ref c, .int rp, .int hf, .int pl, .int bg, .int lo, .int fp, .int fb])), (d, .inr (1, [.ref dw, .ref dy, .int dm, .int da])), (dw, .inl (g.2.2.1, 100, .inl Wf)), (dy, .inl (g.2.2.1, 100, .inl Yf)), (c, .inr (3, [.ref ca, .int cm])), (ca, .inl (g.2.1, 4096, .inl Cf)), (b, .inr (0, [.ref br, .int z])), (br, .inr (3, [.ref ba, .int m])), (ba, .inl (g.2.1, 4096, .inl F))]) C dX5_cut_34 (c_X0_bytes (zl X) g b br ba F z m) gX5_cut_X0_bytes rfl ⟨rfl, rfl⟩ (by decide +kernel) (by decide) (by decide) rfl rfl rfl rfl (Nat.le_of_ble_eq_true rfl) rfl rfl ⟨rfl, rfl, rfl⟩ (by decide) rfl ?_
      refine z_iload_n C dX5_cut_37 rfl 2 rfl ?_
      refine z_callVv (n := 1) (isC := [10, 11]) (isR := [0, 1, 2, 3, 4, 5, 6, 7, 8, 9]) (isP := [0, 1, 2, 3, 4, 5, 6, 7, 8, 9, 10, 11]) (As := [.int v]) (rest := []) (wr := [(o, .inr (4, [.ref h, .ref b, .ref e])), (h, .inr (3, [.ref ha, .int bm])), (ha, .inl (g.2.1, 400, .inl Bf)), (e, .inr (2, [.ref b, .ref d, .ref c, .int rp, .int hf, .int pl, .int bg, .int lo, .int fp, .int fb])), (d, .inr (1, [.ref dw, .ref dy, .int dm, .int da])), (dw, .inl (g.2.2.1, 100, .inl Wf)), (dy, .inl (g.2.2.1, 100, .inl Yf)), (c, .inr (3, [.ref ca, .int cm])), (ca, .inl (g.2.1, 4096, .inl Cf)), (b, .inr (0, [.ref br, .int z]))]) (ws2 := [(o, .inr (4, [.ref h, .ref b, .ref e])), (h, .inr (3, [.ref ha, .int bm])), (ha, .inl (g.2.1, 400, .inl Bf)), (e, .inr (2, [.ref b, .ref d, .ref c, .int rp, .int hf, .int pl, .int bg, .int lo, .int fp, .int fb])), (d, .inr (1, [.ref dw, .ref dy, .int dm, .int da])), (dw, .inl (g.2.2.1, 100, .inl Wf)), (dy, .inl (g.2.2.1, 100, .inl Yf)), (c, .inr (3, [.ref ca, .int cm])), (ca, .inl (g.2.1, 4096, .inl Cf)), (b, .inr (0, [.ref br, .int z])), (br, .inr (3, [.ref ba, .int (f_X3_shorten m v)])), (ba, .inl (g.2.1, 4096, .inl F))]) C dX5_cut_38 (c_X3_shorten (zl X) g br ba 4096 F m v hm) gX5_cut_X3_shorten rfl ⟨rfl, rfl⟩ (by decide +kernel) (by decide) (by decide) rfl rfl rfl rfl (Nat.le_of_ble_eq_true rfl) rfl rfl ⟨rfl, rfl, rfl⟩ (by decide) rfl ?_
      generalize hT6 : (f_X3_shorten m v) = mq6
      have k6_m : zok 4096 mq6 := zok_X3_shorten hm hT6
      refine z_aload_n C dX5_cut_41 rfl 1 rfl ?_
      refine z_get (ci := 4) (v := .ref e) (Cn := RX5) (T := TX5) (N := 3) C dX5_cut_42 (fun w h => List.mem_cons_of_mem _ (List.mem_append_left _ (List.mem_append_left _ (List.mem_append_left _ (List.mem_append_left _ (List.mem_append_left _ (List.mem_append_right _ h))))))) 0 rfl rfl 2 (by decide) (List.mem_of_getElem? (i := 4) rfl) rfl rfl ?_
      refine z_iconst (v := 0) C dX5_cut_45 (by decide) ?_
      refine z_callVv (n := 1) (isC := [3, 4, 5, 6, 7, 8, 9, 10, 11]) (isR := [0, 1, 2]) (isP := [0, 1, 2, 3, 4, 5, 6, 7, 8, 9, 10, 11]) (As := [.int 0]) (rest := []) (wr := [(o, .inr (4, [.ref h, .ref b, .ref e])), (h, .inr (3, [.ref ha, .int bm])), (ha, .inl (g.2.1, 400, .inl Bf))]) (ws2 := [(o, .inr (4, [.ref h, .ref b, .ref e])), (h, .inr (3, [.ref ha, .int bm])), (ha, .inl (g.2.1, 400, .inl Bf)), (e, .inr (2, [.ref b, .ref d, .ref c, .int rp, .int hf, .int ((f_X2_beginAt z 0).1), .int ((f_X2_beginAt z 0).2.1), .int ((f_X2_beginAt z 0).2.2.1), .int fp, .int fb])), (d, .inr (1, [.ref dw, .ref dy, .int ((f_X2_beginAt z 0).2.2.2.1), .int ((f_X2_beginAt z 0).2.2.2.2)])), (dw, .inl (g.2.2.1, 100, .inl Wf)), (dy, .inl (g.2.2.1, 100, .inl Yf)), (c, .inr (3, [.ref ca, .int cm])), (ca, .inl (g.2.1, 4096, .inl Cf)), (b, .inr (0, [.ref br, .int z])), (br, .inr (3, [.ref ba, .int mq6])), (ba, .inl (g.2.1, 4096, .inl F))]) C dX5_cut_46 (c_X2_beginAt (zl X) g e b d c dw dy ca br ba Wf Yf Cf F rp hf pl bg lo fp fb dm da cm z mq6 0 hz) gX5_cut_X2_beginAt rfl ⟨rfl, rfl⟩ (by decide +kernel) (by decide) (by decide) rfl rfl rfl rfl (Nat.le_of_ble_eq_true rfl) rfl rfl ⟨rfl, rfl, rfl⟩ (by decide) rfl ?_
      generalize hT7 : (f_X2_beginAt z 0) = T7
      obtain ⟨plq7, bgq7, loq7, dmq7, daq7⟩ := T7
      refine z_iload_n C dX5_cut_49 rfl 0 rfl ?_
      refine z_iload_n C dX5_cut_50 rfl 2 rfl ?_
      refine z_isub C dX5_cut_51 ?_
      have he : (f_X5_cut pl bg lo dm da z m v) = ((m - v), plq7, bgq7, loq7, dmq7, daq7, mq6) := by simp only [f_X5_cut, if_neg c_3, if_pos c_4, hT6, hT7]
      have hx : (x_X5_cut m v) = none := by simp only [x_X5_cut, if_neg c_3, if_pos c_4, hT6, hT7]
      exact hret _ _ _ _ dX5_cut_52 hx (by first | rw [he] | rfl) (by first | rw [he] | rfl)
    · skip
      have hx : (x_X5_cut m v) = some zIAE := by simp only [x_X5_cut, if_neg c_3, if_neg c_4]
      exact hthr 20 _ 34 118 38 zIAE "the log has not so many bytes" dX5_cut_20 dX5_cut_23 dX5_cut_24 dX5_cut_26 dX5_cut_29 (List.mem_of_getElem? (i := 1) rfl) (List.mem_of_getElem? (i := 2) rfl) (fun w h => List.mem_cons_of_mem _ (List.mem_append_right _ h)) zat38 (zot_c zot38) (List.mem_of_getElem? (i := 6) rfl) (by decide) hx
def f_X5_begin (pl : Int32) (bg : Int32) (lo : Int32) (dm : Int32) (da : Int32) (z : Int32) (v : Int32) : Int32 × Int32 × Int32 × Int32 × Int32 × Int32 :=
  if v < 0 then
    (0, pl, bg, lo, dm, da)
  else
    if v ≤ 4096 then
      match (f_X2_beginAt z v) with
      | (plq3, bgq3, loq3, dmq3, daq3) =>
        (plq3, plq3, bgq3, loq3, dmq3, daq3)
    else
      (0, pl, bg, lo, dm, da)
def x_X5_begin (v : Int32) : Option String :=
  if v < 0 then
    some zIAE
  else
    if v ≤ 4096 then
      none
    else
      some zIAE
set_option maxHeartbeats 4000000 in
set_option maxRecDepth 100000 in
theorem c_X5_begin (l : Launch) (hl : l.stackTraces = false) (g : zG) (o h b e ha d c dw dy ca br ba : Nat) (Bf : Nat → Int32) (Wf : Nat → Int32) (Yf : Nat → Int32) (Cf : Nat → Int32) (F : Nat → Int32) (bm : Int32) (rp : Int32) (hf : Int32) (pl : Int32) (bg : Int32) (lo : Int32) (fp : Int32) (fb : Int32) (dm : Int32) (da : Int32) (cm : Int32) (z : Int32) (m : Int32) (v : Int32) (hz : zsz z) : zXI l yX5_begin wsX5_begin ({ frames := 6, cells := 1, slots := 6, locals := 82 }) g [.ref o, .int v] [(o, .inr (4, [.ref h, .ref b, .ref e])), (h, .inr (3, [.ref ha, .int bm])), (ha, .inl (g.2.1, 400, .inl Bf)), (e, .inr (2, [.ref b, .ref d, .ref c, .int rp, .int hf, .int pl, .int bg, .int lo, .int fp, .int fb])), (d, .inr (1, [.ref dw, .ref dy, .int dm, .int da])), (dw, .inl (g.2.2.1, 100, .inl Wf)), (dy, .inl (g.2.2.1, 100, .inl Yf)), (c, .inr (3, [.ref ca, .int cm])), (ca, .inl (g.2.1, 4096, .inl Cf)), (b, .inr (0, [.ref br, .int z])), (br, .inr (3, [.ref ba, .int m])), (ba, .inl (g.2.1, 4096, .inl F))] (x_X5_begin v) ((f_X5_begin pl bg lo dm da z v).1) [(o, .inr (4, [.ref h, .ref b, .ref e])), (h, .inr (3, [.ref ha, .int bm])), (ha, .inl (g.2.1, 400, .inl Bf)), (e, .inr (2, [.ref b, .ref d, .ref c, .int rp, .int hf, .int ((f_X5_begin pl bg lo dm da z v).2.1), .int ((f_X5_begin pl bg lo dm da z v).2.2.1), .int ((f_X5_begin pl bg lo dm da z v).2.2.2.1), .int fp, .int fb])), (d, .inr (1, [.ref dw, .ref dy, .int ((f_X5_begin pl bg lo dm da z v).2.2.2.2.1), .int ((f_X5_begin pl bg lo dm da z v).2.2.2.2.2)])), (dw, .inl (g.2.2.1, 100, .inl Wf)), (dy, .inl (g.2.2.1, 100, .inl Yf)), (c, .inr (3, [.ref ca, .int cm])), (ca, .inl (g.2.1, 4096, .inl Cf)), (b, .inr (0, [.ref br, .int z])), (br, .inr (3, [.ref ba, .int m])), (ba, .inl (g.2.1, 4096, .inl F))] := by
  refine zXI_of (cc := cX5_begin) (nL := 2) (ty := .int) hl rfl (by decide) rfl (Nat.le_of_ble_eq_true rfl) rfl (by decide) ?_
  intro X C hret hthr
  refine z_lv (lv' := [(0, .ref o), (1, .int v)]) [0, 1] rfl ?_
  refine z_iload_n C dX5_begin_0 rfl 1 rfl ?_
  refine z_if_lt (tgt := 11) C dX5_begin_1 (by decide) (fun c_1 => ?_) (fun c_1 => ?_)
  · skip
    have hx : (x_X5_begin v) = some zIAE := by simp only [x_X5_begin, if_pos c_1]
    exact hthr 11 _ 34 120 38 zIAE "a place is 0 .. 4096" dX5_begin_11 dX5_begin_14 dX5_begin_15 dX5_begin_17 dX5_begin_20 (List.mem_of_getElem? (i := 1) rfl) (List.mem_of_getElem? (i := 2) rfl) (fun w h => List.mem_cons_of_mem _ (List.mem_append_right _ h)) zat38 (zot_c zot38) (List.mem_of_getElem? (i := 7) rfl) (by decide) hx
  · skip
    refine z_iload_n C dX5_begin_4 rfl 1 rfl ?_
    refine z_sipush (v := 4096) C dX5_begin_5 (by decide) ?_
    refine z_icmp_le (tgt := 21) C dX5_begin_8 (by decide) (fun c_2 => ?_) (fun c_2 => ?_)
    · skip
      refine z_aload_n C dX5_begin_21 rfl 0 rfl ?_
      refine z_get (ci := 4) (v := .ref e) (Cn := RX5) (T := TX5) (N := 3) C dX5_begin_22 (fun w h => List.mem_cons_of_mem _ (List.mem_append_left _ (List.mem_append_left _ (List.mem_append_left _ (List.mem_append_left _ (List.mem_append_right _ h)))))) 0 rfl rfl 2 (by decide) (List.mem_of_getElem? (i := 3) rfl) rfl rfl ?_
      refine z_iload_n C dX5_begin_25 rfl 1 rfl ?_
      refine z_callVv (n := 1) (isC := [3, 4, 5, 6, 7, 8, 9, 10, 11]) (isR := [0, 1, 2]) (isP := [0, 1, 2, 3, 4, 5, 6, 7, 8, 9, 10, 11]) (As := [.int v]) (rest := []) (wr := [(o, .inr (4, [.ref h, .ref b, .ref e])), (h, .inr (3, [.ref ha, .int bm])), (ha, .inl (g.2.1, 400, .inl Bf))]) (ws2 := [(o, .inr (4, [.ref h, .ref b, .ref e])), (h, .inr (3, [.ref ha, .int bm])), (ha, .inl (g.2.1, 400, .inl Bf)), (e, .inr (2, [.ref b, .ref d, .ref c, .int rp, .int hf, .int ((f_X2_beginAt z v).1), .int ((f_X2_beginAt z v).2.1), .int ((f_X2_beginAt z v).2.2.1), .int fp, .int fb])), (d, .inr (1, [.ref dw, .ref dy, .int ((f_X2_beginAt z v).2.2.2.1), .int ((f_X2_beginAt z v).2.2.2.2)])), (dw, .inl (g.2.2.1, 100, .inl Wf)), (dy, .inl (g.2.2.1, 100, .inl Yf)), (c, .inr (3, [.ref ca, .int cm])), (ca, .inl (g.2.1, 4096, .inl Cf)), (b, .inr (0, [.ref br, .int z])), (br, .inr (3, [.ref ba, .int m])), (ba, .inl (g.2.1, 4096, .inl F))]) C dX5_begin_26 (c_X2_beginAt (zl X) g e b d c dw dy ca br ba Wf Yf Cf F rp hf pl bg lo fp fb dm da cm z m v hz) gX5_begin_X2_beginAt rfl ⟨rfl, rfl⟩ (by decide +kernel) (by decide) (by decide) rfl rfl rfl rfl (Nat.le_of_ble_eq_true rfl) rfl rfl ⟨rfl, rfl, rfl⟩ (by decide) rfl ?_
      generalize hT3 : (f_X2_beginAt z v) = T3
      obtain ⟨plq3, bgq3, loq3, dmq3, daq3⟩ := T3
      refine z_aload_n C dX5_begin_29 rfl 0 rfl ?_
      refine z_get (ci := 4) (v := .ref e) (Cn := RX5) (T := TX5) (N := 3) C dX5_begin_30 (fun w h => List.mem_cons_of_mem _ (List.mem_append_left _ (List.mem_append_left _ (List.mem_append_left _ (List.mem_append_left _ (List.mem_append_right _ h)))))) 0 rfl rfl 2 (by decide) (List.mem_of_getElem? (i := 3) rfl) rfl rfl ?_
      refine z_callVi (n := 0) (isC := [3, 4, 5, 6, 7, 8, 9, 10, 11]) (isR := [0, 1, 2]) (isP := [0, 1, 2, 3, 4, 5, 6, 7, 8, 9, 10, 11]) (As := []) (rest := []) (wr := [(o, .inr (4, [.ref h, .ref b, .ref e])), (h, .inr (3, [.ref ha, .int bm])), (ha, .inl (g.2.1, 400, .inl Bf))]) (ws2 := [(o, .inr (4, [.ref h, .ref b, .ref e])), (h, .inr (3, [.ref ha, .int bm])), (ha, .inl (g.2.1, 400, .inl Bf)), (e, .inr (2, [.ref b, .ref d, .ref c, .int rp, .int hf, .int plq3, .int bgq3, .int loq3, .int fp, .int fb])), (d, .inr (1, [.ref dw, .ref dy, .int dmq3, .int daq3])), (dw, .inl (g.2.2.1, 100, .inl Wf)), (dy, .inl (g.2.2.1, 100, .inl Yf)), (c, .inr (3, [.ref ca, .int cm])), (ca, .inl (g.2.1, 4096, .inl Cf)), (b, .inr (0, [.ref br, .int z])), (br, .inr (3, [.ref ba, .int m])), (ba, .inl (g.2.1, 4096, .inl F))]) C dX5_begin_33 (c_X2_place (zl X) g e b d c dw dy ca br ba Wf Yf Cf F rp hf plq3 bgq3 loq3 fp fb dmq3 daq3 cm z m) gX5_begin_X2_place rfl ⟨rfl, rfl⟩ (by decide +kernel) (by decide) (by decide) rfl rfl rfl rfl (Nat.le_of_ble_eq_true rfl) rfl rfl ⟨rfl, rfl, rfl⟩ (by decide) rfl ?_
      have he : (f_X5_begin pl bg lo dm da z v) = (plq3, plq3, bgq3, loq3, dmq3, daq3) := by simp only [f_X5_begin, if_neg c_1, if_pos c_2, hT3]
      have hx : (x_X5_begin v) = none := by simp only [x_X5_begin, if_neg c_1, if_pos c_2, hT3]
      exact hret _ _ _ _ dX5_begin_36 hx (by first | rw [he] | rfl) (by first | rw [he] | rfl)
    · skip
      have hx : (x_X5_begin v) = some zIAE := by simp only [x_X5_begin, if_neg c_1, if_neg c_2]
      exact hthr 11 _ 34 120 38 zIAE "a place is 0 .. 4096" dX5_begin_11 dX5_begin_14 dX5_begin_15 dX5_begin_17 dX5_begin_20 (List.mem_of_getElem? (i := 1) rfl) (List.mem_of_getElem? (i := 2) rfl) (fun w h => List.mem_cons_of_mem _ (List.mem_append_right _ h)) zat38 (zot_c zot38) (List.mem_of_getElem? (i := 7) rfl) (by decide) hx
def f_X5_count (bm : Int32) (pl : Int32) (lo : Int32) (dm : Int32) (da : Int32) (m : Int32) (v : Int32) : Int32 :=
  if v = 0 then
    m
  else
    if v = 1 then
      pl
    else
      if v = 2 then
        if lo = 0 then
          0
        else
          1
      else
        if v = 3 then
          dm
        else
          if v = 4 then
            da
          else
            if v = 5 then
              bm
            else
              0
def x_X5_count (v : Int32) : Option String :=
  if v = 0 then
    none
  else
    if v = 1 then
      none
    else
      if v = 2 then
        none
      else
        if v = 3 then
          none
        else
          if v = 4 then
            none
          else
            if v = 5 then
              none
            else
              some zIAE
set_option maxHeartbeats 4000000 in
set_option maxRecDepth 100000 in
theorem c_X5_count (l : Launch) (hl : l.stackTraces = false) (g : zG) (o h b e ha d c dw dy ca br ba : Nat) (Bf : Nat → Int32) (Wf : Nat → Int32) (Yf : Nat → Int32) (Cf : Nat → Int32) (F : Nat → Int32) (bm : Int32) (rp : Int32) (hf : Int32) (pl : Int32) (bg : Int32) (lo : Int32) (fp : Int32) (fb : Int32) (dm : Int32) (da : Int32) (cm : Int32) (z : Int32) (m : Int32) (v : Int32) (hlo : zbo lo) : zXI l yX5_count wsX5_count ({ frames := 6, cells := 1, slots := 6, locals := 82 }) g [.ref o, .int v] [(o, .inr (4, [.ref h, .ref b, .ref e])), (h, .inr (3, [.ref ha, .int bm])), (ha, .inl (g.2.1, 400, .inl Bf)), (e, .inr (2, [.ref b, .ref d, .ref c, .int rp, .int hf, .int pl, .int bg, .int lo, .int fp, .int fb])), (d, .inr (1, [.ref dw, .ref dy, .int dm, .int da])), (dw, .inl (g.2.2.1, 100, .inl Wf)), (dy, .inl (g.2.2.1, 100, .inl Yf)), (c, .inr (3, [.ref ca, .int cm])), (ca, .inl (g.2.1, 4096, .inl Cf)), (b, .inr (0, [.ref br, .int z])), (br, .inr (3, [.ref ba, .int m])), (ba, .inl (g.2.1, 4096, .inl F))] (x_X5_count v) (f_X5_count bm pl lo dm da m v) [(o, .inr (4, [.ref h, .ref b, .ref e])), (h, .inr (3, [.ref ha, .int bm])), (ha, .inl (g.2.1, 400, .inl Bf)), (e, .inr (2, [.ref b, .ref d, .ref c, .int rp, .int hf, .int pl, .int bg, .int lo, .int fp, .int fb])), (d, .inr (1, [.ref dw, .ref dy, .int dm, .int da])), (dw, .inl (g.2.2.1, 100, .inl Wf)), (dy, .inl (g.2.2.1, 100, .inl Yf)), (c, .inr (3, [.ref ca, .int cm])), (ca, .inl (g.2.1, 4096, .inl Cf)), (b, .inr (0, [.ref br, .int z])), (br, .inr (3, [.ref ba, .int m])), (ba, .inl (g.2.1, 4096, .inl F))] := by
  refine zXI_of (cc := cX5_count) (nL := 2) (ty := .int) hl rfl (by decide) rfl (Nat.le_of_ble_eq_true rfl) rfl (by decide) ?_
  intro X C hret hthr
  refine z_lv (lv' := [(0, .ref o), (1, .int v)]) [0, 1] rfl ?_
  refine z_iload_n C dX5_count_0 rfl 1 rfl ?_
  by_cases c_1 : v = 0
  · refine z_tableIn (off := 39) (tgt := 40) C dX5_count_1 (by rw [c_1]; decide) (by rw [c_1]; decide) (by rw [c_1]; decide) (by decide) ?_
    refine z_aload_n C dX5_count_40 rfl 0 rfl ?_
    refine z_get (ci := 4) (v := .ref b) (Cn := RX5) (T := TX5) (N := 3) C dX5_count_41 (fun w h => List.mem_cons_of_mem _ (List.mem_append_left _ (List.mem_append_left _ (List.mem_append_left _ (List.mem_append_left _ (List.mem_append_left _ (List.mem_append_right _ h))))))) 0 rfl rfl 1 (by decide) (List.mem_of_getElem? (i := 3) rfl) rfl rfl ?_
    refine z_callVr (n := 0) (isC := [9, 10, 11]) (isR := [0, 1, 2, 3, 4, 5, 6, 7, 8]) (isP := [0, 1, 2, 3, 4, 5, 6, 7, 8, 9, 10, 11]) (As := []) (rest := []) (wr := [(o, .inr (4, [.ref h, .ref b, .ref e])), (h, .inr (3, [.ref ha, .int bm])), (ha, .inl (g.2.1, 400, .inl Bf)), (e, .inr (2, [.ref b, .ref d, .ref c, .int rp, .int hf, .int pl, .int bg, .int lo, .int fp, .int fb])), (d, .inr (1, [.ref dw, .ref dy, .int dm, .int da])), (dw, .inl (g.2.2.1, 100, .inl Wf)), (dy, .inl (g.2.2.1, 100, .inl Yf)), (c, .inr (3, [.ref ca, .int cm])), (ca, .inl (g.2.1, 4096, .inl Cf))]) (ws2 := [(o, .inr (4, [.ref h, .ref b, .ref e])), (h, .inr (3, [.ref ha, .int bm])), (ha, .inl (g.2.1, 400, .inl Bf)), (e, .inr (2, [.ref b, .ref d, .ref c, .int rp, .int hf, .int pl, .int bg, .int lo, .int fp, .int fb])), (d, .inr (1, [.ref dw, .ref dy, .int dm, .int da])), (dw, .inl (g.2.2.1, 100, .inl Wf)), (dy, .inl (g.2.2.1, 100, .inl Yf)), (c, .inr (3, [.ref ca, .int cm])), (ca, .inl (g.2.1, 4096, .inl Cf)), (b, .inr (0, [.ref br, .int z])), (br, .inr (3, [.ref ba, .int m])), (ba, .inl (g.2.1, 4096, .inl F))]) C dX5_count_44 (c_X0_bytes (zl X) g b br ba F z m) gX5_count_X0_bytes rfl ⟨rfl, rfl⟩ (by decide +kernel) (by decide) (by decide) rfl rfl rfl rfl (Nat.le_of_ble_eq_true rfl) rfl rfl ⟨rfl, rfl, rfl⟩ (by decide) rfl ?_
    refine z_callVi (n := 0) (isC := [10, 11]) (isR := [0, 1, 2, 3, 4, 5, 6, 7, 8, 9]) (isP := [0, 1, 2, 3, 4, 5, 6, 7, 8, 9, 10, 11]) (As := []) (rest := []) (wr := [(o, .inr (4, [.ref h, .ref b, .ref e])), (h, .inr (3, [.ref ha, .int bm])), (ha, .inl (g.2.1, 400, .inl Bf)), (e, .inr (2, [.ref b, .ref d, .ref c, .int rp, .int hf, .int pl, .int bg, .int lo, .int fp, .int fb])), (d, .inr (1, [.ref dw, .ref dy, .int dm, .int da])), (dw, .inl (g.2.2.1, 100, .inl Wf)), (dy, .inl (g.2.2.1, 100, .inl Yf)), (c, .inr (3, [.ref ca, .int cm])), (ca, .inl (g.2.1, 4096, .inl Cf)), (b, .inr (0, [.ref br, .int z]))]) (ws2 := [(o, .inr (4, [.ref h, .ref b, .ref e])), (h, .inr (3, [.ref ha, .int bm])), (ha, .inl (g.2.1, 400, .inl Bf)), (e, .inr (2, [.ref b, .ref d, .ref c, .int rp, .int hf, .int pl, .int bg, .int lo, .int fp, .int fb])), (d, .inr (1, [.ref dw, .ref dy, .int dm, .int da])), (dw, .inl (g.2.2.1, 100, .inl Wf)), (dy, .inl (g.2.2.1, 100, .inl Yf)), (c, .inr (3, [.ref ca, .int cm])), (ca, .inl (g.2.1, 4096, .inl Cf)), (b, .inr (0, [.ref br, .int z])), (br, .inr (3, [.ref ba, .int m])), (ba, .inl (g.2.1, 4096, .inl F))]) C dX5_count_47 (c_X3_many (zl X) g br ba 4096 F m) gX5_count_X3_many rfl ⟨rfl, rfl⟩ (by decide +kernel) (by decide) (by decide) rfl rfl rfl rfl (Nat.le_of_ble_eq_true rfl) rfl rfl ⟨rfl, rfl, rfl⟩ (by decide) rfl ?_
    have he : (f_X5_count bm pl lo dm da m v) = m := by simp only [f_X5_count, if_pos c_1]
    have hx : (x_X5_count v) = none := by simp only [x_X5_count, if_pos c_1]
    exact hret _ _ _ _ dX5_count_50 hx (by first | rw [he] | rfl) (by first | rw [he] | rfl)
  · skip
    by_cases c_4 : v = 1
    · refine z_tableIn (off := 50) (tgt := 51) C dX5_count_1 (by rw [c_4]; decide) (by rw [c_4]; decide) (by rw [c_4]; decide) (by decide) ?_
      refine z_aload_n C dX5_count_51 rfl 0 rfl ?_
      refine z_get (ci := 4) (v := .ref e) (Cn := RX5) (T := TX5) (N := 3) C dX5_count_52 (fun w h => List.mem_cons_of_mem _ (List.mem_append_left _ (List.mem_append_left _ (List.mem_append_left _ (List.mem_append_left _ (List.mem_append_left _ (List.mem_append_right _ h))))))) 0 rfl rfl 2 (by decide) (List.mem_of_getElem? (i := 4) rfl) rfl rfl ?_
      refine z_callVi (n := 0) (isC := [3, 4, 5, 6, 7, 8, 9, 10, 11]) (isR := [0, 1, 2]) (isP := [0, 1, 2, 3, 4, 5, 6, 7, 8, 9, 10, 11]) (As := []) (rest := []) (wr := [(o, .inr (4, [.ref h, .ref b, .ref e])), (h, .inr (3, [.ref ha, .int bm])), (ha, .inl (g.2.1, 400, .inl Bf))]) (ws2 := [(o, .inr (4, [.ref h, .ref b, .ref e])), (h, .inr (3, [.ref ha, .int bm])), (ha, .inl (g.2.1, 400, .inl Bf)), (e, .inr (2, [.ref b, .ref d, .ref c, .int rp, .int hf, .int pl, .int bg, .int lo, .int fp, .int fb])), (d, .inr (1, [.ref dw, .ref dy, .int dm, .int da])), (dw, .inl (g.2.2.1, 100, .inl Wf)), (dy, .inl (g.2.2.1, 100, .inl Yf)), (c, .inr (3, [.ref ca, .int cm])), (ca, .inl (g.2.1, 4096, .inl Cf)), (b, .inr (0, [.ref br, .int z])), (br, .inr (3, [.ref ba, .int m])), (ba, .inl (g.2.1, 4096, .inl F))]) C dX5_count_55 (c_X2_place (zl X) g e b d c dw dy ca br ba Wf Yf Cf F rp hf pl bg lo fp fb dm da cm z m) gX5_count_X2_place rfl ⟨rfl, rfl⟩ (by decide +kernel) (by decide) (by decide) rfl rfl rfl rfl (Nat.le_of_ble_eq_true rfl) rfl rfl ⟨rfl, rfl, rfl⟩ (by decide) rfl ?_
      have he : (f_X5_count bm pl lo dm da m v) = pl := by simp only [f_X5_count, if_neg c_1, if_pos c_4]
      have hx : (x_X5_count v) = none := by simp only [x_X5_count, if_neg c_1, if_pos c_4]
      exact hret _ _ _ _ dX5_count_58 hx (by first | rw [he] | rfl) (by first | rw [he] | rfl)
    · skip
      by_cases c_6 : v = 2
      · refine z_tableIn (off := 58) (tgt := 59) C dX5_count_1 (by rw [c_6]; decide) (by rw [c_6]; decide) (by rw [c_6]; decide) (by decide) ?_
        refine z_aload_n C dX5_count_59 rfl 0 rfl ?_
        refine z_get (ci := 4) (v := .ref e) (Cn := RX5) (T := TX5) (N := 3) C dX5_count_60 (fun w h => List.mem_cons_of_mem _ (List.mem_append_left _ (List.mem_append_left _ (List.mem_append_left _ (List.mem_append_left _ (List.mem_append_left _ (List.mem_append_right _ h))))))) 0 rfl rfl 2 (by decide) (List.mem_of_getElem? (i := 4) rfl) rfl rfl ?_
        refine z_callVi (n := 0) (isC := [3, 4, 5, 6, 7, 8, 9, 10, 11]) (isR := [0, 1, 2]) (isP := [0, 1, 2, 3, 4, 5, 6, 7, 8, 9, 10, 11]) (As := []) (rest := []) (wr := [(o, .inr (4, [.ref h, .ref b, .ref e])), (h, .inr (3, [.ref ha, .int bm])), (ha, .inl (g.2.1, 400, .inl Bf))]) (ws2 := [(o, .inr (4, [.ref h, .ref b, .ref e])), (h, .inr (3, [.ref ha, .int bm])), (ha, .inl (g.2.1, 400, .inl Bf)), (e, .inr (2, [.ref b, .ref d, .ref c, .int rp, .int hf, .int pl, .int bg, .int lo, .int fp, .int fb])), (d, .inr (1, [.ref dw, .ref dy, .int dm, .int da])), (dw, .inl (g.2.2.1, 100, .inl Wf)), (dy, .inl (g.2.2.1, 100, .inl Yf)), (c, .inr (3, [.ref ca, .int cm])), (ca, .inl (g.2.1, 4096, .inl Cf)), (b, .inr (0, [.ref br, .int z])), (br, .inr (3, [.ref ba, .int m])), (ba, .inl (g.2.1, 4096, .inl F))]) C dX5_count_63 (c_X2_isLost (zl X) g e b d c dw dy ca br ba Wf Yf Cf F rp hf pl bg lo fp fb dm da cm z m hlo) gX5_count_X2_isLost rfl ⟨rfl, rfl⟩ (by decide +kernel) (by decide) (by decide) rfl rfl rfl rfl (Nat.le_of_ble_eq_true rfl) rfl rfl ⟨rfl, rfl, rfl⟩ (by decide) rfl ?_
        refine z_if_eq (tgt := 73) C dX5_count_66 (by decide) (fun c_8 => ?_) (fun c_8 => ?_)
        · skip
          refine z_iconst (v := 0) C dX5_count_73 (by decide) ?_
          have he : (f_X5_count bm pl lo dm da m v) = 0 := by simp only [f_X5_count, if_neg c_1, if_neg c_4, if_pos c_6, if_pos c_8]
          have hx : (x_X5_count v) = none := by simp only [x_X5_count, if_neg c_1, if_neg c_4, if_pos c_6, if_pos c_8]
          exact hret _ _ _ _ dX5_count_74 hx (by first | rw [he] | rfl) (by first | rw [he] | rfl)
        · skip
          refine z_iconst (v := 1) C dX5_count_69 (by decide) ?_
          refine z_goto (tgt := 74) C dX5_count_70 (by decide) ?_
          have he : (f_X5_count bm pl lo dm da m v) = 1 := by simp only [f_X5_count, if_neg c_1, if_neg c_4, if_pos c_6, if_neg c_8]
          have hx : (x_X5_count v) = none := by simp only [x_X5_count, if_neg c_1, if_neg c_4, if_pos c_6, if_neg c_8]
          exact hret _ _ _ _ dX5_count_74 hx (by first | rw [he] | rfl) (by first | rw [he] | rfl)
      · skip
        by_cases c_9 : v = 3
        · refine z_tableIn (off := 74) (tgt := 75) C dX5_count_1 (by rw [c_9]; decide) (by rw [c_9]; decide) (by rw [c_9]; decide) (by decide) ?_
          refine z_aload_n C dX5_count_75 rfl 0 rfl ?_
          refine z_get (ci := 4) (v := .ref e) (Cn := RX5) (T := TX5) (N := 3) C dX5_count_76 (fun w h => List.mem_cons_of_mem _ (List.mem_append_left _ (List.mem_append_left _ (List.mem_append_left _ (List.mem_append_left _ (List.mem_append_left _ (List.mem_append_right _ h))))))) 0 rfl rfl 2 (by decide) (List.mem_of_getElem? (i := 4) rfl) rfl rfl ?_
          refine z_callVr (n := 0) (isC := [3, 4, 5, 6, 7, 8, 9, 10, 11]) (isR := [0, 1, 2]) (isP := [0, 1, 2, 3, 4, 5, 6, 7, 8, 9, 10, 11]) (As := []) (rest := []) (wr := [(o, .inr (4, [.ref h, .ref b, .ref e])), (h, .inr (3, [.ref ha, .int bm])), (ha, .inl (g.2.1, 400, .inl Bf))]) (ws2 := [(o, .inr (4, [.ref h, .ref b, .ref e])), (h, .inr (3, [.ref ha, .int bm])), (ha, .inl (g.2.1, 400, .inl Bf)), (e, .inr (2, [.ref b, .ref d, .ref c, .int rp, .int hf, .int pl, .int bg, .int lo, .int fp, .int fb])), (d, .inr (1, [.ref dw, .ref dy, .int dm, .int da])), (dw, .inl (g.2.2.1, 100, .inl Wf)), (dy, .inl (g.2.2.1, 100, .inl Yf)), (c, .inr (3, [.ref ca, .int cm])), (ca, .inl (g.2.1, 4096, .inl Cf)), (b, .inr (0, [.ref br, .int z])), (br, .inr (3, [.ref ba, .int m])), (ba, .inl (g.2.1, 4096, .inl F))]) C dX5_count_79 (c_X2_drops (zl X) g e b d c dw dy ca br ba Wf Yf Cf F rp hf pl bg lo fp fb dm da cm z m) gX5_count_X2_drops rfl ⟨rfl, rfl⟩ (by decide +kernel) (by decide) (by decide) rfl rfl rfl rfl (Nat.le_of_ble_eq_true rfl) rfl rfl ⟨rfl, rfl, rfl⟩ (by decide) rfl ?_
          refine z_callVi (n := 0) (isC := [4, 5, 6]) (isR := [0, 1, 2, 3, 7, 8, 9, 10, 11]) (isP := [0, 1, 2, 3, 9, 10, 11, 4, 5, 6, 7, 8]) (As := []) (rest := []) (wr := [(o, .inr (4, [.ref h, .ref b, .ref e])), (h, .inr (3, [.ref ha, .int bm])), (ha, .inl (g.2.1, 400, .inl Bf)), (e, .inr (2, [.ref b, .ref d, .ref c, .int rp, .int hf, .int pl, .int bg, .int lo, .int fp, .int fb])), (c, .inr (3, [.ref ca, .int cm])), (ca, .inl (g.2.1, 4096, .inl Cf)), (b, .inr (0, [.ref br, .int z])), (br, .inr (3, [.ref ba, .int m])), (ba, .inl (g.2.1, 4096, .inl F))]) (ws2 := [(o, .inr (4, [.ref h, .ref b, .ref e])), (h, .inr (3, [.ref ha, .int bm])), (ha, .inl (g.2.1, 400, .inl Bf)), (e, .inr (2, [.ref b, .ref d, .ref c, .int rp, .int hf, .int pl, .int bg, .int lo, .int fp, .int fb])), (d, .inr (1, [.ref dw, .ref dy, .int dm, .int da])), (dw, .inl (g.2.2.1, 100, .inl Wf)), (dy, .inl (g.2.2.1, 100, .inl Yf)), (c, .inr (3, [.ref ca, .int cm])), (ca, .inl (g.2.1, 4096, .inl Cf)), (b, .inr (0, [.ref br, .int z])), (br, .inr (3, [.ref ba, .int m])), (ba, .inl (g.2.1, 4096, .inl F))]) C dX5_count_82 (c_X1_many (zl X) g d dw dy Wf Yf dm da) gX5_count_X1_many rfl ⟨rfl, rfl⟩ (by decide +kernel) (by decide) (by decide) rfl rfl rfl rfl (Nat.le_of_ble_eq_true rfl) rfl rfl ⟨rfl, rfl, rfl⟩ (by decide) rfl ?_
          have he : (f_X5_count bm pl lo dm da m v) = dm := by simp only [f_X5_count, if_neg c_1, if_neg c_4, if_neg c_6, if_pos c_9]
          have hx : (x_X5_count v) = none := by simp only [x_X5_count, if_neg c_1, if_neg c_4, if_neg c_6, if_pos c_9]
          exact hret _ _ _ _ dX5_count_85 hx (by first | rw [he] | rfl) (by first | rw [he] | rfl)
        · skip
          by_cases c_12 : v = 4
          · refine z_tableIn (off := 85) (tgt := 86) C dX5_count_1 (by rw [c_12]; decide) (by rw [c_12]; decide) (by rw [c_12]; decide) (by decide) ?_
            refine z_aload_n C dX5_count_86 rfl 0 rfl ?_
            refine z_get (ci := 4) (v := .ref e) (Cn := RX5) (T := TX5) (N := 3) C dX5_count_87 (fun w h => List.mem_cons_of_mem _ (List.mem_append_left _ (List.mem_append_left _ (List.mem_append_left _ (List.mem_append_left _ (List.mem_append_left _ (List.mem_append_right _ h))))))) 0 rfl rfl 2 (by decide) (List.mem_of_getElem? (i := 4) rfl) rfl rfl ?_
            refine z_callVr (n := 0) (isC := [3, 4, 5, 6, 7, 8, 9, 10, 11]) (isR := [0, 1, 2]) (isP := [0, 1, 2, 3, 4, 5, 6, 7, 8, 9, 10, 11]) (As := []) (rest := []) (wr := [(o, .inr (4, [.ref h, .ref b, .ref e])), (h, .inr (3, [.ref ha, .int bm])), (ha, .inl (g.2.1, 400, .inl Bf))]) (ws2 := [(o, .inr (4, [.ref h, .ref b, .ref e])), (h, .inr (3, [.ref ha, .int bm])), (ha, .inl (g.2.1, 400, .inl Bf)), (e, .inr (2, [.ref b, .ref d, .ref c, .int rp, .int hf, .int pl, .int bg, .int lo, .int fp, .int fb])), (d, .inr (1, [.ref dw, .ref dy, .int dm, .int da])), (dw, .inl (g.2.2.1, 100, .inl Wf)), (dy, .inl (g.2.2.1, 100, .inl Yf)), (c, .inr (3, [.ref ca, .int cm])), (ca, .inl (g.2.1, 4096, .inl Cf)), (b, .inr (0, [.ref br, .int z])), (br, .inr (3, [.ref ba, .int m])), (ba, .inl (g.2.1, 4096, .inl F))]) C dX5_count_90 (c_X2_drops (zl X) g e b d c dw dy ca br ba Wf Yf Cf F rp hf pl bg lo fp fb dm da cm z m) gX5_count_X2_drops rfl ⟨rfl, rfl⟩ (by decide +kernel) (by decide) (by decide) rfl rfl rfl rfl (Nat.le_of_ble_eq_true rfl) rfl rfl ⟨rfl, rfl, rfl⟩ (by decide) rfl ?_
            refine z_callVi (n := 0) (isC := [4, 5, 6]) (isR := [0, 1, 2, 3, 7, 8, 9, 10, 11]) (isP := [0, 1, 2, 3, 9, 10, 11, 4, 5, 6, 7, 8]) (As := []) (rest := []) (wr := [(o, .inr (4, [.ref h, .ref b, .ref e])), (h, .inr (3, [.ref ha, .int bm])), (ha, .inl (g.2.1, 400, .inl Bf)), (e, .inr (2, [.ref b, .ref d, .ref c, .int rp, .int hf, .int pl, .int bg, .int lo, .int fp, .int fb])), (c, .inr (3, [.ref ca, .int cm])), (ca, .inl (g.2.1, 4096, .inl Cf)), (b, .inr (0, [.ref br, .int z])), (br, .inr (3, [.ref ba, .int m])), (ba, .inl (g.2.1, 4096, .inl F))]) (ws2 := [(o, .inr (4, [.ref h, .ref b, .ref e])), (h, .inr (3, [.ref ha, .int bm])), (ha, .inl (g.2.1, 400, .inl Bf)), (e, .inr (2, [.ref b, .ref d, .ref c, .int rp, .int hf, .int pl, .int bg, .int lo, .int fp, .int fb])), (d, .inr (1, [.ref dw, .ref dy, .int dm, .int da])), (dw, .inl (g.2.2.1, 100, .inl Wf)), (dy, .inl (g.2.2.1, 100, .inl Yf)), (c, .inr (3, [.ref ca, .int cm])), (ca, .inl (g.2.1, 4096, .inl Cf)), (b, .inr (0, [.ref br, .int z])), (br, .inr (3, [.ref ba, .int m])), (ba, .inl (g.2.1, 4096, .inl F))]) C dX5_count_93 (c_X1_allBytes (zl X) g d dw dy Wf Yf dm da) gX5_count_X1_allBytes rfl ⟨rfl, rfl⟩ (by decide +kernel) (by decide) (by decide) rfl rfl rfl rfl (Nat.le_of_ble_eq_true rfl) rfl rfl ⟨rfl, rfl, rfl⟩ (by decide) rfl ?_
            have he : (f_X5_count bm pl lo dm da m v) = da := by simp only [f_X5_count, if_neg c_1, if_neg c_4, if_neg c_6, if_neg c_9, if_pos c_12]
            have hx : (x_X5_count v) = none := by simp only [x_X5_count, if_neg c_1, if_neg c_4, if_neg c_6, if_neg c_9, if_pos c_12]
            exact hret _ _ _ _ dX5_count_96 hx (by first | rw [he] | rfl) (by first | rw [he] | rfl)
          · skip
            by_cases c_15 : v = 5
            · refine z_tableIn (off := 96) (tgt := 97) C dX5_count_1 (by rw [c_15]; decide) (by rw [c_15]; decide) (by rw [c_15]; decide) (by decide) ?_
              refine z_aload_n C dX5_count_97 rfl 0 rfl ?_
              refine z_get (ci := 4) (v := .ref h) (Cn := RX5) (T := TX5) (N := 3) C dX5_count_98 (fun w h => List.mem_cons_of_mem _ (List.mem_append_left _ (List.mem_append_left _ (List.mem_append_left _ (List.mem_append_left _ (List.mem_append_left _ (List.mem_append_right _ h))))))) 0 rfl rfl 0 (by decide) (List.mem_of_getElem? (i := 5) rfl) rfl rfl ?_
              refine z_callVi (n := 0) (isC := [1, 2]) (isR := [0, 3, 4, 5, 6, 7, 8, 9, 10, 11]) (isP := [0, 10, 11, 1, 2, 3, 4, 5, 6, 7, 8, 9]) (As := []) (rest := []) (wr := [(o, .inr (4, [.ref h, .ref b, .ref e])), (e, .inr (2, [.ref b, .ref d, .ref c, .int rp, .int hf, .int pl, .int bg, .int lo, .int fp, .int fb])), (d, .inr (1, [.ref dw, .ref dy, .int dm, .int da])), (dw, .inl (g.2.2.1, 100, .inl Wf)), (dy, .inl (g.2.2.1, 100, .inl Yf)), (c, .inr (3, [.ref ca, .int cm])), (ca, .inl (g.2.1, 4096, .inl Cf)), (b, .inr (0, [.ref br, .int z])), (br, .inr (3, [.ref ba, .int m])), (ba, .inl (g.2.1, 4096, .inl F))]) (ws2 := [(o, .inr (4, [.ref h, .ref b, .ref e])), (h, .inr (3, [.ref ha, .int bm])), (ha, .inl (g.2.1, 400, .inl Bf)), (e, .inr (2, [.ref b, .ref d, .ref c, .int rp, .int hf, .int pl, .int bg, .int lo, .int fp, .int fb])), (d, .inr (1, [.ref dw, .ref dy, .int dm, .int da])), (dw, .inl (g.2.2.1, 100, .inl Wf)), (dy, .inl (g.2.2.1, 100, .inl Yf)), (c, .inr (3, [.ref ca, .int cm])), (ca, .inl (g.2.1, 4096, .inl Cf)), (b, .inr (0, [.ref br, .int z])), (br, .inr (3, [.ref ba, .int m])), (ba, .inl (g.2.1, 4096, .inl F))]) C dX5_count_101 (c_X3_many (zl X) g h ha 400 Bf bm) gX5_count_X3_many rfl ⟨rfl, rfl⟩ (by decide +kernel) (by decide) (by decide) rfl rfl rfl rfl (Nat.le_of_ble_eq_true rfl) rfl rfl ⟨rfl, rfl, rfl⟩ (by decide) rfl ?_
              have he : (f_X5_count bm pl lo dm da m v) = bm := by simp only [f_X5_count, if_neg c_1, if_neg c_4, if_neg c_6, if_neg c_9, if_neg c_12, if_pos c_15]
              have hx : (x_X5_count v) = none := by simp only [x_X5_count, if_neg c_1, if_neg c_4, if_neg c_6, if_neg c_9, if_neg c_12, if_pos c_15]
              exact hret _ _ _ _ dX5_count_104 hx (by first | rw [he] | rfl) (by first | rw [he] | rfl)
            · skip
              refine z_tableOut (tgt := 105) C dX5_count_1 (zsw_out6 c_1 c_4 c_6 c_9 c_12 c_15) (by decide) ?_
              have hx : (x_X5_count v) = some zIAE := by simp only [x_X5_count, if_neg c_1, if_neg c_4, if_neg c_6, if_neg c_9, if_neg c_12, if_neg c_15]
              exact hthr 105 _ 34 148 38 zIAE "what is 0 .. 5" dX5_count_105 dX5_count_108 dX5_count_109 dX5_count_111 dX5_count_114 (List.mem_of_getElem? (i := 1) rfl) (List.mem_of_getElem? (i := 2) rfl) (fun w h => List.mem_cons_of_mem _ (List.mem_append_right _ h)) zat38 (zot_c zot38) (List.mem_of_getElem? (i := 8) rfl) (by decide) hx
def f_X5_told (Wf : Nat → Int32) (Yf : Nat → Int32) (dm : Int32) (v : Int32) (x : Int32) : Int32 :=
  if x = 0 then
    (f_X1_whichAt Wf dm v)
  else
    if x = 1 then
      (f_X1_bytesAt Yf dm v)
    else
      0
def x_X5_told (x : Int32) : Option String :=
  if x = 0 then
    none
  else
    if x = 1 then
      none
    else
      some zIAE
set_option maxHeartbeats 4000000 in
set_option maxRecDepth 100000 in
theorem c_X5_told (l : Launch) (hl : l.stackTraces = false) (g : zG) (o h b e ha d c dw dy ca br ba : Nat) (Bf : Nat → Int32) (Wf : Nat → Int32) (Yf : Nat → Int32) (Cf : Nat → Int32) (F : Nat → Int32) (bm : Int32) (rp : Int32) (hf : Int32) (pl : Int32) (bg : Int32) (lo : Int32) (fp : Int32) (fb : Int32) (dm : Int32) (da : Int32) (cm : Int32) (z : Int32) (m : Int32) (v : Int32) (x : Int32) : zXI l yX5_told wsX5_told ({ frames := 6, cells := 1, slots := 6, locals := 82 }) g [.ref o, .int v, .int x] [(o, .inr (4, [.ref h, .ref b, .ref e])), (h, .inr (3, [.ref ha, .int bm])), (ha, .inl (g.2.1, 400, .inl Bf)), (e, .inr (2, [.ref b, .ref d, .ref c, .int rp, .int hf, .int pl, .int bg, .int lo, .int fp, .int fb])), (d, .inr (1, [.ref dw, .ref dy, .int dm, .int da])), (dw, .inl (g.2.2.1, 100, .inl Wf)), (dy, .inl (g.2.2.1, 100, .inl Yf)), (c, .inr (3, [.ref ca, .int cm])), (ca, .inl (g.2.1, 4096, .inl Cf)), (b, .inr (0, [.ref br, .int z])), (br, .inr (3, [.ref ba, .int m])), (ba, .inl (g.2.1, 4096, .inl F))] (x_X5_told x) (f_X5_told Wf Yf dm v x) [(o, .inr (4, [.ref h, .ref b, .ref e])), (h, .inr (3, [.ref ha, .int bm])), (ha, .inl (g.2.1, 400, .inl Bf)), (e, .inr (2, [.ref b, .ref d, .ref c, .int rp, .int hf, .int pl, .int bg, .int lo, .int fp, .int fb])), (d, .inr (1, [.ref dw, .ref dy, .int dm, .int da])), (dw, .inl (g.2.2.1, 100, .inl Wf)), (dy, .inl (g.2.2.1, 100, .inl Yf)), (c, .inr (3, [.ref ca, .int cm])), (ca, .inl (g.2.1, 4096, .inl Cf)), (b, .inr (0, [.ref br, .int z])), (br, .inr (3, [.ref ba, .int m])), (ba, .inl (g.2.1, 4096, .inl F))] := by
  refine zXI_of (cc := cX5_told) (nL := 3) (ty := .int) hl rfl (by decide) rfl (Nat.le_of_ble_eq_true rfl) rfl (by decide) ?_
  intro X C hret hthr
  refine z_lv (lv' := [(0, .ref o), (1, .int v), (2, .int x)]) [0, 1, 2] rfl ?_
  refine z_iload_n C dX5_told_0 rfl 2 rfl ?_
  refine z_if_eq (tgt := 19) C dX5_told_1 (by decide) (fun c_1 => ?_) (fun c_1 => ?_)
  · skip
    refine z_iload_n C dX5_told_19 rfl 2 rfl ?_
    refine z_if_ne (tgt := 37) C dX5_told_20 (by decide) (fun c_2 => absurd c_1 c_2) (fun c_2 => ?_)
    refine z_aload_n C dX5_told_23 rfl 0 rfl ?_
    refine z_get (ci := 4) (v := .ref e) (Cn := RX5) (T := TX5) (N := 3) C dX5_told_24 (fun w h => List.mem_cons_of_mem _ (List.mem_append_left _ (List.mem_append_left _ (List.mem_append_left _ (List.mem_append_right _ h))))) 0 rfl rfl 2 (by decide) (List.mem_of_getElem? (i := 3) rfl) rfl rfl ?_
    refine z_callVr (n := 0) (isC := [3, 4, 5, 6, 7, 8, 9, 10, 11]) (isR := [0, 1, 2]) (isP := [0, 1, 2, 3, 4, 5, 6, 7, 8, 9, 10, 11]) (As := []) (rest := []) (wr := [(o, .inr (4, [.ref h, .ref b, .ref e])), (h, .inr (3, [.ref ha, .int bm])), (ha, .inl (g.2.1, 400, .inl Bf))]) (ws2 := [(o, .inr (4, [.ref h, .ref b, .ref e])), (h, .inr (3, [.ref ha, .int bm])), (ha, .inl (g.2.1, 400, .inl Bf)), (e, .inr (2, [.ref b, .ref d, .ref c, .int rp, .int hf, .int pl, .int bg, .int lo, .int fp, .int fb])), (d, .inr (1, [.ref dw, .ref dy, .int dm, .int da])), (dw, .inl (g.2.2.1, 100, .inl Wf)), (dy, .inl (g.2.2.1, 100, .inl Yf)), (c, .inr (3, [.ref ca, .int cm])), (ca, .inl (g.2.1, 4096, .inl Cf)), (b, .inr (0, [.ref br, .int z])), (br, .inr (3, [.ref ba, .int m])), (ba, .inl (g.2.1, 4096, .inl F))]) C dX5_told_27 (c_X2_drops (zl X) g e b d c dw dy ca br ba Wf Yf Cf F rp hf pl bg lo fp fb dm da cm z m) gX5_told_X2_drops rfl ⟨rfl, rfl⟩ (by decide +kernel) (by decide) (by decide) rfl rfl rfl rfl (Nat.le_of_ble_eq_true rfl) rfl rfl ⟨rfl, rfl, rfl⟩ (by decide) rfl ?_
    refine z_iload_n C dX5_told_30 rfl 1 rfl ?_
    refine z_callVi (n := 1) (isC := [4, 5, 6]) (isR := [0, 1, 2, 3, 7, 8, 9, 10, 11]) (isP := [0, 1, 2, 3, 9, 10, 11, 4, 5, 6, 7, 8]) (As := [.int v]) (rest := []) (wr := [(o, .inr (4, [.ref h, .ref b, .ref e])), (h, .inr (3, [.ref ha, .int bm])), (ha, .inl (g.2.1, 400, .inl Bf)), (e, .inr (2, [.ref b, .ref d, .ref c, .int rp, .int hf, .int pl, .int bg, .int lo, .int fp, .int fb])), (c, .inr (3, [.ref ca, .int cm])), (ca, .inl (g.2.1, 4096, .inl Cf)), (b, .inr (0, [.ref br, .int z])), (br, .inr (3, [.ref ba, .int m])), (ba, .inl (g.2.1, 4096, .inl F))]) (ws2 := [(o, .inr (4, [.ref h, .ref b, .ref e])), (h, .inr (3, [.ref ha, .int bm])), (ha, .inl (g.2.1, 400, .inl Bf)), (e, .inr (2, [.ref b, .ref d, .ref c, .int rp, .int hf, .int pl, .int bg, .int lo, .int fp, .int fb])), (d, .inr (1, [.ref dw, .ref dy, .int dm, .int da])), (dw, .inl (g.2.2.1, 100, .inl Wf)), (dy, .inl (g.2.2.1, 100, .inl Yf)), (c, .inr (3, [.ref ca, .int cm])), (ca, .inl (g.2.1, 4096, .inl Cf)), (b, .inr (0, [.ref br, .int z])), (br, .inr (3, [.ref ba, .int m])), (ba, .inl (g.2.1, 4096, .inl F))]) C dX5_told_31 (c_X1_whichAt (zl X) g d dw dy Wf Yf dm da v) gX5_told_X1_whichAt rfl ⟨rfl, rfl⟩ (by decide +kernel) (by decide) (by decide) rfl rfl rfl rfl (Nat.le_of_ble_eq_true rfl) rfl rfl ⟨rfl, rfl, rfl⟩ (by decide) rfl ?_
    generalize hT4 : (f_X1_whichAt Wf dm v) = rq4
    refine z_goto (tgt := 48) C dX5_told_34 (by decide) ?_
    have he : (f_X5_told Wf Yf dm v x) = rq4 := by simp only [f_X5_told, if_pos c_1, hT4]
    have hx : (x_X5_told x) = none := by simp only [x_X5_told, if_pos c_1, hT4]
    exact hret _ _ _ _ dX5_told_48 hx (by first | rw [he] | rfl) (by first | rw [he] | rfl)
  · skip
    refine z_iload_n C dX5_told_4 rfl 2 rfl ?_
    refine z_iconst (v := 1) C dX5_told_5 (by decide) ?_
    refine z_icmp_eq (tgt := 19) C dX5_told_6 (by decide) (fun c_5 => ?_) (fun c_5 => ?_)
    · skip
      refine z_iload_n C dX5_told_19 rfl 2 rfl ?_
      refine z_if_ne (tgt := 37) C dX5_told_20 (by decide) (fun c_6 => ?_) (fun c_6 => absurd c_6 c_1)
      refine z_aload_n C dX5_told_37 rfl 0 rfl ?_
      refine z_get (ci := 4) (v := .ref e) (Cn := RX5) (T := TX5) (N := 3) C dX5_told_38 (fun w h => List.mem_cons_of_mem _ (List.mem_append_left _ (List.mem_append_left _ (List.mem_append_left _ (List.mem_append_right _ h))))) 0 rfl rfl 2 (by decide) (List.mem_of_getElem? (i := 3) rfl) rfl rfl ?_
      refine z_callVr (n := 0) (isC := [3, 4, 5, 6, 7, 8, 9, 10, 11]) (isR := [0, 1, 2]) (isP := [0, 1, 2, 3, 4, 5, 6, 7, 8, 9, 10, 11]) (As := []) (rest := []) (wr := [(o, .inr (4, [.ref h, .ref b, .ref e])), (h, .inr (3, [.ref ha, .int bm])), (ha, .inl (g.2.1, 400, .inl Bf))]) (ws2 := [(o, .inr (4, [.ref h, .ref b, .ref e])), (h, .inr (3, [.ref ha, .int bm])), (ha, .inl (g.2.1, 400, .inl Bf)), (e, .inr (2, [.ref b, .ref d, .ref c, .int rp, .int hf, .int pl, .int bg, .int lo, .int fp, .int fb])), (d, .inr (1, [.ref dw, .ref dy, .int dm, .int da])), (dw, .inl (g.2.2.1, 100, .inl Wf)), (dy, .inl (g.2.2.1, 100, .inl Yf)), (c, .inr (3, [.ref ca, .int cm])), (ca, .inl (g.2.1, 4096, .inl Cf)), (b, .inr (0, [.ref br, .int z])), (br, .inr (3, [.ref ba, .int m])), (ba, .inl (g.2.1, 4096, .inl F))]) C dX5_told_41 (c_X2_drops (zl X) g e b d c dw dy ca br ba Wf Yf Cf F rp hf pl bg lo fp fb dm da cm z m) gX5_told_X2_drops rfl ⟨rfl, rfl⟩ (by decide +kernel) (by decide) (by decide) rfl rfl rfl rfl (Nat.le_of_ble_eq_true rfl) rfl rfl ⟨rfl, rfl, rfl⟩ (by decide) rfl ?_
      refine z_iload_n C dX5_told_44 rfl 1 rfl ?_
      refine z_callVi (n := 1) (isC := [4, 5, 6]) (isR := [0, 1, 2, 3, 7, 8, 9, 10, 11]) (isP := [0, 1, 2, 3, 9, 10, 11, 4, 5, 6, 7, 8]) (As := [.int v]) (rest := []) (wr := [(o, .inr (4, [.ref h, .ref b, .ref e])), (h, .inr (3, [.ref ha, .int bm])), (ha, .inl (g.2.1, 400, .inl Bf)), (e, .inr (2, [.ref b, .ref d, .ref c, .int rp, .int hf, .int pl, .int bg, .int lo, .int fp, .int fb])), (c, .inr (3, [.ref ca, .int cm])), (ca, .inl (g.2.1, 4096, .inl Cf)), (b, .inr (0, [.ref br, .int z])), (br, .inr (3, [.ref ba, .int m])), (ba, .inl (g.2.1, 4096, .inl F))]) (ws2 := [(o, .inr (4, [.ref h, .ref b, .ref e])), (h, .inr (3, [.ref ha, .int bm])), (ha, .inl (g.2.1, 400, .inl Bf)), (e, .inr (2, [.ref b, .ref d, .ref c, .int rp, .int hf, .int pl, .int bg, .int lo, .int fp, .int fb])), (d, .inr (1, [.ref dw, .ref dy, .int dm, .int da])), (dw, .inl (g.2.2.1, 100, .inl Wf)), (dy, .inl (g.2.2.1, 100, .inl Yf)), (c, .inr (3, [.ref ca, .int cm])), (ca, .inl (g.2.1, 4096, .inl Cf)), (b, .inr (0, [.ref br, .int z])), (br, .inr (3, [.ref ba, .int m])), (ba, .inl (g.2.1, 4096, .inl F))]) C dX5_told_45 (c_X1_bytesAt (zl X) g d dw dy Wf Yf dm da v) gX5_told_X1_bytesAt rfl ⟨rfl, rfl⟩ (by decide +kernel) (by decide) (by decide) rfl rfl rfl rfl (Nat.le_of_ble_eq_true rfl) rfl rfl ⟨rfl, rfl, rfl⟩ (by decide) rfl ?_
      generalize hT8 : (f_X1_bytesAt Yf dm v) = rq8
      have he : (f_X5_told Wf Yf dm v x) = rq8 := by simp only [f_X5_told, if_neg c_1, if_pos c_5, hT8]
      have hx : (x_X5_told x) = none := by simp only [x_X5_told, if_neg c_1, if_pos c_5, hT8]
      exact hret _ _ _ _ dX5_told_48 hx (by first | rw [he] | rfl) (by first | rw [he] | rfl)
    · skip
      have hx : (x_X5_told x) = some zIAE := by simp only [x_X5_told, if_neg c_1, if_neg c_5]
      exact hthr 9 _ 34 150 38 zIAE "what is 0 or 1" dX5_told_9 dX5_told_12 dX5_told_13 dX5_told_15 dX5_told_18 (List.mem_of_getElem? (i := 1) rfl) (List.mem_of_getElem? (i := 2) rfl) (fun w h => List.mem_cons_of_mem _ (List.mem_append_right _ h)) zat38 (zot_c zot38) (List.mem_of_getElem? (i := 9) rfl) (by decide) hx
