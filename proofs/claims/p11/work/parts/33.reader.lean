set_option maxHeartbeats 4000000 in
set_option maxRecDepth 100000 in
theorem c_X2_place (l : Launch) (g : zG) (e b d c dw dy ca br ba : Nat) (Wf : Nat → Int32) (Yf : Nat → Int32) (Cf : Nat → Int32) (F : Nat → Int32) (rp : Int32) (hf : Int32) (pl : Int32) (bg : Int32) (lo : Int32) (fp : Int32) (fb : Int32) (dm : Int32) (da : Int32) (cm : Int32) (z : Int32) (m : Int32) : zMI l yX2_place wsX2_place ({ frames := 0, cells := 0, slots := 0, locals := 0 }) g [.ref e] [(e, .inr (2, [.ref b, .ref d, .ref c, .int rp, .int hf, .int pl, .int bg, .int lo, .int fp, .int fb])), (d, .inr (1, [.ref dw, .ref dy, .int dm, .int da])), (dw, .inl (g.2.2.1, 100, .inl Wf)), (dy, .inl (g.2.2.1, 100, .inl Yf)), (c, .inr (3, [.ref ca, .int cm])), (ca, .inl (g.2.1, 4096, .inl Cf)), (b, .inr (0, [.ref br, .int z])), (br, .inr (3, [.ref ba, .int m])), (ba, .inl (g.2.1, 4096, .inl F))] pl [(e, .inr (2, [.ref b, .ref d, .ref c, .int rp, .int hf, .int pl, .int bg, .int lo, .int fp, .int fb])), (d, .inr (1, [.ref dw, .ref dy, .int dm, .int da])), (dw, .inl (g.2.2.1, 100, .inl Wf)), (dy, .inl (g.2.2.1, 100, .inl Yf)), (c, .inr (3, [.ref ca, .int cm])), (ca, .inl (g.2.1, 4096, .inl Cf)), (b, .inr (0, [.ref br, .int z])), (br, .inr (3, [.ref ba, .int m])), (ba, .inl (g.2.1, 4096, .inl F))] := by
  refine zMI_of (cc := cX2_place) (nL := 1) (ty := .int) (by decide) rfl (Nat.le_of_ble_eq_true rfl) rfl ?_
  intro X C hret
  refine z_lv (lv' := [(0, .ref e)]) [0] rfl ?_
  refine z_aload_n C dX2_place_0 rfl 0 rfl ?_
  refine z_get (ci := 2) (v := .int pl) (Cn := RX2) (T := TX2) (N := 10) C dX2_place_1 (fun w h => List.mem_cons_of_mem _ (List.mem_append_right _ h)) 0 rfl rfl 5 (by decide) (List.mem_of_getElem? (i := 1) rfl) rfl rfl ?_
  exact hret _ _ _ _ dX2_place_4 rfl rfl
set_option maxHeartbeats 4000000 in
set_option maxRecDepth 100000 in
theorem c_X2_isLost (l : Launch) (g : zG) (e b d c dw dy ca br ba : Nat) (Wf : Nat → Int32) (Yf : Nat → Int32) (Cf : Nat → Int32) (F : Nat → Int32) (rp : Int32) (hf : Int32) (pl : Int32) (bg : Int32) (lo : Int32) (fp : Int32) (fb : Int32) (dm : Int32) (da : Int32) (cm : Int32) (z : Int32) (m : Int32) (hlo : zbo lo) : zMI l yX2_isLost wsX2_isLost ({ frames := 0, cells := 0, slots := 0, locals := 0 }) g [.ref e] [(e, .inr (2, [.ref b, .ref d, .ref c, .int rp, .int hf, .int pl, .int bg, .int lo, .int fp, .int fb])), (d, .inr (1, [.ref dw, .ref dy, .int dm, .int da])), (dw, .inl (g.2.2.1, 100, .inl Wf)), (dy, .inl (g.2.2.1, 100, .inl Yf)), (c, .inr (3, [.ref ca, .int cm])), (ca, .inl (g.2.1, 4096, .inl Cf)), (b, .inr (0, [.ref br, .int z])), (br, .inr (3, [.ref ba, .int m])), (ba, .inl (g.2.1, 4096, .inl F))] lo [(e, .inr (2, [.ref b, .ref d, .ref c, .int rp, .int hf, .int pl, .int bg, .int lo, .int fp, .int fb])), (d, .inr (1, [.ref dw, .ref dy, .int dm, .int da])), (dw, .inl (g.2.2.1, 100, .inl Wf)), (dy, .inl (g.2.2.1, 100, .inl Yf)), (c, .inr (3, [.ref ca, .int cm])), (ca, .inl (g.2.1, 4096, .inl Cf)), (b, .inr (0, [.ref br, .int z])), (br, .inr (3, [.ref ba, .int m])), (ba, .inl (g.2.1, 4096, .inl F))] := by
  refine zMI_of (cc := cX2_isLost) (nL := 1) (ty := .boolean) (by decide) rfl (Nat.le_of_ble_eq_true rfl) (zbo_nar hlo) ?_
  intro X C hret
  refine z_lv (lv' := [(0, .ref e)]) [0] rfl ?_
  refine z_aload_n C dX2_isLost_0 rfl 0 rfl ?_
  refine z_get (ci := 2) (v := .int lo) (Cn := RX2) (T := TX2) (N := 10) C dX2_isLost_1 (fun w h => List.mem_cons_of_mem _ (List.mem_append_right _ h)) 0 rfl rfl 7 (by decide) (List.mem_of_getElem? (i := 1) rfl) rfl rfl ?_
  exact hret _ _ _ _ dX2_isLost_4 rfl rfl
set_option maxHeartbeats 4000000 in
set_option maxRecDepth 100000 in
theorem c_X2_drops (l : Launch) (g : zG) (e b d c dw dy ca br ba : Nat) (Wf : Nat → Int32) (Yf : Nat → Int32) (Cf : Nat → Int32) (F : Nat → Int32) (rp : Int32) (hf : Int32) (pl : Int32) (bg : Int32) (lo : Int32) (fp : Int32) (fb : Int32) (dm : Int32) (da : Int32) (cm : Int32) (z : Int32) (m : Int32) : zMR l yX2_drops wsX2_drops ({ frames := 0, cells := 0, slots := 0, locals := 0 }) g [.ref e] [(e, .inr (2, [.ref b, .ref d, .ref c, .int rp, .int hf, .int pl, .int bg, .int lo, .int fp, .int fb])), (d, .inr (1, [.ref dw, .ref dy, .int dm, .int da])), (dw, .inl (g.2.2.1, 100, .inl Wf)), (dy, .inl (g.2.2.1, 100, .inl Yf)), (c, .inr (3, [.ref ca, .int cm])), (ca, .inl (g.2.1, 4096, .inl Cf)), (b, .inr (0, [.ref br, .int z])), (br, .inr (3, [.ref ba, .int m])), (ba, .inl (g.2.1, 4096, .inl F))] d [(e, .inr (2, [.ref b, .ref d, .ref c, .int rp, .int hf, .int pl, .int bg, .int lo, .int fp, .int fb])), (d, .inr (1, [.ref dw, .ref dy, .int dm, .int da])), (dw, .inl (g.2.2.1, 100, .inl Wf)), (dy, .inl (g.2.2.1, 100, .inl Yf)), (c, .inr (3, [.ref ca, .int cm])), (ca, .inl (g.2.1, 4096, .inl Cf)), (b, .inr (0, [.ref br, .int z])), (br, .inr (3, [.ref ba, .int m])), (ba, .inl (g.2.1, 4096, .inl F))] := by
  refine zMR_of (cc := cX2_drops) (nL := 1) (ty := (.object "FragmentLog$Drops")) (by decide) rfl (Nat.le_of_ble_eq_true rfl) (Or.inl ⟨_, rfl⟩) ?_
  intro X C hret
  refine z_lv (lv' := [(0, .ref e)]) [0] rfl ?_
  refine z_aload_n C dX2_drops_0 rfl 0 rfl ?_
  refine z_get (ci := 2) (v := .ref d) (Cn := RX2) (T := TX2) (N := 10) C dX2_drops_1 (fun w h => List.mem_cons_of_mem _ (List.mem_append_right _ h)) 0 rfl rfl 1 (by decide) (List.mem_of_getElem? (i := 1) rfl) rfl rfl ?_
  exact hret _ _ _ _ dX2_drops_4 rfl rfl
set_option maxHeartbeats 4000000 in
set_option maxRecDepth 100000 in
theorem c_X2_record (l : Launch) (g : zG) (e b d c dw dy ca br ba : Nat) (Wf : Nat → Int32) (Yf : Nat → Int32) (Cf : Nat → Int32) (F : Nat → Int32) (rp : Int32) (hf : Int32) (pl : Int32) (bg : Int32) (lo : Int32) (fp : Int32) (fb : Int32) (dm : Int32) (da : Int32) (cm : Int32) (z : Int32) (m : Int32) : zMR l yX2_record wsX2_record ({ frames := 0, cells := 0, slots := 0, locals := 0 }) g [.ref e] [(e, .inr (2, [.ref b, .ref d, .ref c, .int rp, .int hf, .int pl, .int bg, .int lo, .int fp, .int fb])), (d, .inr (1, [.ref dw, .ref dy, .int dm, .int da])), (dw, .inl (g.2.2.1, 100, .inl Wf)), (dy, .inl (g.2.2.1, 100, .inl Yf)), (c, .inr (3, [.ref ca, .int cm])), (ca, .inl (g.2.1, 4096, .inl Cf)), (b, .inr (0, [.ref br, .int z])), (br, .inr (3, [.ref ba, .int m])), (ba, .inl (g.2.1, 4096, .inl F))] c [(e, .inr (2, [.ref b, .ref d, .ref c, .int rp, .int hf, .int pl, .int bg, .int lo, .int fp, .int fb])), (d, .inr (1, [.ref dw, .ref dy, .int dm, .int da])), (dw, .inl (g.2.2.1, 100, .inl Wf)), (dy, .inl (g.2.2.1, 100, .inl Yf)), (c, .inr (3, [.ref ca, .int cm])), (ca, .inl (g.2.1, 4096, .inl Cf)), (b, .inr (0, [.ref br, .int z])), (br, .inr (3, [.ref ba, .int m])), (ba, .inl (g.2.1, 4096, .inl F))] := by
  refine zMR_of (cc := cX2_record) (nL := 1) (ty := (.object "FragmentLog$Row")) (by decide) rfl (Nat.le_of_ble_eq_true rfl) (Or.inl ⟨_, rfl⟩) ?_
  intro X C hret
  refine z_lv (lv' := [(0, .ref e)]) [0] rfl ?_
  refine z_aload_n C dX2_record_0 rfl 0 rfl ?_
  refine z_get (ci := 2) (v := .ref c) (Cn := RX2) (T := TX2) (N := 10) C dX2_record_1 (fun w h => List.mem_cons_of_mem _ (List.mem_append_right _ h)) 0 rfl rfl 2 (by decide) (List.mem_of_getElem? (i := 1) rfl) rfl rfl ?_
  exact hret _ _ _ _ dX2_record_4 rfl rfl
set_option maxHeartbeats 4000000 in
set_option maxRecDepth 100000 in
theorem c_X2_recordPlace (l : Launch) (g : zG) (e b d c dw dy ca br ba : Nat) (Wf : Nat → Int32) (Yf : Nat → Int32) (Cf : Nat → Int32) (F : Nat → Int32) (rp : Int32) (hf : Int32) (pl : Int32) (bg : Int32) (lo : Int32) (fp : Int32) (fb : Int32) (dm : Int32) (da : Int32) (cm : Int32) (z : Int32) (m : Int32) : zMI l yX2_recordPlace wsX2_recordPlace ({ frames := 0, cells := 0, slots := 0, locals := 0 }) g [.ref e] [(e, .inr (2, [.ref b, .ref d, .ref c, .int rp, .int hf, .int pl, .int bg, .int lo, .int fp, .int fb])), (d, .inr (1, [.ref dw, .ref dy, .int dm, .int da])), (dw, .inl (g.2.2.1, 100, .inl Wf)), (dy, .inl (g.2.2.1, 100, .inl Yf)), (c, .inr (3, [.ref ca, .int cm])), (ca, .inl (g.2.1, 4096, .inl Cf)), (b, .inr (0, [.ref br, .int z])), (br, .inr (3, [.ref ba, .int m])), (ba, .inl (g.2.1, 4096, .inl F))] rp [(e, .inr (2, [.ref b, .ref d, .ref c, .int rp, .int hf, .int pl, .int bg, .int lo, .int fp, .int fb])), (d, .inr (1, [.ref dw, .ref dy, .int dm, .int da])), (dw, .inl (g.2.2.1, 100, .inl Wf)), (dy, .inl (g.2.2.1, 100, .inl Yf)), (c, .inr (3, [.ref ca, .int cm])), (ca, .inl (g.2.1, 4096, .inl Cf)), (b, .inr (0, [.ref br, .int z])), (br, .inr (3, [.ref ba, .int m])), (ba, .inl (g.2.1, 4096, .inl F))] := by
  refine zMI_of (cc := cX2_recordPlace) (nL := 1) (ty := .int) (by decide) rfl (Nat.le_of_ble_eq_true rfl) rfl ?_
  intro X C hret
  refine z_lv (lv' := [(0, .ref e)]) [0] rfl ?_
  refine z_aload_n C dX2_recordPlace_0 rfl 0 rfl ?_
  refine z_get (ci := 2) (v := .int rp) (Cn := RX2) (T := TX2) (N := 10) C dX2_recordPlace_1 (fun w h => List.mem_cons_of_mem _ (List.mem_append_right _ h)) 0 rfl rfl 3 (by decide) (List.mem_of_getElem? (i := 1) rfl) rfl rfl ?_
  exact hret _ _ _ _ dX2_recordPlace_4 rfl rfl
def f_X2_beginAt (z : Int32) (v : Int32) : Int32 × Int32 × Int32 × Int32 × Int32 :=
  if 7 ≤ (((v - (zMod v z)) + z) - v) then
    if v ≤ 0 then
      ((v - (zMod v z)), v, 0, 0, 0)
    else
      ((v - (zMod v z)), v, 1, 0, 0)
  else
    if v ≤ 0 then
      (((v - (zMod v z)) + z), v, 0, 0, 0)
    else
      (((v - (zMod v z)) + z), v, 1, 0, 0)
set_option maxHeartbeats 4000000 in
set_option maxRecDepth 100000 in
theorem c_X2_beginAt (l : Launch) (g : zG) (e b d c dw dy ca br ba : Nat) (Wf : Nat → Int32) (Yf : Nat → Int32) (Cf : Nat → Int32) (F : Nat → Int32) (rp : Int32) (hf : Int32) (pl : Int32) (bg : Int32) (lo : Int32) (fp : Int32) (fb : Int32) (dm : Int32) (da : Int32) (cm : Int32) (z : Int32) (m : Int32) (v : Int32) (hz : zsz z) : zMV l yX2_beginAt wsX2_beginAt ({ frames := 2, cells := 0, slots := 0, locals := 42 }) g [.ref e, .int v] [(e, .inr (2, [.ref b, .ref d, .ref c, .int rp, .int hf, .int pl, .int bg, .int lo, .int fp, .int fb])), (d, .inr (1, [.ref dw, .ref dy, .int dm, .int da])), (dw, .inl (g.2.2.1, 100, .inl Wf)), (dy, .inl (g.2.2.1, 100, .inl Yf)), (c, .inr (3, [.ref ca, .int cm])), (ca, .inl (g.2.1, 4096, .inl Cf)), (b, .inr (0, [.ref br, .int z])), (br, .inr (3, [.ref ba, .int m])), (ba, .inl (g.2.1, 4096, .inl F))] [(e, .inr (2, [.ref b, .ref d, .ref c, .int rp, .int hf, .int ((f_X2_beginAt z v).1), .int ((f_X2_beginAt z v).2.1), .int ((f_X2_beginAt z v).2.2.1), .int fp, .int fb])), (d, .inr (1, [.ref dw, .ref dy, .int ((f_X2_beginAt z v).2.2.2.1), .int ((f_X2_beginAt z v).2.2.2.2)])), (dw, .inl (g.2.2.1, 100, .inl Wf)), (dy, .inl (g.2.2.1, 100, .inl Yf)), (c, .inr (3, [.ref ca, .int cm])), (ca, .inl (g.2.1, 4096, .inl Cf)), (b, .inr (0, [.ref br, .int z])), (br, .inr (3, [.ref ba, .int m])), (ba, .inl (g.2.1, 4096, .inl F))] := by
  refine zMV_of (cc := cX2_beginAt) (nL := 3) (by decide) rfl (Nat.le_of_ble_eq_true rfl) ?_
  intro X C hret
  refine z_lv (lv' := [(0, .ref e), (1, .int v)]) [0, 1] rfl ?_
  refine z_aload_n C dX2_beginAt_0 rfl 0 rfl ?_
  refine z_get (ci := 2) (v := .ref b) (Cn := RX2) (T := TX2) (N := 10) C dX2_beginAt_1 (fun w h => List.mem_cons_of_mem _ (List.mem_append_left _ (List.mem_append_left _ (List.mem_append_right _ h)))) 0 rfl rfl 0 (by decide) (List.mem_of_getElem? (i := 1) rfl) rfl rfl ?_
  refine z_iload_n C dX2_beginAt_4 rfl 1 rfl ?_
  refine z_callVi (n := 1) (isC := [6, 7, 8]) (isR := [0, 1, 2, 3, 4, 5]) (isP := [0, 1, 2, 3, 4, 5, 6, 7, 8]) (As := [.int v]) (rest := []) (wr := [(e, .inr (2, [.ref b, .ref d, .ref c, .int rp, .int hf, .int pl, .int bg, .int lo, .int fp, .int fb])), (d, .inr (1, [.ref dw, .ref dy, .int dm, .int da])), (dw, .inl (g.2.2.1, 100, .inl Wf)), (dy, .inl (g.2.2.1, 100, .inl Yf)), (c, .inr (3, [.ref ca, .int cm])), (ca, .inl (g.2.1, 4096, .inl Cf))]) (ws2 := [(e, .inr (2, [.ref b, .ref d, .ref c, .int rp, .int hf, .int pl, .int bg, .int lo, .int fp, .int fb])), (d, .inr (1, [.ref dw, .ref dy, .int dm, .int da])), (dw, .inl (g.2.2.1, 100, .inl Wf)), (dy, .inl (g.2.2.1, 100, .inl Yf)), (c, .inr (3, [.ref ca, .int cm])), (ca, .inl (g.2.1, 4096, .inl Cf)), (b, .inr (0, [.ref br, .int z])), (br, .inr (3, [.ref ba, .int m])), (ba, .inl (g.2.1, 4096, .inl F))]) C dX2_beginAt_5 (c_X0_endOfBlock (zl X) g b br ba F z m v hz) gX2_beginAt_X0_endOfBlock rfl ⟨rfl, rfl⟩ (by decide +kernel) (by decide) (by decide) rfl rfl rfl rfl (Nat.le_of_ble_eq_true rfl) rfl rfl ⟨rfl, rfl, rfl⟩ (by decide) rfl ?_
  refine z_iload_n C dX2_beginAt_8 rfl 1 rfl ?_
  refine z_isub C dX2_beginAt_9 ?_
  refine z_istore_n (lv' := [(2, .int (((v - (zMod v z)) + z) - v)), (0, .ref e), (1, .int v)]) C dX2_beginAt_10 rfl (by decide) rfl ?_
  refine z_aload_n C dX2_beginAt_11 rfl 1 rfl ?_
  refine z_iload_n C dX2_beginAt_12 rfl 0 rfl ?_
  refine z_bipush (v := 7) C dX2_beginAt_13 (by decide) ?_
  refine z_icmp_ge (tgt := 29) C dX2_beginAt_15 (by decide) (fun c_2 => ?_) (fun c_2 => ?_)
  · skip
    refine z_aload_n C dX2_beginAt_29 rfl 1 rfl ?_
    refine z_get (ci := 2) (v := .ref b) (Cn := RX2) (T := TX2) (N := 10) C dX2_beginAt_30 (fun w h => List.mem_cons_of_mem _ (List.mem_append_left _ (List.mem_append_left _ (List.mem_append_right _ h)))) 0 rfl rfl 0 (by decide) (List.mem_of_getElem? (i := 1) rfl) rfl rfl ?_
    refine z_iload_n C dX2_beginAt_33 rfl 2 rfl ?_
    refine z_callVi (n := 1) (isC := [6, 7, 8]) (isR := [0, 1, 2, 3, 4, 5]) (isP := [0, 1, 2, 3, 4, 5, 6, 7, 8]) (As := [.int v]) (rest := [.ref e]) (wr := [(e, .inr (2, [.ref b, .ref d, .ref c, .int rp, .int hf, .int pl, .int bg, .int lo, .int fp, .int fb])), (d, .inr (1, [.ref dw, .ref dy, .int dm, .int da])), (dw, .inl (g.2.2.1, 100, .inl Wf)), (dy, .inl (g.2.2.1, 100, .inl Yf)), (c, .inr (3, [.ref ca, .int cm])), (ca, .inl (g.2.1, 4096, .inl Cf))]) (ws2 := [(e, .inr (2, [.ref b, .ref d, .ref c, .int rp, .int hf, .int pl, .int bg, .int lo, .int fp, .int fb])), (d, .inr (1, [.ref dw, .ref dy, .int dm, .int da])), (dw, .inl (g.2.2.1, 100, .inl Wf)), (dy, .inl (g.2.2.1, 100, .inl Yf)), (c, .inr (3, [.ref ca, .int cm])), (ca, .inl (g.2.1, 4096, .inl Cf)), (b, .inr (0, [.ref br, .int z])), (br, .inr (3, [.ref ba, .int m])), (ba, .inl (g.2.1, 4096, .inl F))]) C dX2_beginAt_34 (c_X0_startOfBlock (zl X) g b br ba F z m v hz) gX2_beginAt_X0_startOfBlock rfl ⟨rfl, rfl⟩ (by decide +kernel) (by decide) (by decide) rfl rfl rfl rfl (Nat.le_of_ble_eq_true rfl) rfl rfl ⟨rfl, rfl, rfl⟩ (by decide) rfl ?_
    refine z_put (ci := 2) (v := .int (v - (zMod v z))) (ty := .int) (Cn := RX2) (T := TX2) (N := 10) (ws' := [(e, .inr (2, [.ref b, .ref d, .ref c, .int rp, .int hf, .int (v - (zMod v z)), .int bg, .int lo, .int fp, .int fb])), (d, .inr (1, [.ref dw, .ref dy, .int dm, .int da])), (dw, .inl (g.2.2.1, 100, .inl Wf)), (dy, .inl (g.2.2.1, 100, .inl Yf)), (c, .inr (3, [.ref ca, .int cm])), (ca, .inl (g.2.1, 4096, .inl Cf)), (b, .inr (0, [.ref br, .int z])), (br, .inr (3, [.ref ba, .int m])), (ba, .inl (g.2.1, 4096, .inl F))]) C dX2_beginAt_37 (fun w h => List.mem_cons_of_mem _ (List.mem_append_left _ (List.mem_append_left _ (List.mem_append_right _ h)))) tyX2 tyX2_ok nmX2 0 rfl rfl 5 (by decide) (List.mem_of_getElem? (i := 2) rfl) rfl rfl (by decide +kernel) rfl rfl (Nat.le_of_ble_eq_true rfl) rfl ?_
    refine z_aload_n C dX2_beginAt_40 rfl 1 rfl ?_
    refine z_iload_n C dX2_beginAt_41 rfl 2 rfl ?_
    refine z_put (ci := 2) (v := .int v) (ty := .int) (Cn := RX2) (T := TX2) (N := 10) (ws' := [(e, .inr (2, [.ref b, .ref d, .ref c, .int rp, .int hf, .int (v - (zMod v z)), .int v, .int lo, .int fp, .int fb])), (d, .inr (1, [.ref dw, .ref dy, .int dm, .int da])), (dw, .inl (g.2.2.1, 100, .inl Wf)), (dy, .inl (g.2.2.1, 100, .inl Yf)), (c, .inr (3, [.ref ca, .int cm])), (ca, .inl (g.2.1, 4096, .inl Cf)), (b, .inr (0, [.ref br, .int z])), (br, .inr (3, [.ref ba, .int m])), (ba, .inl (g.2.1, 4096, .inl F))]) C dX2_beginAt_42 (fun w h => List.mem_cons_of_mem _ (List.mem_append_left _ (List.mem_append_left _ (List.mem_append_right _ h)))) tyX2 tyX2_ok nmX2 0 rfl rfl 6 (by decide) (List.mem_of_getElem? (i := 3) rfl) rfl rfl (by decide +kernel) rfl rfl (Nat.le_of_ble_eq_true rfl) rfl ?_
    refine z_aload_n C dX2_beginAt_45 rfl 1 rfl ?_
    refine z_iload_n C dX2_beginAt_46 rfl 2 rfl ?_
    refine z_if_le (tgt := 54) C dX2_beginAt_47 (by decide) (fun c_4 => ?_) (fun c_4 => ?_)
    · skip
      refine z_iconst (v := 0) C dX2_beginAt_54 (by decide) ?_
      refine z_put (ci := 2) (v := .int 0) (ty := .boolean) (Cn := RX2) (T := TX2) (N := 10) (ws' := [(e, .inr (2, [.ref b, .ref d, .ref c, .int rp, .int hf, .int (v - (zMod v z)), .int v, .int 0, .int fp, .int fb])), (d, .inr (1, [.ref dw, .ref dy, .int dm, .int da])), (dw, .inl (g.2.2.1, 100, .inl Wf)), (dy, .inl (g.2.2.1, 100, .inl Yf)), (c, .inr (3, [.ref ca, .int cm])), (ca, .inl (g.2.1, 4096, .inl Cf)), (b, .inr (0, [.ref br, .int z])), (br, .inr (3, [.ref ba, .int m])), (ba, .inl (g.2.1, 4096, .inl F))]) C dX2_beginAt_55 (fun w h => List.mem_cons_of_mem _ (List.mem_append_left _ (List.mem_append_left _ (List.mem_append_right _ h)))) tyX2 tyX2_ok nmX2 0 rfl rfl 7 (by decide) (List.mem_of_getElem? (i := 4) rfl) rfl rfl (by decide +kernel) rfl rfl (Nat.le_of_ble_eq_true rfl) rfl ?_
      refine z_aload_n C dX2_beginAt_58 rfl 1 rfl ?_
      refine z_get (ci := 2) (v := .ref d) (Cn := RX2) (T := TX2) (N := 10) C dX2_beginAt_59 (fun w h => List.mem_cons_of_mem _ (List.mem_append_left _ (List.mem_append_left _ (List.mem_append_right _ h)))) 0 rfl rfl 1 (by decide) (List.mem_of_getElem? (i := 5) rfl) rfl rfl ?_
      refine z_callVv (n := 0) (isC := [1, 2, 3]) (isR := [0, 4, 5, 6, 7, 8]) (isP := [0, 6, 7, 8, 1, 2, 3, 4, 5]) (As := []) (rest := []) (wr := [(e, .inr (2, [.ref b, .ref d, .ref c, .int rp, .int hf, .int (v - (zMod v z)), .int v, .int 0, .int fp, .int fb])), (c, .inr (3, [.ref ca, .int cm])), (ca, .inl (g.2.1, 4096, .inl Cf)), (b, .inr (0, [.ref br, .int z])), (br, .inr (3, [.ref ba, .int m])), (ba, .inl (g.2.1, 4096, .inl F))]) (ws2 := [(e, .inr (2, [.ref b, .ref d, .ref c, .int rp, .int hf, .int (v - (zMod v z)), .int v, .int 0, .int fp, .int fb])), (d, .inr (1, [.ref dw, .ref dy, .int 0, .int 0])), (dw, .inl (g.2.2.1, 100, .inl Wf)), (dy, .inl (g.2.2.1, 100, .inl Yf)), (c, .inr (3, [.ref ca, .int cm])), (ca, .inl (g.2.1, 4096, .inl Cf)), (b, .inr (0, [.ref br, .int z])), (br, .inr (3, [.ref ba, .int m])), (ba, .inl (g.2.1, 4096, .inl F))]) C dX2_beginAt_62 (c_X1_forget (zl X) g d dw dy Wf Yf dm da) gX2_beginAt_X1_forget rfl ⟨rfl, rfl⟩ (by decide +kernel) (by decide) (by decide) rfl rfl rfl rfl (Nat.le_of_ble_eq_true rfl) rfl rfl ⟨rfl, rfl, rfl⟩ (by decide) rfl ?_
      have he : (f_X2_beginAt z v) = ((v - (zMod v z)), v, 0, 0, 0) := by simp only [f_X2_beginAt, if_pos c_2, if_pos c_4]
      exact hret _ _ _ dX2_beginAt_65 (by first | rw [he] | rfl)
    · skip
      refine z_iconst (v := 1) C dX2_beginAt_50 (by decide) ?_
      refine z_goto (tgt := 55) C dX2_beginAt_51 (by decide) ?_
      refine z_put (ci := 2) (v := .int 1) (ty := .boolean) (Cn := RX2) (T := TX2) (N := 10) (ws' := [(e, .inr (2, [.ref b, .ref d, .ref c, .int rp, .int hf, .int (v - (zMod v z)), .int v, .int 1, .int fp, .int fb])), (d, .inr (1, [.ref dw, .ref dy, .int dm, .int da])), (dw, .inl (g.2.2.1, 100, .inl Wf)), (dy, .inl (g.2.2.1, 100, .inl Yf)), (c, .inr (3, [.ref ca, .int cm])), (ca, .inl (g.2.1, 4096, .inl Cf)), (b, .inr (0, [.ref br, .int z])), (br, .inr (3, [.ref ba, .int m])), (ba, .inl (g.2.1, 4096, .inl F))]) C dX2_beginAt_55 (fun w h => List.mem_cons_of_mem _ (List.mem_append_left _ (List.mem_append_left _ (List.mem_append_right _ h)))) tyX2 tyX2_ok nmX2 0 rfl rfl 7 (by decide) (List.mem_of_getElem? (i := 4) rfl) rfl rfl (by decide +kernel) rfl rfl (Nat.le_of_ble_eq_true rfl) rfl ?_
      refine z_aload_n C dX2_beginAt_58 rfl 1 rfl ?_
      refine z_get (ci := 2) (v := .ref d) (Cn := RX2) (T := TX2) (N := 10) C dX2_beginAt_59 (fun w h => List.mem_cons_of_mem _ (List.mem_append_left _ (List.mem_append_left _ (List.mem_append_right _ h)))) 0 rfl rfl 1 (by decide) (List.mem_of_getElem? (i := 5) rfl) rfl rfl ?_
      refine z_callVv (n := 0) (isC := [1, 2, 3]) (isR := [0, 4, 5, 6, 7, 8]) (isP := [0, 6, 7, 8, 1, 2, 3, 4, 5]) (As := []) (rest := []) (wr := [(e, .inr (2, [.ref b, .ref d, .ref c, .int rp, .int hf, .int (v - (zMod v z)), .int v, .int 1, .int fp, .int fb])), (c, .inr (3, [.ref ca, .int cm])), (ca, .inl (g.2.1, 4096, .inl Cf)), (b, .inr (0, [.ref br, .int z])), (br, .inr (3, [.ref ba, .int m])), (ba, .inl (g.2.1, 4096, .inl F))]) (ws2 := [(e, .inr (2, [.ref b, .ref d, .ref c, .int rp, .int hf, .int (v - (zMod v z)), .int v, .int 1, .int fp, .int fb])), (d, .inr (1, [.ref dw, .ref dy, .int 0, .int 0])), (dw, .inl (g.2.2.1, 100, .inl Wf)), (dy, .inl (g.2.2.1, 100, .inl Yf)), (c, .inr (3, [.ref ca, .int cm])), (ca, .inl (g.2.1, 4096, .inl Cf)), (b, .inr (0, [.ref br, .int z])), (br, .inr (3, [.ref ba, .int m])), (ba, .inl (g.2.1, 4096, .inl F))]) C dX2_beginAt_62 (c_X1_forget (zl X) g d dw dy Wf Yf dm da) gX2_beginAt_X1_forget rfl ⟨rfl, rfl⟩ (by decide +kernel) (by decide) (by decide) rfl rfl rfl rfl (Nat.le_of_ble_eq_true rfl) rfl rfl ⟨rfl, rfl, rfl⟩ (by decide) rfl ?_
      have he : (f_X2_beginAt z v) = ((v - (zMod v z)), v, 1, 0, 0) := by simp only [f_X2_beginAt, if_pos c_2, if_neg c_4]
      exact hret _ _ _ dX2_beginAt_65 (by first | rw [he] | rfl)
  · skip
    refine z_aload_n C dX2_beginAt_18 rfl 1 rfl ?_
    refine z_get (ci := 2) (v := .ref b) (Cn := RX2) (T := TX2) (N := 10) C dX2_beginAt_19 (fun w h => List.mem_cons_of_mem _ (List.mem_append_left _ (List.mem_append_left _ (List.mem_append_right _ h)))) 0 rfl rfl 0 (by decide) (List.mem_of_getElem? (i := 1) rfl) rfl rfl ?_
    refine z_iload_n C dX2_beginAt_22 rfl 2 rfl ?_
    refine z_callVi (n := 1) (isC := [6, 7, 8]) (isR := [0, 1, 2, 3, 4, 5]) (isP := [0, 1, 2, 3, 4, 5, 6, 7, 8]) (As := [.int v]) (rest := [.ref e]) (wr := [(e, .inr (2, [.ref b, .ref d, .ref c, .int rp, .int hf, .int pl, .int bg, .int lo, .int fp, .int fb])), (d, .inr (1, [.ref dw, .ref dy, .int dm, .int da])), (dw, .inl (g.2.2.1, 100, .inl Wf)), (dy, .inl (g.2.2.1, 100, .inl Yf)), (c, .inr (3, [.ref ca, .int cm])), (ca, .inl (g.2.1, 4096, .inl Cf))]) (ws2 := [(e, .inr (2, [.ref b, .ref d, .ref c, .int rp, .int hf, .int pl, .int bg, .int lo, .int fp, .int fb])), (d, .inr (1, [.ref dw, .ref dy, .int dm, .int da])), (dw, .inl (g.2.2.1, 100, .inl Wf)), (dy, .inl (g.2.2.1, 100, .inl Yf)), (c, .inr (3, [.ref ca, .int cm])), (ca, .inl (g.2.1, 4096, .inl Cf)), (b, .inr (0, [.ref br, .int z])), (br, .inr (3, [.ref ba, .int m])), (ba, .inl (g.2.1, 4096, .inl F))]) C dX2_beginAt_23 (c_X0_endOfBlock (zl X) g b br ba F z m v hz) gX2_beginAt_X0_endOfBlock rfl ⟨rfl, rfl⟩ (by decide +kernel) (by decide) (by decide) rfl rfl rfl rfl (Nat.le_of_ble_eq_true rfl) rfl rfl ⟨rfl, rfl, rfl⟩ (by decide) rfl ?_
    refine z_goto (tgt := 37) C dX2_beginAt_26 (by decide) ?_
    refine z_put (ci := 2) (v := .int ((v - (zMod v z)) + z)) (ty := .int) (Cn := RX2) (T := TX2) (N := 10) (ws' := [(e, .inr (2, [.ref b, .ref d, .ref c, .int rp, .int hf, .int ((v - (zMod v z)) + z), .int bg, .int lo, .int fp, .int fb])), (d, .inr (1, [.ref dw, .ref dy, .int dm, .int da])), (dw, .inl (g.2.2.1, 100, .inl Wf)), (dy, .inl (g.2.2.1, 100, .inl Yf)), (c, .inr (3, [.ref ca, .int cm])), (ca, .inl (g.2.1, 4096, .inl Cf)), (b, .inr (0, [.ref br, .int z])), (br, .inr (3, [.ref ba, .int m])), (ba, .inl (g.2.1, 4096, .inl F))]) C dX2_beginAt_37 (fun w h => List.mem_cons_of_mem _ (List.mem_append_left _ (List.mem_append_left _ (List.mem_append_right _ h)))) tyX2 tyX2_ok nmX2 0 rfl rfl 5 (by decide) (List.mem_of_getElem? (i := 2) rfl) rfl rfl (by decide +kernel) rfl rfl (Nat.le_of_ble_eq_true rfl) rfl ?_
    refine z_aload_n C dX2_beginAt_40 rfl 1 rfl ?_
    refine z_iload_n C dX2_beginAt_41 rfl 2 rfl ?_
    refine z_put (ci := 2) (v := .int v) (ty := .int) (Cn := RX2) (T := TX2) (N := 10) (ws' := [(e, .inr (2, [.ref b, .ref d, .ref c, .int rp, .int hf, .int ((v - (zMod v z)) + z), .int v, .int lo, .int fp, .int fb])), (d, .inr (1, [.ref dw, .ref dy, .int dm, .int da])), (dw, .inl (g.2.2.1, 100, .inl Wf)), (dy, .inl (g.2.2.1, 100, .inl Yf)), (c, .inr (3, [.ref ca, .int cm])), (ca, .inl (g.2.1, 4096, .inl Cf)), (b, .inr (0, [.ref br, .int z])), (br, .inr (3, [.ref ba, .int m])), (ba, .inl (g.2.1, 4096, .inl F))]) C dX2_beginAt_42 (fun w h => List.mem_cons_of_mem _ (List.mem_append_left _ (List.mem_append_left _ (List.mem_append_right _ h)))) tyX2 tyX2_ok nmX2 0 rfl rfl 6 (by decide) (List.mem_of_getElem? (i := 3) rfl) rfl rfl (by decide +kernel) rfl rfl (Nat.le_of_ble_eq_true rfl) rfl ?_
    refine z_aload_n C dX2_beginAt_45 rfl 1 rfl ?_
    refine z_iload_n C dX2_beginAt_46 rfl 2 rfl ?_
    refine z_if_le (tgt := 54) C dX2_beginAt_47 (by decide) (fun c_8 => ?_) (fun c_8 => ?_)
    · skip
      refine z_iconst (v := 0) C dX2_beginAt_54 (by decide) ?_
      refine z_put (ci := 2) (v := .int 0) (ty := .boolean) (Cn := RX2) (T := TX2) (N := 10) (ws' := [(e, .inr (2, [.ref b, .ref d, .ref c, .int rp, .int hf, .int ((v - (zMod v z)) + z), .int v, .int 0, .int fp, .int fb])), (d, .inr (1, [.ref dw, .ref dy, .int dm, .int da])), (dw, .inl (g.2.2.1, 100, .inl Wf)), (dy, .inl (g.2.2.1, 100, .inl Yf)), (c, .inr (3, [.ref ca, .int cm])), (ca, .inl (g.2.1, 4096, .inl Cf)), (b, .inr (0, [.ref br, .int z])), (br, .inr (3, [.ref ba, .int m])), (ba, .inl (g.2.1, 4096, .inl F))]) C dX2_beginAt_55 (fun w h => List.mem_cons_of_mem _ (List.mem_append_left _ (List.mem_append_left _ (List.mem_append_right _ h)))) tyX2 tyX2_ok nmX2 0 rfl rfl 7 (by decide) (List.mem_of_getElem? (i := 4) rfl) rfl rfl (by decide +kernel) rfl rfl (Nat.le_of_ble_eq_true rfl) rfl ?_
      refine z_aload_n C dX2_beginAt_58 rfl 1 rfl ?_
      refine z_get (ci := 2) (v := .ref d) (Cn := RX2) (T := TX2) (N := 10) C dX2_beginAt_59 (fun w h => List.mem_cons_of_mem _ (List.mem_append_left _ (List.mem_append_left _ (List.mem_append_right _ h)))) 0 rfl rfl 1 (by decide) (List.mem_of_getElem? (i := 5) rfl) rfl rfl ?_
      refine z_callVv (n := 0) (isC := [1, 2, 3]) (isR := [0, 4, 5, 6, 7, 8]) (isP := [0, 6, 7, 8, 1, 2, 3, 4, 5]) (As := []) (rest := []) (wr := [(e, .inr (2, [.ref b, .ref d, .ref c, .int rp, .int hf, .int ((v - (zMod v z)) + z), .int v, .int 0, .int fp, .int fb])), (c, .inr (3, [.ref ca, .int cm])), (ca, .inl (g.2.1, 4096, .inl Cf)), (b, .inr (0, [.ref br, .int z])), (br, .inr (3, [.ref ba, .int m])), (ba, .inl (g.2.1, 4096, .inl F))]) (ws2 := [(e, .inr (2, [.ref b, .ref d, .ref c, .int rp, .int hf, .int ((v - (zMod v z)) + z), .int v, .int 0, .int fp, .int fb])), (d, .inr (1, [.ref dw, .ref dy, .int 0, .int 0])), (dw, .inl (g.2.2.1, 100, .inl Wf)), (dy, .inl (g.2.2.1, 100, .inl Yf)), (c, .inr (3, [.ref ca, .int cm])), (ca, .inl (g.2.1, 4096, .inl Cf)), (b, .inr (0, [.ref br, .int z])), (br, .inr (3, [.ref ba, .int m])), (ba, .inl (g.2.1, 4096, .inl F))]) C dX2_beginAt_62 (c_X1_forget (zl X) g d dw dy Wf Yf dm da) gX2_beginAt_X1_forget rfl ⟨rfl, rfl⟩ (by decide +kernel) (by decide) (by decide) rfl rfl rfl rfl (Nat.le_of_ble_eq_true rfl) rfl rfl ⟨rfl, rfl, rfl⟩ (by decide) rfl ?_
      have he : (f_X2_beginAt z v) = (((v - (zMod v z)) + z), v, 0, 0, 0) := by simp only [f_X2_beginAt, if_neg c_2, if_pos c_8]
      exact hret _ _ _ dX2_beginAt_65 (by first | rw [he] | rfl)
    · skip
      refine z_iconst (v := 1) C dX2_beginAt_50 (by decide) ?_
      refine z_goto (tgt := 55) C dX2_beginAt_51 (by decide) ?_
      refine z_put (ci := 2) (v := .int 1) (ty := .boolean) (Cn := RX2) (T := TX2) (N := 10) (ws' := [(e, .inr (2, [.ref b, .ref d, .ref c, .int rp, .int hf, .int ((v - (zMod v z)) + z), .int v, .int 1, .int fp, .int fb])), (d, .inr (1, [.ref dw, .ref dy, .int dm, .int da])), (dw, .inl (g.2.2.1, 100, .inl Wf)), (dy, .inl (g.2.2.1, 100, .inl Yf)), (c, .inr (3, [.ref ca, .int cm])), (ca, .inl (g.2.1, 4096, .inl Cf)), (b, .inr (0, [.ref br, .int z])), (br, .inr (3, [.ref ba, .int m])), (ba, .inl (g.2.1, 4096, .inl F))]) C dX2_beginAt_55 (fun w h => List.mem_cons_of_mem _ (List.mem_append_left _ (List.mem_append_left _ (List.mem_append_right _ h)))) tyX2 tyX2_ok nmX2 0 rfl rfl 7 (by decide) (List.mem_of_getElem? (i := 4) rfl) rfl rfl (by decide +kernel) rfl rfl (Nat.le_of_ble_eq_true rfl) rfl ?_
      refine z_aload_n C dX2_beginAt_58 rfl 1 rfl ?_
      refine z_get (ci := 2) (v := .ref d) (Cn := RX2) (T := TX2) (N := 10) C dX2_beginAt_59 (fun w h => List.mem_cons_of_mem _ (List.mem_append_left _ (List.mem_append_left _ (List.mem_append_right _ h)))) 0 rfl rfl 1 (by decide) (List.mem_of_getElem? (i := 5) rfl) rfl rfl ?_
      refine z_callVv (n := 0) (isC := [1, 2, 3]) (isR := [0, 4, 5, 6, 7, 8]) (isP := [0, 6, 7, 8, 1, 2, 3, 4, 5]) (As := []) (rest := []) (wr := [(e, .inr (2, [.ref b, .ref d, .ref c, .int rp, .int hf, .int ((v - (zMod v z)) + z), .int v, .int 1, .int fp, .int fb])), (c, .inr (3, [.ref ca, .int cm])), (ca, .inl (g.2.1, 4096, .inl Cf)), (b, .inr (0, [.ref br, .int z])), (br, .inr (3, [.ref ba, .int m])), (ba, .inl (g.2.1, 4096, .inl F))]) (ws2 := [(e, .inr (2, [.ref b, .ref d, .ref c, .int rp, .int hf, .int ((v - (zMod v z)) + z), .int v, .int 1, .int fp, .int fb])), (d, .inr (1, [.ref dw, .ref dy, .int 0, .int 0])), (dw, .inl (g.2.2.1, 100, .inl Wf)), (dy, .inl (g.2.2.1, 100, .inl Yf)), (c, .inr (3, [.ref ca, .int cm])), (ca, .inl (g.2.1, 4096, .inl Cf)), (b, .inr (0, [.ref br, .int z])), (br, .inr (3, [.ref ba, .int m])), (ba, .inl (g.2.1, 4096, .inl F))]) C dX2_beginAt_62 (c_X1_forget (zl X) g d dw dy Wf Yf dm da) gX2_beginAt_X1_forget rfl ⟨rfl, rfl⟩ (by decide +kernel) (by decide) (by decide) rfl rfl rfl rfl (Nat.le_of_ble_eq_true rfl) rfl rfl ⟨rfl, rfl, rfl⟩ (by decide) rfl ?_
      have he : (f_X2_beginAt z v) = (((v - (zMod v z)) + z), v, 1, 0, 0) := by simp only [f_X2_beginAt, if_neg c_2, if_neg c_8]
      exact hret _ _ _ dX2_beginAt_65 (by first | rw [he] | rfl)
def f_X2_dropRecord (cm : Int32) : Int32 × Int32 × Int32 :=
  ((-1), 0, (f_X3_shorten cm 0))
theorem zok_X2_dropRecord {cm r h c1 : Int32} (hc : zok 4096 cm) (e : f_X2_dropRecord cm = (r, h, c1)) : zok 4096 c1 := by
  unfold f_X2_dropRecord at e
  cases e
  exact zok_X3_shorten hc rfl
set_option maxHeartbeats 4000000 in
set_option maxRecDepth 100000 in
theorem c_X2_dropRecord (l : Launch) (g : zG) (e b d c dw dy ca br ba : Nat) (Wf : Nat → Int32) (Yf : Nat → Int32) (Cf : Nat → Int32) (F : Nat → Int32) (rp : Int32) (hf : Int32) (pl : Int32) (bg : Int32) (lo : Int32) (fp : Int32) (fb : Int32) (dm : Int32) (da : Int32) (cm : Int32) (z : Int32) (m : Int32) (hc : zok 4096 cm) : zMV l yX2_dropRecord wsX2_dropRecord ({ frames := 1, cells := 0, slots := 0, locals := 21 }) g [.ref e] [(e, .inr (2, [.ref b, .ref d, .ref c, .int rp, .int hf, .int pl, .int bg, .int lo, .int fp, .int fb])), (d, .inr (1, [.ref dw, .ref dy, .int dm, .int da])), (dw, .inl (g.2.2.1, 100, .inl Wf)), (dy, .inl (g.2.2.1, 100, .inl Yf)), (c, .inr (3, [.ref ca, .int cm])), (ca, .inl (g.2.1, 4096, .inl Cf)), (b, .inr (0, [.ref br, .int z])), (br, .inr (3, [.ref ba, .int m])), (ba, .inl (g.2.1, 4096, .inl F))] [(e, .inr (2, [.ref b, .ref d, .ref c, .int ((f_X2_dropRecord cm).1), .int ((f_X2_dropRecord cm).2.1), .int pl, .int bg, .int lo, .int fp, .int fb])), (d, .inr (1, [.ref dw, .ref dy, .int dm, .int da])), (dw, .inl (g.2.2.1, 100, .inl Wf)), (dy, .inl (g.2.2.1, 100, .inl Yf)), (c, .inr (3, [.ref ca, .int ((f_X2_dropRecord cm).2.2)])), (ca, .inl (g.2.1, 4096, .inl Cf)), (b, .inr (0, [.ref br, .int z])), (br, .inr (3, [.ref ba, .int m])), (ba, .inl (g.2.1, 4096, .inl F))] := by
  refine zMV_of (cc := cX2_dropRecord) (nL := 1) (by decide) rfl (Nat.le_of_ble_eq_true rfl) ?_
  intro X C hret
  refine z_lv (lv' := [(0, .ref e)]) [0] rfl ?_
  refine z_aload_n C dX2_dropRecord_0 rfl 0 rfl ?_
  refine z_get (ci := 2) (v := .ref c) (Cn := RX2) (T := TX2) (N := 10) C dX2_dropRecord_1 (fun w h => List.mem_cons_of_mem _ (List.mem_append_left _ (List.mem_append_right _ h))) 0 rfl rfl 2 (by decide) (List.mem_of_getElem? (i := 1) rfl) rfl rfl ?_
  refine z_iconst (v := 0) C dX2_dropRecord_4 (by decide) ?_
  refine z_callVv (n := 1) (isC := [4, 5]) (isR := [0, 1, 2, 3, 6, 7, 8]) (isP := [0, 1, 2, 3, 7, 8, 4, 5, 6]) (As := [.int 0]) (rest := []) (wr := [(e, .inr (2, [.ref b, .ref d, .ref c, .int rp, .int hf, .int pl, .int bg, .int lo, .int fp, .int fb])), (d, .inr (1, [.ref dw, .ref dy, .int dm, .int da])), (dw, .inl (g.2.2.1, 100, .inl Wf)), (dy, .inl (g.2.2.1, 100, .inl Yf)), (b, .inr (0, [.ref br, .int z])), (br, .inr (3, [.ref ba, .int m])), (ba, .inl (g.2.1, 4096, .inl F))]) (ws2 := [(e, .inr (2, [.ref b, .ref d, .ref c, .int rp, .int hf, .int pl, .int bg, .int lo, .int fp, .int fb])), (d, .inr (1, [.ref dw, .ref dy, .int dm, .int da])), (dw, .inl (g.2.2.1, 100, .inl Wf)), (dy, .inl (g.2.2.1, 100, .inl Yf)), (c, .inr (3, [.ref ca, .int (f_X3_shorten cm 0)])), (ca, .inl (g.2.1, 4096, .inl Cf)), (b, .inr (0, [.ref br, .int z])), (br, .inr (3, [.ref ba, .int m])), (ba, .inl (g.2.1, 4096, .inl F))]) C dX2_dropRecord_5 (c_X3_shorten (zl X) g c ca 4096 Cf cm 0 hc) gX2_dropRecord_X3_shorten rfl ⟨rfl, rfl⟩ (by decide +kernel) (by decide) (by decide) rfl rfl rfl rfl (Nat.le_of_ble_eq_true rfl) rfl rfl ⟨rfl, rfl, rfl⟩ (by decide) rfl ?_
  generalize hT1 : (f_X3_shorten cm 0) = mq1
  have k1_m : zok 4096 mq1 := zok_X3_shorten hc hT1
  refine z_aload_n C dX2_dropRecord_8 rfl 0 rfl ?_
  refine z_iconst (v := (-1)) C dX2_dropRecord_9 (by decide) ?_
  refine z_put (ci := 2) (v := .int (-1)) (ty := .int) (Cn := RX2) (T := TX2) (N := 10) (ws' := [(e, .inr (2, [.ref b, .ref d, .ref c, .int (-1), .int hf, .int pl, .int bg, .int lo, .int fp, .int fb])), (d, .inr (1, [.ref dw, .ref dy, .int dm, .int da])), (dw, .inl (g.2.2.1, 100, .inl Wf)), (dy, .inl (g.2.2.1, 100, .inl Yf)), (c, .inr (3, [.ref ca, .int mq1])), (ca, .inl (g.2.1, 4096, .inl Cf)), (b, .inr (0, [.ref br, .int z])), (br, .inr (3, [.ref ba, .int m])), (ba, .inl (g.2.1, 4096, .inl F))]) C dX2_dropRecord_10 (fun w h => List.mem_cons_of_mem _ (List.mem_append_left _ (List.mem_append_right _ h))) tyX2 tyX2_ok nmX2 0 rfl rfl 3 (by decide) (List.mem_of_getElem? (i := 2) rfl) rfl rfl (by decide +kernel) rfl rfl (Nat.le_of_ble_eq_true rfl) rfl ?_
  refine z_aload_n C dX2_dropRecord_13 rfl 0 rfl ?_
  refine z_iconst (v := 0) C dX2_dropRecord_14 (by decide) ?_
  refine z_put (ci := 2) (v := .int 0) (ty := .boolean) (Cn := RX2) (T := TX2) (N := 10) (ws' := [(e, .inr (2, [.ref b, .ref d, .ref c, .int (-1), .int 0, .int pl, .int bg, .int lo, .int fp, .int fb])), (d, .inr (1, [.ref dw, .ref dy, .int dm, .int da])), (dw, .inl (g.2.2.1, 100, .inl Wf)), (dy, .inl (g.2.2.1, 100, .inl Yf)), (c, .inr (3, [.ref ca, .int mq1])), (ca, .inl (g.2.1, 4096, .inl Cf)), (b, .inr (0, [.ref br, .int z])), (br, .inr (3, [.ref ba, .int m])), (ba, .inl (g.2.1, 4096, .inl F))]) C dX2_dropRecord_15 (fun w h => List.mem_cons_of_mem _ (List.mem_append_left _ (List.mem_append_right _ h))) tyX2 tyX2_ok nmX2 0 rfl rfl 4 (by decide) (List.mem_of_getElem? (i := 3) rfl) rfl rfl (by decide +kernel) rfl rfl (Nat.le_of_ble_eq_true rfl) rfl ?_
  have he : (f_X2_dropRecord cm) = ((-1), 0, mq1) := by simp only [f_X2_dropRecord, hT1]
  exact hret _ _ _ dX2_dropRecord_18 (by first | rw [he] | rfl)
def f_X2_addFragmentBytes (Cf : Nat → Int32) (F : Nat → Int32) (fp : Int32) (fb : Int32) (cm : Int32) (m : Int32) : (Nat → Int32) × Int32 :=
  match (f_X3_addPart 4096 Cf F cm m (fp + 7) fb) with
  | (Fq2, mq2) =>
    (Fq2, mq2)
theorem zok_X2_addFragmentBytes {C F C1 : Nat → Int32} {fp fb cm m c1 : Int32} (hc : zok 4096 cm) (hm : zok 4096 m) (e : f_X2_addFragmentBytes C F fp fb cm m = (C1, c1)) : zok 4096 c1 := by
  unfold f_X2_addFragmentBytes at e
  split at e
  next e1 =>
  cases e
  exact zok_X3_addPart hc hm e1
set_option maxHeartbeats 4000000 in
set_option maxRecDepth 100000 in
theorem c_X2_addFragmentBytes (l : Launch) (g : zG) (e b d c dw dy ca br ba : Nat) (Wf : Nat → Int32) (Yf : Nat → Int32) (Cf : Nat → Int32) (F : Nat → Int32) (rp : Int32) (hf : Int32) (pl : Int32) (bg : Int32) (lo : Int32) (fp : Int32) (fb : Int32) (dm : Int32) (da : Int32) (cm : Int32) (z : Int32) (m : Int32) (hc : zok 4096 cm) (hm : zok 4096 m) : zMV l yX2_addFragmentBytes wsX2_addFragmentBytes ({ frames := 2, cells := 0, slots := 0, locals := 45 }) g [.ref e] [(e, .inr (2, [.ref b, .ref d, .ref c, .int rp, .int hf, .int pl, .int bg, .int lo, .int fp, .int fb])), (d, .inr (1, [.ref dw, .ref dy, .int dm, .int da])), (dw, .inl (g.2.2.1, 100, .inl Wf)), (dy, .inl (g.2.2.1, 100, .inl Yf)), (c, .inr (3, [.ref ca, .int cm])), (ca, .inl (g.2.1, 4096, .inl Cf)), (b, .inr (0, [.ref br, .int z])), (br, .inr (3, [.ref ba, .int m])), (ba, .inl (g.2.1, 4096, .inl F))] [(e, .inr (2, [.ref b, .ref d, .ref c, .int rp, .int hf, .int pl, .int bg, .int lo, .int fp, .int fb])), (d, .inr (1, [.ref dw, .ref dy, .int dm, .int da])), (dw, .inl (g.2.2.1, 100, .inl Wf)), (dy, .inl (g.2.2.1, 100, .inl Yf)), (c, .inr (3, [.ref ca, .int ((f_X2_addFragmentBytes Cf F fp fb cm m).2)])), (ca, .inl (g.2.1, 4096, .inl ((f_X2_addFragmentBytes Cf F fp fb cm m).1))), (b, .inr (0, [.ref br, .int z])), (br, .inr (3, [.ref ba, .int m])), (ba, .inl (g.2.1, 4096, .inl F))] := by
  refine zMV_of (cc := cX2_addFragmentBytes) (nL := 1) (by decide) rfl (Nat.le_of_ble_eq_true rfl) ?_
  intro X C hret
  refine z_lv (lv' := [(0, .ref e)]) [0] rfl ?_
  refine z_aload_n C dX2_addFragmentBytes_0 rfl 0 rfl ?_
  refine z_get (ci := 2) (v := .ref c) (Cn := RX2) (T := TX2) (N := 10) C dX2_addFragmentBytes_1 (fun w h => List.mem_cons_of_mem _ (List.mem_append_left _ (List.mem_append_left _ (List.mem_append_right _ h)))) 0 rfl rfl 2 (by decide) (List.mem_of_getElem? (i := 1) rfl) rfl rfl ?_
  refine z_aload_n C dX2_addFragmentBytes_4 rfl 0 rfl ?_
  refine z_get (ci := 2) (v := .ref b) (Cn := RX2) (T := TX2) (N := 10) C dX2_addFragmentBytes_5 (fun w h => List.mem_cons_of_mem _ (List.mem_append_left _ (List.mem_append_left _ (List.mem_append_right _ h)))) 0 rfl rfl 0 (by decide) (List.mem_of_getElem? (i := 2) rfl) rfl rfl ?_
  refine z_callVr (n := 0) (isC := [6, 7, 8]) (isR := [0, 1, 2, 3, 4, 5]) (isP := [0, 1, 2, 3, 4, 5, 6, 7, 8]) (As := []) (rest := [.ref c]) (wr := [(e, .inr (2, [.ref b, .ref d, .ref c, .int rp, .int hf, .int pl, .int bg, .int lo, .int fp, .int fb])), (d, .inr (1, [.ref dw, .ref dy, .int dm, .int da])), (dw, .inl (g.2.2.1, 100, .inl Wf)), (dy, .inl (g.2.2.1, 100, .inl Yf)), (c, .inr (3, [.ref ca, .int cm])), (ca, .inl (g.2.1, 4096, .inl Cf))]) (ws2 := [(e, .inr (2, [.ref b, .ref d, .ref c, .int rp, .int hf, .int pl, .int bg, .int lo, .int fp, .int fb])), (d, .inr (1, [.ref dw, .ref dy, .int dm, .int da])), (dw, .inl (g.2.2.1, 100, .inl Wf)), (dy, .inl (g.2.2.1, 100, .inl Yf)), (c, .inr (3, [.ref ca, .int cm])), (ca, .inl (g.2.1, 4096, .inl Cf)), (b, .inr (0, [.ref br, .int z])), (br, .inr (3, [.ref ba, .int m])), (ba, .inl (g.2.1, 4096, .inl F))]) C dX2_addFragmentBytes_8 (c_X0_bytes (zl X) g b br ba F z m) gX2_addFragmentBytes_X0_bytes rfl ⟨rfl, rfl⟩ (by decide +kernel) (by decide) (by decide) rfl rfl rfl rfl (Nat.le_of_ble_eq_true rfl) rfl rfl ⟨rfl, rfl, rfl⟩ (by decide) rfl ?_
  refine z_aload_n C dX2_addFragmentBytes_11 rfl 0 rfl ?_
  refine z_get (ci := 2) (v := .int fp) (Cn := RX2) (T := TX2) (N := 10) C dX2_addFragmentBytes_12 (fun w h => List.mem_cons_of_mem _ (List.mem_append_left _ (List.mem_append_left _ (List.mem_append_right _ h)))) 0 rfl rfl 8 (by decide) (List.mem_of_getElem? (i := 3) rfl) rfl rfl ?_
  refine z_bipush (v := 7) C dX2_addFragmentBytes_15 (by decide) ?_
  refine z_iadd C dX2_addFragmentBytes_17 ?_
  refine z_aload_n C dX2_addFragmentBytes_18 rfl 0 rfl ?_
  refine z_get (ci := 2) (v := .int fb) (Cn := RX2) (T := TX2) (N := 10) C dX2_addFragmentBytes_19 (fun w h => List.mem_cons_of_mem _ (List.mem_append_left _ (List.mem_append_left _ (List.mem_append_right _ h)))) 0 rfl rfl 9 (by decide) (List.mem_of_getElem? (i := 4) rfl) rfl rfl ?_
  refine z_callVv (n := 3) (isC := [4, 5, 7, 8]) (isR := [0, 1, 2, 3, 6]) (isP := [0, 1, 2, 3, 5, 6, 4, 7, 8]) (As := [.ref br, .int (fp + 7), .int fb]) (rest := []) (wr := [(e, .inr (2, [.ref b, .ref d, .ref c, .int rp, .int hf, .int pl, .int bg, .int lo, .int fp, .int fb])), (d, .inr (1, [.ref dw, .ref dy, .int dm, .int da])), (dw, .inl (g.2.2.1, 100, .inl Wf)), (dy, .inl (g.2.2.1, 100, .inl Yf)), (b, .inr (0, [.ref br, .int z]))]) (ws2 := [(e, .inr (2, [.ref b, .ref d, .ref c, .int rp, .int hf, .int pl, .int bg, .int lo, .int fp, .int fb])), (d, .inr (1, [.ref dw, .ref dy, .int dm, .int da])), (dw, .inl (g.2.2.1, 100, .inl Wf)), (dy, .inl (g.2.2.1, 100, .inl Yf)), (c, .inr (3, [.ref ca, .int ((f_X3_addPart 4096 Cf F cm m (fp + 7) fb).2)])), (ca, .inl (g.2.1, 4096, .inl ((f_X3_addPart 4096 Cf F cm m (fp + 7) fb).1))), (b, .inr (0, [.ref br, .int z])), (br, .inr (3, [.ref ba, .int m])), (ba, .inl (g.2.1, 4096, .inl F))]) C dX2_addFragmentBytes_22 (c_X3_addPart (zl X) g c ca br ba 4096 4096 Cf F cm m (fp + 7) fb hc hm) gX2_addFragmentBytes_X3_addPart rfl ⟨rfl, rfl⟩ (by decide +kernel) (by decide) (by decide) rfl rfl rfl rfl (Nat.le_of_ble_eq_true rfl) rfl rfl ⟨rfl, rfl, rfl⟩ (by decide) rfl ?_
  generalize hT2 : (f_X3_addPart 4096 Cf F cm m (fp + 7) fb) = T2
  obtain ⟨Fq2, mq2⟩ := T2
  have k2_m : zok 4096 mq2 := zok_X3_addPart hc hm hT2
  have he : (f_X2_addFragmentBytes Cf F fp fb cm m) = (Fq2, mq2) := by simp only [f_X2_addFragmentBytes, hT2]
  exact hret _ _ _ dX2_addFragmentBytes_25 (by first | rw [he] | rfl)
def f_X2_goOnWithRecord (Wf : Nat → Int32) (Yf : Nat → Int32) (Cf : Nat → Int32) (F : Nat → Int32) (hf : Int32) (fp : Int32) (fb : Int32) (dm : Int32) (da : Int32) (cm : Int32) (m : Int32) : Int32 × (Nat → Int32) × (Nat → Int32) × (Nat → Int32) × Int32 × Int32 × Int32 :=
  if hf = 0 then
    match (f_X1_tell Wf Yf dm da 5 fb) with
    | (Wfq3, Yfq3, dmq3, daq3) =>
      (0, Wfq3, Yfq3, Cf, dmq3, daq3, cm)
  else
    match (f_X2_addFragmentBytes Cf F fp fb cm m) with
    | (Cfq2, cmq2) =>
      (1, Wf, Yf, Cfq2, dm, da, cmq2)
theorem zbool_X2_goOnWithRecord (Wf Yf C F : Nat → Int32) (hf fp fb dm da cm m : Int32) : narrow .boolean (.int (f_X2_goOnWithRecord Wf Yf C F hf fp fb dm da cm m).1) = .int (f_X2_goOnWithRecord Wf Yf C F hf fp fb dm da cm m).1 := by
  unfold f_X2_goOnWithRecord
  repeat' split
  all_goals ((try dsimp only); rfl)
theorem zok_X2_goOnWithRecord {Wf Yf C F W1 Y1 C1 : Nat → Int32} {hf fp fb dm da cm m r d1 a1 c1 : Int32} (_ : zdok 1 dm) (hc : zok 4096 cm) (hm : zok 4096 m) (e : f_X2_goOnWithRecord Wf Yf C F hf fp fb dm da cm m = (r, W1, Y1, C1, d1, a1, c1)) : zok 4096 c1 := by
  unfold f_X2_goOnWithRecord at e
  split at e
  · split at e
    cases e
    exact hc
  · split at e
    next e1 =>
    cases e
    exact zok_X2_addFragmentBytes hc hm e1
theorem zdok_X2_goOnWithRecord {k : Nat} {Wf Yf C F W1 Y1 C1 : Nat → Int32} {hf fp fb dm da cm m r d1 a1 c1 : Int32} (h : zdok (k + 1) dm) (e : f_X2_goOnWithRecord Wf Yf C F hf fp fb dm da cm m = (r, W1, Y1, C1, d1, a1, c1)) : zdok k d1 := by
  unfold f_X2_goOnWithRecord at e
  split at e
  · split at e
    next e1 =>
    cases e
    exact zdok_X1_tell h e1
  · split at e
    cases e
    exact zdok_le h (by omega)
set_option maxHeartbeats 4000000 in
set_option maxRecDepth 100000 in
theorem c_X2_goOnWithRecord (l : Launch) (g : zG) (e b d c dw dy ca br ba : Nat) (Wf : Nat → Int32) (Yf : Nat → Int32) (Cf : Nat → Int32) (F : Nat → Int32) (rp : Int32) (hf : Int32) (pl : Int32) (bg : Int32) (lo : Int32) (fp : Int32) (fb : Int32) (dm : Int32) (da : Int32) (cm : Int32) (z : Int32) (m : Int32) (hd : zdok 1 dm) (hc : zok 4096 cm) (hm : zok 4096 m) : zMI l yX2_goOnWithRecord wsX2_goOnWithRecord ({ frames := 3, cells := 0, slots := 0, locals := 65 }) g [.ref e] [(e, .inr (2, [.ref b, .ref d, .ref c, .int rp, .int hf, .int pl, .int bg, .int lo, .int fp, .int fb])), (d, .inr (1, [.ref dw, .ref dy, .int dm, .int da])), (dw, .inl (g.2.2.1, 100, .inl Wf)), (dy, .inl (g.2.2.1, 100, .inl Yf)), (c, .inr (3, [.ref ca, .int cm])), (ca, .inl (g.2.1, 4096, .inl Cf)), (b, .inr (0, [.ref br, .int z])), (br, .inr (3, [.ref ba, .int m])), (ba, .inl (g.2.1, 4096, .inl F))] ((f_X2_goOnWithRecord Wf Yf Cf F hf fp fb dm da cm m).1) [(e, .inr (2, [.ref b, .ref d, .ref c, .int rp, .int hf, .int pl, .int bg, .int lo, .int fp, .int fb])), (d, .inr (1, [.ref dw, .ref dy, .int ((f_X2_goOnWithRecord Wf Yf Cf F hf fp fb dm da cm m).2.2.2.2.1), .int ((f_X2_goOnWithRecord Wf Yf Cf F hf fp fb dm da cm m).2.2.2.2.2.1)])), (dw, .inl (g.2.2.1, 100, .inl ((f_X2_goOnWithRecord Wf Yf Cf F hf fp fb dm da cm m).2.1))), (dy, .inl (g.2.2.1, 100, .inl ((f_X2_goOnWithRecord Wf Yf Cf F hf fp fb dm da cm m).2.2.1))), (c, .inr (3, [.ref ca, .int ((f_X2_goOnWithRecord Wf Yf Cf F hf fp fb dm da cm m).2.2.2.2.2.2)])), (ca, .inl (g.2.1, 4096, .inl ((f_X2_goOnWithRecord Wf Yf Cf F hf fp fb dm da cm m).2.2.2.1))), (b, .inr (0, [.ref br, .int z])), (br, .inr (3, [.ref ba, .int m])), (ba, .inl (g.2.1, 4096, .inl F))] := by
  refine zMI_of (cc := cX2_goOnWithRecord) (nL := 1) (ty := .boolean) (by decide) rfl (Nat.le_of_ble_eq_true rfl) (zbool_X2_goOnWithRecord _ _ _ _ _ _ _ _ _ _ _) ?_
  intro X C hret
  refine z_lv (lv' := [(0, .ref e)]) [0] rfl ?_
  refine z_aload_n C dX2_goOnWithRecord_0 rfl 0 rfl ?_
  refine z_get (ci := 2) (v := .int hf) (Cn := RX2) (T := TX2) (N := 10) C dX2_goOnWithRecord_1 (fun w h => List.mem_cons_of_mem _ (List.mem_append_left _ (List.mem_append_left _ (List.mem_append_left _ (List.mem_append_right _ h))))) 0 rfl rfl 4 (by decide) (List.mem_of_getElem? (i := 1) rfl) rfl rfl ?_
  refine z_if_ne (tgt := 21) C dX2_goOnWithRecord_4 (by decide) (fun c_1 => ?_) (fun c_1 => ?_)
  · skip
    refine z_aload_n C dX2_goOnWithRecord_21 rfl 0 rfl ?_
    refine z_callVv (n := 0) (isC := [0, 1, 2, 3, 4, 5, 6, 7, 8]) (isR := []) (isP := [0, 1, 2, 3, 4, 5, 6, 7, 8]) (As := []) (rest := []) (wr := []) (ws2 := [(e, .inr (2, [.ref b, .ref d, .ref c, .int rp, .int hf, .int pl, .int bg, .int lo, .int fp, .int fb])), (d, .inr (1, [.ref dw, .ref dy, .int dm, .int da])), (dw, .inl (g.2.2.1, 100, .inl Wf)), (dy, .inl (g.2.2.1, 100, .inl Yf)), (c, .inr (3, [.ref ca, .int ((f_X2_addFragmentBytes Cf F fp fb cm m).2)])), (ca, .inl (g.2.1, 4096, .inl ((f_X2_addFragmentBytes Cf F fp fb cm m).1))), (b, .inr (0, [.ref br, .int z])), (br, .inr (3, [.ref ba, .int m])), (ba, .inl (g.2.1, 4096, .inl F))]) C dX2_goOnWithRecord_22 (c_X2_addFragmentBytes (zl X) g e b d c dw dy ca br ba Wf Yf Cf F rp hf pl bg lo fp fb dm da cm z m hc hm) gX2_goOnWithRecord_X2_addFragmentBytes rfl ⟨rfl, rfl⟩ (by decide +kernel) (by decide) (by decide) rfl rfl rfl rfl (Nat.le_of_ble_eq_true rfl) rfl rfl ⟨rfl, rfl, rfl⟩ (by decide) rfl ?_
    generalize hT2 : (f_X2_addFragmentBytes Cf F fp fb cm m) = T2
    obtain ⟨Cfq2, cmq2⟩ := T2
    have k2_cm : zok 4096 cmq2 := zok_X2_addFragmentBytes hc hm hT2
    refine z_iconst (v := 1) C dX2_goOnWithRecord_25 (by decide) ?_
    have he : (f_X2_goOnWithRecord Wf Yf Cf F hf fp fb dm da cm m) = (1, Wf, Yf, Cfq2, dm, da, cmq2) := by simp only [f_X2_goOnWithRecord, if_neg c_1, hT2]
    exact hret _ _ _ _ dX2_goOnWithRecord_26 (by first | rw [he] | rfl) (by first | rw [he] | rfl)
  · skip
    refine z_aload_n C dX2_goOnWithRecord_7 rfl 0 rfl ?_
    refine z_get (ci := 2) (v := .ref d) (Cn := RX2) (T := TX2) (N := 10) C dX2_goOnWithRecord_8 (fun w h => List.mem_cons_of_mem _ (List.mem_append_left _ (List.mem_append_left _ (List.mem_append_left _ (List.mem_append_right _ h))))) 0 rfl rfl 1 (by decide) (List.mem_of_getElem? (i := 2) rfl) rfl rfl ?_
    refine z_iconst (v := 5) C dX2_goOnWithRecord_11 (by decide) ?_
    refine z_aload_n C dX2_goOnWithRecord_12 rfl 0 rfl ?_
    refine z_get (ci := 2) (v := .int fb) (Cn := RX2) (T := TX2) (N := 10) C dX2_goOnWithRecord_13 (fun w h => List.mem_cons_of_mem _ (List.mem_append_left _ (List.mem_append_left _ (List.mem_append_left _ (List.mem_append_right _ h))))) 0 rfl rfl 9 (by decide) (List.mem_of_getElem? (i := 3) rfl) rfl rfl ?_
    refine z_callVv (n := 2) (isC := [1, 2, 3]) (isR := [0, 4, 5, 6, 7, 8]) (isP := [0, 6, 7, 8, 1, 2, 3, 4, 5]) (As := [.int 5, .int fb]) (rest := []) (wr := [(e, .inr (2, [.ref b, .ref d, .ref c, .int rp, .int hf, .int pl, .int bg, .int lo, .int fp, .int fb])), (c, .inr (3, [.ref ca, .int cm])), (ca, .inl (g.2.1, 4096, .inl Cf)), (b, .inr (0, [.ref br, .int z])), (br, .inr (3, [.ref ba, .int m])), (ba, .inl (g.2.1, 4096, .inl F))]) (ws2 := [(e, .inr (2, [.ref b, .ref d, .ref c, .int rp, .int hf, .int pl, .int bg, .int lo, .int fp, .int fb])), (d, .inr (1, [.ref dw, .ref dy, .int ((f_X1_tell Wf Yf dm da 5 fb).2.2.1), .int ((f_X1_tell Wf Yf dm da 5 fb).2.2.2)])), (dw, .inl (g.2.2.1, 100, .inl ((f_X1_tell Wf Yf dm da 5 fb).1))), (dy, .inl (g.2.2.1, 100, .inl ((f_X1_tell Wf Yf dm da 5 fb).2.1))), (c, .inr (3, [.ref ca, .int cm])), (ca, .inl (g.2.1, 4096, .inl Cf)), (b, .inr (0, [.ref br, .int z])), (br, .inr (3, [.ref ba, .int m])), (ba, .inl (g.2.1, 4096, .inl F))]) C dX2_goOnWithRecord_16 (c_X1_tell (zl X) g d dw dy Wf Yf dm da 5 fb hd) gX2_goOnWithRecord_X1_tell rfl ⟨rfl, rfl⟩ (by decide +kernel) (by decide) (by decide) rfl rfl rfl rfl (Nat.le_of_ble_eq_true rfl) rfl rfl ⟨rfl, rfl, rfl⟩ (by decide) rfl ?_
    generalize hT3 : (f_X1_tell Wf Yf dm da 5 fb) = T3
    obtain ⟨Wfq3, Yfq3, dmq3, daq3⟩ := T3
    have k3_dm : zdok (0) dmq3 := zdok_X1_tell (zdok_le hd (by omega)) hT3
    refine z_iconst (v := 0) C dX2_goOnWithRecord_19 (by decide) ?_
    have he : (f_X2_goOnWithRecord Wf Yf Cf F hf fp fb dm da cm m) = (0, Wfq3, Yfq3, Cf, dmq3, daq3, cm) := by simp only [f_X2_goOnWithRecord, if_pos c_1, hT3]
    exact hret _ _ _ _ dX2_goOnWithRecord_20 (by first | rw [he] | rfl) (by first | rw [he] | rfl)
def f_X2_startRecord (Wf : Nat → Int32) (Yf : Nat → Int32) (Cf : Nat → Int32) (F : Nat → Int32) (fp : Int32) (fb : Int32) (dm : Int32) (da : Int32) (cm : Int32) (m : Int32) : (Nat → Int32) × (Nat → Int32) × (Nat → Int32) × Int32 × Int32 × Int32 × Int32 × Int32 :=
  if cm ≤ 0 then
    match (f_X2_dropRecord cm) with
    | (rpq3, hfq3, cmq3) =>
      match (f_X2_addFragmentBytes Cf F fp fb cmq3 m) with
      | (Cfq4, cmq4) =>
        (Wf, Yf, Cfq4, fp, 1, dm, da, cmq4)
  else
    match (f_X1_tell Wf Yf dm da 4 cm) with
    | (Wfq6, Yfq6, dmq6, daq6) =>
      match (f_X2_dropRecord cm) with
      | (rpq7, hfq7, cmq7) =>
        match (f_X2_addFragmentBytes Cf F fp fb cmq7 m) with
        | (Cfq8, cmq8) =>
          (Wfq6, Yfq6, Cfq8, fp, 1, dmq6, daq6, cmq8)
theorem zok_X2_startRecord {Wf Yf C F W1 Y1 C1 : Nat → Int32} {fp fb dm da cm m r1 h1 d1 a1 c1 : Int32} (_ : zdok 1 dm) (hc : zok 4096 cm) (hm : zok 4096 m) (e : f_X2_startRecord Wf Yf C F fp fb dm da cm m = (W1, Y1, C1, r1, h1, d1, a1, c1)) : zok 4096 c1 := by
  unfold f_X2_startRecord at e
  split at e
  · split at e
    next e2 =>
    split at e
    next e3 =>
    cases e
    exact zok_X2_addFragmentBytes (zok_X2_dropRecord hc e2) hm e3
  · split at e
    split at e
    next e2 =>
    split at e
    next e3 =>
    cases e
    exact zok_X2_addFragmentBytes (zok_X2_dropRecord hc e2) hm e3
theorem zdok_X2_startRecord {k : Nat} {Wf Yf C F W1 Y1 C1 : Nat → Int32} {fp fb dm da cm m r1 h1 d1 a1 c1 : Int32} (h : zdok (k + 1) dm) (e : f_X2_startRecord Wf Yf C F fp fb dm da cm m = (W1, Y1, C1, r1, h1, d1, a1, c1)) : zdok k d1 := by
  unfold f_X2_startRecord at e
  split at e
  · split at e
    split at e
    cases e
    exact zdok_le h (by omega)
  · split at e
    next e1 =>
    split at e
    split at e
    cases e
    exact zdok_X1_tell h e1
set_option maxHeartbeats 4000000 in
set_option maxRecDepth 100000 in
theorem c_X2_startRecord (l : Launch) (g : zG) (e b d c dw dy ca br ba : Nat) (Wf : Nat → Int32) (Yf : Nat → Int32) (Cf : Nat → Int32) (F : Nat → Int32) (rp : Int32) (hf : Int32) (pl : Int32) (bg : Int32) (lo : Int32) (fp : Int32) (fb : Int32) (dm : Int32) (da : Int32) (cm : Int32) (z : Int32) (m : Int32) (hd : zdok 1 dm) (hc : zok 4096 cm) (hm : zok 4096 m) : zMV l yX2_startRecord wsX2_startRecord ({ frames := 3, cells := 0, slots := 0, locals := 65 }) g [.ref e] [(e, .inr (2, [.ref b, .ref d, .ref c, .int rp, .int hf, .int pl, .int bg, .int lo, .int fp, .int fb])), (d, .inr (1, [.ref dw, .ref dy, .int dm, .int da])), (dw, .inl (g.2.2.1, 100, .inl Wf)), (dy, .inl (g.2.2.1, 100, .inl Yf)), (c, .inr (3, [.ref ca, .int cm])), (ca, .inl (g.2.1, 4096, .inl Cf)), (b, .inr (0, [.ref br, .int z])), (br, .inr (3, [.ref ba, .int m])), (ba, .inl (g.2.1, 4096, .inl F))] [(e, .inr (2, [.ref b, .ref d, .ref c, .int ((f_X2_startRecord Wf Yf Cf F fp fb dm da cm m).2.2.2.1), .int ((f_X2_startRecord Wf Yf Cf F fp fb dm da cm m).2.2.2.2.1), .int pl, .int bg, .int lo, .int fp, .int fb])), (d, .inr (1, [.ref dw, .ref dy, .int ((f_X2_startRecord Wf Yf Cf F fp fb dm da cm m).2.2.2.2.2.1), .int ((f_X2_startRecord Wf Yf Cf F fp fb dm da cm m).2.2.2.2.2.2.1)])), (dw, .inl (g.2.2.1, 100, .inl ((f_X2_startRecord Wf Yf Cf F fp fb dm da cm m).1))), (dy, .inl (g.2.2.1, 100, .inl ((f_X2_startRecord Wf Yf Cf F fp fb dm da cm m).2.1))), (c, .inr (3, [.ref ca, .int ((f_X2_startRecord Wf Yf Cf F fp fb dm da cm m).2.2.2.2.2.2.2)])), (ca, .inl (g.2.1, 4096, .inl ((f_X2_startRecord Wf Yf Cf F fp fb dm da cm m).2.2.1))), (b, .inr (0, [.ref br, .int z])), (br, .inr (3, [.ref ba, .int m])), (ba, .inl (g.2.1, 4096, .inl F))] := by
  refine zMV_of (cc := cX2_startRecord) (nL := 1) (by decide) rfl (Nat.le_of_ble_eq_true rfl) ?_
  intro X C hret
  refine z_lv (lv' := [(0, .ref e)]) [0] rfl ?_
  refine z_aload_n C dX2_startRecord_0 rfl 0 rfl ?_
  refine z_get (ci := 2) (v := .ref c) (Cn := RX2) (T := TX2) (N := 10) C dX2_startRecord_1 (fun w h => List.mem_cons_of_mem _ (List.mem_append_left _ (List.mem_append_left _ (List.mem_append_left _ (List.mem_append_right _ h))))) 0 rfl rfl 2 (by decide) (List.mem_of_getElem? (i := 1) rfl) rfl rfl ?_
  refine z_callVi (n := 0) (isC := [4, 5]) (isR := [0, 1, 2, 3, 6, 7, 8]) (isP := [0, 1, 2, 3, 7, 8, 4, 5, 6]) (As := []) (rest := []) (wr := [(e, .inr (2, [.ref b, .ref d, .ref c, .int rp, .int hf, .int pl, .int bg, .int lo, .int fp, .int fb])), (d, .inr (1, [.ref dw, .ref dy, .int dm, .int da])), (dw, .inl (g.2.2.1, 100, .inl Wf)), (dy, .inl (g.2.2.1, 100, .inl Yf)), (b, .inr (0, [.ref br, .int z])), (br, .inr (3, [.ref ba, .int m])), (ba, .inl (g.2.1, 4096, .inl F))]) (ws2 := [(e, .inr (2, [.ref b, .ref d, .ref c, .int rp, .int hf, .int pl, .int bg, .int lo, .int fp, .int fb])), (d, .inr (1, [.ref dw, .ref dy, .int dm, .int da])), (dw, .inl (g.2.2.1, 100, .inl Wf)), (dy, .inl (g.2.2.1, 100, .inl Yf)), (c, .inr (3, [.ref ca, .int cm])), (ca, .inl (g.2.1, 4096, .inl Cf)), (b, .inr (0, [.ref br, .int z])), (br, .inr (3, [.ref ba, .int m])), (ba, .inl (g.2.1, 4096, .inl F))]) C dX2_startRecord_4 (c_X3_many (zl X) g c ca 4096 Cf cm) gX2_startRecord_X3_many rfl ⟨rfl, rfl⟩ (by decide +kernel) (by decide) (by decide) rfl rfl rfl rfl (Nat.le_of_ble_eq_true rfl) rfl rfl ⟨rfl, rfl, rfl⟩ (by decide) rfl ?_
  refine z_if_le (tgt := 25) C dX2_startRecord_7 (by decide) (fun c_2 => ?_) (fun c_2 => ?_)
  · skip
    refine z_aload_n C dX2_startRecord_25 rfl 0 rfl ?_
    refine z_callVv (n := 0) (isC := [0, 1, 2, 3, 4, 5, 6, 7, 8]) (isR := []) (isP := [0, 1, 2, 3, 4, 5, 6, 7, 8]) (As := []) (rest := []) (wr := []) (ws2 := [(e, .inr (2, [.ref b, .ref d, .ref c, .int ((f_X2_dropRecord cm).1), .int ((f_X2_dropRecord cm).2.1), .int pl, .int bg, .int lo, .int fp, .int fb])), (d, .inr (1, [.ref dw, .ref dy, .int dm, .int da])), (dw, .inl (g.2.2.1, 100, .inl Wf)), (dy, .inl (g.2.2.1, 100, .inl Yf)), (c, .inr (3, [.ref ca, .int ((f_X2_dropRecord cm).2.2)])), (ca, .inl (g.2.1, 4096, .inl Cf)), (b, .inr (0, [.ref br, .int z])), (br, .inr (3, [.ref ba, .int m])), (ba, .inl (g.2.1, 4096, .inl F))]) C dX2_startRecord_26 (c_X2_dropRecord (zl X) g e b d c dw dy ca br ba Wf Yf Cf F rp hf pl bg lo fp fb dm da cm z m hc) gX2_startRecord_X2_dropRecord rfl ⟨rfl, rfl⟩ (by decide +kernel) (by decide) (by decide) rfl rfl rfl rfl (Nat.le_of_ble_eq_true rfl) rfl rfl ⟨rfl, rfl, rfl⟩ (by decide) rfl ?_
    generalize hT3 : (f_X2_dropRecord cm) = T3
    obtain ⟨rpq3, hfq3, cmq3⟩ := T3
    have k3_cm : zok 4096 cmq3 := zok_X2_dropRecord hc hT3
    refine z_aload_n C dX2_startRecord_29 rfl 0 rfl ?_
    refine z_aload_n C dX2_startRecord_30 rfl 0 rfl ?_
    refine z_get (ci := 2) (v := .int fp) (Cn := RX2) (T := TX2) (N := 10) C dX2_startRecord_31 (fun w h => List.mem_cons_of_mem _ (List.mem_append_left _ (List.mem_append_left _ (List.mem_append_left _ (List.mem_append_right _ h))))) 0 rfl rfl 8 (by decide) (List.mem_of_getElem? (i := 3) rfl) rfl rfl ?_
    refine z_put (ci := 2) (v := .int fp) (ty := .int) (Cn := RX2) (T := TX2) (N := 10) (ws' := [(e, .inr (2, [.ref b, .ref d, .ref c, .int fp, .int hfq3, .int pl, .int bg, .int lo, .int fp, .int fb])), (d, .inr (1, [.ref dw, .ref dy, .int dm, .int da])), (dw, .inl (g.2.2.1, 100, .inl Wf)), (dy, .inl (g.2.2.1, 100, .inl Yf)), (c, .inr (3, [.ref ca, .int cmq3])), (ca, .inl (g.2.1, 4096, .inl Cf)), (b, .inr (0, [.ref br, .int z])), (br, .inr (3, [.ref ba, .int m])), (ba, .inl (g.2.1, 4096, .inl F))]) C dX2_startRecord_34 (fun w h => List.mem_cons_of_mem _ (List.mem_append_left _ (List.mem_append_left _ (List.mem_append_left _ (List.mem_append_right _ h))))) tyX2 tyX2_ok nmX2 0 rfl rfl 3 (by decide) (List.mem_of_getElem? (i := 4) rfl) rfl rfl (by decide +kernel) rfl rfl (Nat.le_of_ble_eq_true rfl) rfl ?_
    refine z_aload_n C dX2_startRecord_37 rfl 0 rfl ?_
    refine z_iconst (v := 1) C dX2_startRecord_38 (by decide) ?_
    refine z_put (ci := 2) (v := .int 1) (ty := .boolean) (Cn := RX2) (T := TX2) (N := 10) (ws' := [(e, .inr (2, [.ref b, .ref d, .ref c, .int fp, .int 1, .int pl, .int bg, .int lo, .int fp, .int fb])), (d, .inr (1, [.ref dw, .ref dy, .int dm, .int da])), (dw, .inl (g.2.2.1, 100, .inl Wf)), (dy, .inl (g.2.2.1, 100, .inl Yf)), (c, .inr (3, [.ref ca, .int cmq3])), (ca, .inl (g.2.1, 4096, .inl Cf)), (b, .inr (0, [.ref br, .int z])), (br, .inr (3, [.ref ba, .int m])), (ba, .inl (g.2.1, 4096, .inl F))]) C dX2_startRecord_39 (fun w h => List.mem_cons_of_mem _ (List.mem_append_left _ (List.mem_append_left _ (List.mem_append_left _ (List.mem_append_right _ h))))) tyX2 tyX2_ok nmX2 0 rfl rfl 4 (by decide) (List.mem_of_getElem? (i := 5) rfl) rfl rfl (by decide +kernel) rfl rfl (Nat.le_of_ble_eq_true rfl) rfl ?_
    refine z_aload_n C dX2_startRecord_42 rfl 0 rfl ?_
    refine z_callVv (n := 0) (isC := [0, 1, 2, 3, 4, 5, 6, 7, 8]) (isR := []) (isP := [0, 1, 2, 3, 4, 5, 6, 7, 8]) (As := []) (rest := []) (wr := []) (ws2 := [(e, .inr (2, [.ref b, .ref d, .ref c, .int fp, .int 1, .int pl, .int bg, .int lo, .int fp, .int fb])), (d, .inr (1, [.ref dw, .ref dy, .int dm, .int da])), (dw, .inl (g.2.2.1, 100, .inl Wf)), (dy, .inl (g.2.2.1, 100, .inl Yf)), (c, .inr (3, [.ref ca, .int ((f_X2_addFragmentBytes Cf F fp fb cmq3 m).2)])), (ca, .inl (g.2.1, 4096, .inl ((f_X2_addFragmentBytes Cf F fp fb cmq3 m).1))), (b, .inr (0, [.ref br, .int z])), (br, .inr (3, [.ref ba, .int m])), (ba, .inl (g.2.1, 4096, .inl F))]) C dX2_startRecord_43 (c_X2_addFragmentBytes (zl X) g e b d c dw dy ca br ba Wf Yf Cf F fp 1 pl bg lo fp fb dm da cmq3 z m k3_cm hm) gX2_startRecord_X2_addFragmentBytes rfl ⟨rfl, rfl⟩ (by decide +kernel) (by decide) (by decide) rfl rfl rfl rfl (Nat.le_of_ble_eq_true rfl) rfl rfl ⟨rfl, rfl, rfl⟩ (by decide) rfl ?_
    generalize hT4 : (f_X2_addFragmentBytes Cf F fp fb cmq3 m) = T4
    obtain ⟨Cfq4, cmq4⟩ := T4
    have k4_cm : zok 4096 cmq4 := zok_X2_addFragmentBytes k3_cm hm hT4
    have he : (f_X2_startRecord Wf Yf Cf F fp fb dm da cm m) = (Wf, Yf, Cfq4, fp, 1, dm, da, cmq4) := by simp only [f_X2_startRecord, if_pos c_2, hT3, hT4]
    exact hret _ _ _ dX2_startRecord_46 (by first | rw [he] | rfl)
  · skip
    refine z_aload_n C dX2_startRecord_10 rfl 0 rfl ?_
    refine z_get (ci := 2) (v := .ref d) (Cn := RX2) (T := TX2) (N := 10) C dX2_startRecord_11 (fun w h => List.mem_cons_of_mem _ (List.mem_append_left _ (List.mem_append_left _ (List.mem_append_left _ (List.mem_append_right _ h))))) 0 rfl rfl 1 (by decide) (List.mem_of_getElem? (i := 2) rfl) rfl rfl ?_
    refine z_iconst (v := 4) C dX2_startRecord_14 (by decide) ?_
    refine z_aload_n C dX2_startRecord_15 rfl 0 rfl ?_
    refine z_get (ci := 2) (v := .ref c) (Cn := RX2) (T := TX2) (N := 10) C dX2_startRecord_16 (fun w h => List.mem_cons_of_mem _ (List.mem_append_left _ (List.mem_append_left _ (List.mem_append_left _ (List.mem_append_right _ h))))) 0 rfl rfl 2 (by decide) (List.mem_of_getElem? (i := 1) rfl) rfl rfl ?_
    refine z_callVi (n := 0) (isC := [4, 5]) (isR := [0, 1, 2, 3, 6, 7, 8]) (isP := [0, 1, 2, 3, 7, 8, 4, 5, 6]) (As := []) (rest := [.int 4, .ref d]) (wr := [(e, .inr (2, [.ref b, .ref d, .ref c, .int rp, .int hf, .int pl, .int bg, .int lo, .int fp, .int fb])), (d, .inr (1, [.ref dw, .ref dy, .int dm, .int da])), (dw, .inl (g.2.2.1, 100, .inl Wf)), (dy, .inl (g.2.2.1, 100, .inl Yf)), (b, .inr (0, [.ref br, .int z])), (br, .inr (3, [.ref ba, .int m])), (ba, .inl (g.2.1, 4096, .inl F))]) (ws2 := [(e, .inr (2, [.ref b, .ref d, .ref c, .int rp, .int hf, .int pl, .int bg, .int lo, .int fp, .int fb])), (d, .inr (1, [.ref dw, .ref dy, .int dm, .int da])), (dw, .inl (g.2.2.1, 100, .inl Wf)), (dy, .inl (g.2.2.1, 100, .inl Yf)), (c, .inr (3, [.ref ca, .int cm])), (ca, .inl (g.2.1, 4096, .inl Cf)), (b, .inr (0, [.ref br, .int z])), (br, .inr (3, [.ref ba, .int m])), (ba, .inl (g.2.1, 4096, .inl F))]) C dX2_startRecord_19 (c_X3_many (zl X) g c ca 4096 Cf cm) gX2_startRecord_X3_many rfl ⟨rfl, rfl⟩ (by decide +kernel) (by decide) (by decide) rfl rfl rfl rfl (Nat.le_of_ble_eq_true rfl) rfl rfl ⟨rfl, rfl, rfl⟩ (by decide) rfl ?_
    refine z_callVv (n := 2) (isC := [1, 2, 3]) (isR := [0, 4, 5, 6, 7, 8]) (isP := [0, 6, 7, 8, 1, 2, 3, 4, 5]) (As := [.int 4, .int cm]) (rest := []) (wr := [(e, .inr (2, [.ref b, .ref d, .ref c, .int rp, .int hf, .int pl, .int bg, .int lo, .int fp, .int fb])), (c, .inr (3, [.ref ca, .int cm])), (ca, .inl (g.2.1, 4096, .inl Cf)), (b, .inr (0, [.ref br, .int z])), (br, .inr (3, [.ref ba, .int m])), (ba, .inl (g.2.1, 4096, .inl F))]) (ws2 := [(e, .inr (2, [.ref b, .ref d, .ref c, .int rp, .int hf, .int pl, .int bg, .int lo, .int fp, .int fb])), (d, .inr (1, [.ref dw, .ref dy, .int ((f_X1_tell Wf Yf dm da 4 cm).2.2.1), .int ((f_X1_tell Wf Yf dm da 4 cm).2.2.2)])), (dw, .inl (g.2.2.1, 100, .inl ((f_X1_tell Wf Yf dm da 4 cm).1))), (dy, .inl (g.2.2.1, 100, .inl ((f_X1_tell Wf Yf dm da 4 cm).2.1))), (c, .inr (3, [.ref ca, .int cm])), (ca, .inl (g.2.1, 4096, .inl Cf)), (b, .inr (0, [.ref br, .int z])), (br, .inr (3, [.ref ba, .int m])), (ba, .inl (g.2.1, 4096, .inl F))]) C dX2_startRecord_22 (c_X1_tell (zl X) g d dw dy Wf Yf dm da 4 cm hd) gX2_startRecord_X1_tell rfl ⟨rfl, rfl⟩ (by decide +kernel) (by decide) (by decide) rfl rfl rfl rfl (Nat.le_of_ble_eq_true rfl) rfl rfl ⟨rfl, rfl, rfl⟩ (by decide) rfl ?_
    generalize hT6 : (f_X1_tell Wf Yf dm da 4 cm) = T6
    obtain ⟨Wfq6, Yfq6, dmq6, daq6⟩ := T6
    have k6_dm : zdok (0) dmq6 := zdok_X1_tell (zdok_le hd (by omega)) hT6
    refine z_aload_n C dX2_startRecord_25 rfl 0 rfl ?_
    refine z_callVv (n := 0) (isC := [0, 1, 2, 3, 4, 5, 6, 7, 8]) (isR := []) (isP := [0, 1, 2, 3, 4, 5, 6, 7, 8]) (As := []) (rest := []) (wr := []) (ws2 := [(e, .inr (2, [.ref b, .ref d, .ref c, .int ((f_X2_dropRecord cm).1), .int ((f_X2_dropRecord cm).2.1), .int pl, .int bg, .int lo, .int fp, .int fb])), (d, .inr (1, [.ref dw, .ref dy, .int dmq6, .int daq6])), (dw, .inl (g.2.2.1, 100, .inl Wfq6)), (dy, .inl (g.2.2.1, 100, .inl Yfq6)), (c, .inr (3, [.ref ca, .int ((f_X2_dropRecord cm).2.2)])), (ca, .inl (g.2.1, 4096, .inl Cf)), (b, .inr (0, [.ref br, .int z])), (br, .inr (3, [.ref ba, .int m])), (ba, .inl (g.2.1, 4096, .inl F))]) C dX2_startRecord_26 (c_X2_dropRecord (zl X) g e b d c dw dy ca br ba Wfq6 Yfq6 Cf F rp hf pl bg lo fp fb dmq6 daq6 cm z m hc) gX2_startRecord_X2_dropRecord rfl ⟨rfl, rfl⟩ (by decide +kernel) (by decide) (by decide) rfl rfl rfl rfl (Nat.le_of_ble_eq_true rfl) rfl rfl ⟨rfl, rfl, rfl⟩ (by decide) rfl ?_
    generalize hT7 : (f_X2_dropRecord cm) = T7
    obtain ⟨rpq7, hfq7, cmq7⟩ := T7
    have k7_cm : zok 4096 cmq7 := zok_X2_dropRecord hc hT7
    refine z_aload_n C dX2_startRecord_29 rfl 0 rfl ?_
    refine z_aload_n C dX2_startRecord_30 rfl 0 rfl ?_
    refine z_get (ci := 2) (v := .int fp) (Cn := RX2) (T := TX2) (N := 10) C dX2_startRecord_31 (fun w h => List.mem_cons_of_mem _ (List.mem_append_left _ (List.mem_append_left _ (List.mem_append_left _ (List.mem_append_right _ h))))) 0 rfl rfl 8 (by decide) (List.mem_of_getElem? (i := 3) rfl) rfl rfl ?_
    refine z_put (ci := 2) (v := .int fp) (ty := .int) (Cn := RX2) (T := TX2) (N := 10) (ws' := [(e, .inr (2, [.ref b, .ref d, .ref c, .int fp, .int hfq7, .int pl, .int bg, .int lo, .int fp, .int fb])), (d, .inr (1, [.ref dw, .ref dy, .int dmq6, .int daq6])), (dw, .inl (g.2.2.1, 100, .inl Wfq6)), (dy, .inl (g.2.2.1, 100, .inl Yfq6)), (c, .inr (3, [.ref ca, .int cmq7])), (ca, .inl (g.2.1, 4096, .inl Cf)), (b, .inr (0, [.ref br, .int z])), (br, .inr (3, [.ref ba, .int m])), (ba, .inl (g.2.1, 4096, .inl F))]) C dX2_startRecord_34 (fun w h => List.mem_cons_of_mem _ (List.mem_append_left _ (List.mem_append_left _ (List.mem_append_left _ (List.mem_append_right _ h))))) tyX2 tyX2_ok nmX2 0 rfl rfl 3 (by decide) (List.mem_of_getElem? (i := 4) rfl) rfl rfl (by decide +kernel) rfl rfl (Nat.le_of_ble_eq_true rfl) rfl ?_
    refine z_aload_n C dX2_startRecord_37 rfl 0 rfl ?_
    refine z_iconst (v := 1) C dX2_startRecord_38 (by decide) ?_
    refine z_put (ci := 2) (v := .int 1) (ty := .boolean) (Cn := RX2) (T := TX2) (N := 10) (ws' := [(e, .inr (2, [.ref b, .ref d, .ref c, .int fp, .int 1, .int pl, .int bg, .int lo, .int fp, .int fb])), (d, .inr (1, [.ref dw, .ref dy, .int dmq6, .int daq6])), (dw, .inl (g.2.2.1, 100, .inl Wfq6)), (dy, .inl (g.2.2.1, 100, .inl Yfq6)), (c, .inr (3, [.ref ca, .int cmq7])), (ca, .inl (g.2.1, 4096, .inl Cf)), (b, .inr (0, [.ref br, .int z])), (br, .inr (3, [.ref ba, .int m])), (ba, .inl (g.2.1, 4096, .inl F))]) C dX2_startRecord_39 (fun w h => List.mem_cons_of_mem _ (List.mem_append_left _ (List.mem_append_left _ (List.mem_append_left _ (List.mem_append_right _ h))))) tyX2 tyX2_ok nmX2 0 rfl rfl 4 (by decide) (List.mem_of_getElem? (i := 5) rfl) rfl rfl (by decide +kernel) rfl rfl (Nat.le_of_ble_eq_true rfl) rfl ?_
    refine z_aload_n C dX2_startRecord_42 rfl 0 rfl ?_
    refine z_callVv (n := 0) (isC := [0, 1, 2, 3, 4, 5, 6, 7, 8]) (isR := []) (isP := [0, 1, 2, 3, 4, 5, 6, 7, 8]) (As := []) (rest := []) (wr := []) (ws2 := [(e, .inr (2, [.ref b, .ref d, .ref c, .int fp, .int 1, .int pl, .int bg, .int lo, .int fp, .int fb])), (d, .inr (1, [.ref dw, .ref dy, .int dmq6, .int daq6])), (dw, .inl (g.2.2.1, 100, .inl Wfq6)), (dy, .inl (g.2.2.1, 100, .inl Yfq6)), (c, .inr (3, [.ref ca, .int ((f_X2_addFragmentBytes Cf F fp fb cmq7 m).2)])), (ca, .inl (g.2.1, 4096, .inl ((f_X2_addFragmentBytes Cf F fp fb cmq7 m).1))), (b, .inr (0, [.ref br, .int z])), (br, .inr (3, [.ref ba, .int m])), (ba, .inl (g.2.1, 4096, .inl F))]) C dX2_startRecord_43 (c_X2_addFragmentBytes (zl X) g e b d c dw dy ca br ba Wfq6 Yfq6 Cf F fp 1 pl bg lo fp fb dmq6 daq6 cmq7 z m k7_cm hm) gX2_startRecord_X2_addFragmentBytes rfl ⟨rfl, rfl⟩ (by decide +kernel) (by decide) (by decide) rfl rfl rfl rfl (Nat.le_of_ble_eq_true rfl) rfl rfl ⟨rfl, rfl, rfl⟩ (by decide) rfl ?_
    generalize hT8 : (f_X2_addFragmentBytes Cf F fp fb cmq7 m) = T8
    obtain ⟨Cfq8, cmq8⟩ := T8
    have k8_cm : zok 4096 cmq8 := zok_X2_addFragmentBytes k7_cm hm hT8
    have he : (f_X2_startRecord Wf Yf Cf F fp fb dm da cm m) = (Wfq6, Yfq6, Cfq8, fp, 1, dmq6, daq6, cmq8) := by simp only [f_X2_startRecord, if_neg c_2, hT6, hT7, hT8]
    exact hret _ _ _ dX2_startRecord_46 (by first | rw [he] | rfl)
def f_X2_takeFragment (Wf : Nat → Int32) (Yf : Nat → Int32) (Cf : Nat → Int32) (F : Nat → Int32) (rp : Int32) (hf : Int32) (fp : Int32) (fb : Int32) (dm : Int32) (da : Int32) (cm : Int32) (m : Int32) (v : Int32) : Int32 × (Nat → Int32) × (Nat → Int32) × (Nat → Int32) × Int32 × Int32 × Int32 × Int32 × Int32 :=
  if v = 1 then
    match (f_X2_startRecord Wf Yf Cf F fp fb dm da cm m) with
    | (Wfq2, Yfq2, Cfq2, rpq2, hfq2, dmq2, daq2, cmq2) =>
      (1, Wfq2, Yfq2, Cfq2, rpq2, hfq2, dmq2, daq2, cmq2)
  else
    if v = 2 then
      match (f_X2_startRecord Wf Yf Cf F fp fb dm da cm m) with
      | (Wfq4, Yfq4, Cfq4, rpq4, hfq4, dmq4, daq4, cmq4) =>
        (0, Wfq4, Yfq4, Cfq4, rpq4, hfq4, dmq4, daq4, cmq4)
    else
      if v = 3 then
        match (f_X2_goOnWithRecord Wf Yf Cf F hf fp fb dm da cm m) with
        | (rq6, Wfq6, Yfq6, Cfq6, dmq6, daq6, cmq6) =>
          (0, Wfq6, Yfq6, Cfq6, rp, hf, dmq6, daq6, cmq6)
      else
        if v = 4 then
          match (f_X2_goOnWithRecord Wf Yf Cf F hf fp fb dm da cm m) with
          | (rq8, Wfq8, Yfq8, Cfq8, dmq8, daq8, cmq8) =>
            (rq8, Wfq8, Yfq8, Cfq8, rp, hf, dmq8, daq8, cmq8)
        else
          match (f_X1_tell Wf Yf dm da 6 (fb + cm)) with
          | (Wfq10, Yfq10, dmq10, daq10) =>
            match (f_X2_dropRecord cm) with
            | (rpq11, hfq11, cmq11) =>
              (0, Wfq10, Yfq10, Cf, rpq11, hfq11, dmq10, daq10, cmq11)
theorem zbool_X2_takeFragment (Wf Yf C F : Nat → Int32) (rp hf fp fb dm da cm m v : Int32) : narrow .boolean (.int (f_X2_takeFragment Wf Yf C F rp hf fp fb dm da cm m v).1) = .int (f_X2_takeFragment Wf Yf C F rp hf fp fb dm da cm m v).1 := by
  unfold f_X2_takeFragment
  repeat' split
  all_goals first | ((try dsimp only); rfl) | (next e => have h9 := zbool_X2_goOnWithRecord Wf Yf C F hf fp fb dm da cm m; rw [e] at h9; exact h9)
theorem zok_X2_takeFragment {Wf Yf C F W1 Y1 C1 : Nat → Int32} {rp hf fp fb dm da cm m v r rp1 h1 d1 a1 c1 : Int32} (hd : zdok 1 dm) (hc : zok 4096 cm) (hm : zok 4096 m) (e : f_X2_takeFragment Wf Yf C F rp hf fp fb dm da cm m v = (r, W1, Y1, C1, rp1, h1, d1, a1, c1)) : zok 4096 c1 := by
  unfold f_X2_takeFragment at e
  split at e
  · split at e
    next e1 => cases e; exact zok_X2_startRecord hd hc hm e1
  · split at e
    · split at e
      next e1 => cases e; exact zok_X2_startRecord hd hc hm e1
    · split at e
      · split at e
        next e1 => cases e; exact zok_X2_goOnWithRecord hd hc hm e1
      · split at e
        · split at e
          next e1 => cases e; exact zok_X2_goOnWithRecord hd hc hm e1
        · split at e
          split at e
          next e2 => cases e; exact zok_X2_dropRecord hc e2
theorem zdok_X2_takeFragment {k : Nat} {Wf Yf C F W1 Y1 C1 : Nat → Int32} {rp hf fp fb dm da cm m v r rp1 h1 d1 a1 c1 : Int32} (hd : zdok (k + 1) dm) (e : f_X2_takeFragment Wf Yf C F rp hf fp fb dm da cm m v = (r, W1, Y1, C1, rp1, h1, d1, a1, c1)) : zdok k d1 := by
  unfold f_X2_takeFragment at e
  split at e
  · split at e
    next e1 => cases e; exact zdok_X2_startRecord hd e1
  · split at e
    · split at e
      next e1 => cases e; exact zdok_X2_startRecord hd e1
    · split at e
      · split at e
        next e1 => cases e; exact zdok_X2_goOnWithRecord hd e1
      · split at e
        · split at e
          next e1 => cases e; exact zdok_X2_goOnWithRecord hd e1
        · split at e
          next e1 =>
          split at e
          cases e; exact zdok_X1_tell hd e1
set_option maxHeartbeats 4000000 in
set_option maxRecDepth 100000 in
theorem c_X2_takeFragment (l : Launch) (g : zG) (e b d c dw dy ca br ba : Nat) (Wf : Nat → Int32) (Yf : Nat → Int32) (Cf : Nat → Int32) (F : Nat → Int32) (rp : Int32) (hf : Int32) (pl : Int32) (bg : Int32) (lo : Int32) (fp : Int32) (fb : Int32) (dm : Int32) (da : Int32) (cm : Int32) (z : Int32) (m : Int32) (v : Int32) (hd : zdok 1 dm) (hc : zok 4096 cm) (hm : zok 4096 m) : zMI l yX2_takeFragment wsX2_takeFragment ({ frames := 4, cells := 0, slots := 0, locals := 85 }) g [.ref e, .int v] [(e, .inr (2, [.ref b, .ref d, .ref c, .int rp, .int hf, .int pl, .int bg, .int lo, .int fp, .int fb])), (d, .inr (1, [.ref dw, .ref dy, .int dm, .int da])), (dw, .inl (g.2.2.1, 100, .inl Wf)), (dy, .inl (g.2.2.1, 100, .inl Yf)), (c, .inr (3, [.ref ca, .int cm])), (ca, .inl (g.2.1, 4096, .inl Cf)), (b, .inr (0, [.ref br, .int z])), (br, .inr (3, [.ref ba, .int m])), (ba, .inl (g.2.1, 4096, .inl F))] ((f_X2_takeFragment Wf Yf Cf F rp hf fp fb dm da cm m v).1) [(e, .inr (2, [.ref b, .ref d, .ref c, .int ((f_X2_takeFragment Wf Yf Cf F rp hf fp fb dm da cm m v).2.2.2.2.1), .int ((f_X2_takeFragment Wf Yf Cf F rp hf fp fb dm da cm m v).2.2.2.2.2.1), .int pl, .int bg, .int lo, .int fp, .int fb])), (d, .inr (1, [.ref dw, .ref dy, .int ((f_X2_takeFragment Wf Yf Cf F rp hf fp fb dm da cm m v).2.2.2.2.2.2.1), .int ((f_X2_takeFragment Wf Yf Cf F rp hf fp fb dm da cm m v).2.2.2.2.2.2.2.1)])), (dw, .inl (g.2.2.1, 100, .inl ((f_X2_takeFragment Wf Yf Cf F rp hf fp fb dm da cm m v).2.1))), (dy, .inl (g.2.2.1, 100, .inl ((f_X2_takeFragment Wf Yf Cf F rp hf fp fb dm da cm m v).2.2.1))), (c, .inr (3, [.ref ca, .int ((f_X2_takeFragment Wf Yf Cf F rp hf fp fb dm da cm m v).2.2.2.2.2.2.2.2)])), (ca, .inl (g.2.1, 4096, .inl ((f_X2_takeFragment Wf Yf Cf F rp hf fp fb dm da cm m v).2.2.2.1))), (b, .inr (0, [.ref br, .int z])), (br, .inr (3, [.ref ba, .int m])), (ba, .inl (g.2.1, 4096, .inl F))] := by
  refine zMI_of (cc := cX2_takeFragment) (nL := 2) (ty := .boolean) (by decide) rfl (Nat.le_of_ble_eq_true rfl) (zbool_X2_takeFragment _ _ _ _ _ _ _ _ _ _ _ _ _) ?_
  intro X C hret
  refine z_lv (lv' := [(0, .ref e), (1, .int v)]) [0, 1] rfl ?_
  refine z_iload_n C dX2_takeFragment_0 rfl 1 rfl ?_
  by_cases c_1 : v = 1
  · refine z_tableIn (off := 31) (tgt := 32) C dX2_takeFragment_1 (by rw [c_1]; decide) (by rw [c_1]; decide) (by rw [c_1]; decide) (by decide) ?_
    refine z_aload_n C dX2_takeFragment_32 rfl 0 rfl ?_
    refine z_callVv (n := 0) (isC := [0, 1, 2, 3, 4, 5, 6, 7, 8]) (isR := []) (isP := [0, 1, 2, 3, 4, 5, 6, 7, 8]) (As := []) (rest := []) (wr := []) (ws2 := [(e, .inr (2, [.ref b, .ref d, .ref c, .int ((f_X2_startRecord Wf Yf Cf F fp fb dm da cm m).2.2.2.1), .int ((f_X2_startRecord Wf Yf Cf F fp fb dm da cm m).2.2.2.2.1), .int pl, .int bg, .int lo, .int fp, .int fb])), (d, .inr (1, [.ref dw, .ref dy, .int ((f_X2_startRecord Wf Yf Cf F fp fb dm da cm m).2.2.2.2.2.1), .int ((f_X2_startRecord Wf Yf Cf F fp fb dm da cm m).2.2.2.2.2.2.1)])), (dw, .inl (g.2.2.1, 100, .inl ((f_X2_startRecord Wf Yf Cf F fp fb dm da cm m).1))), (dy, .inl (g.2.2.1, 100, .inl ((f_X2_startRecord Wf Yf Cf F fp fb dm da cm m).2.1))), (c, .inr (3, [.ref ca, .int ((f_X2_startRecord Wf Yf Cf F fp fb dm da cm m).2.2.2.2.2.2.2)])), (ca, .inl (g.2.1, 4096, .inl ((f_X2_startRecord Wf Yf Cf F fp fb dm da cm m).2.2.1))), (b, .inr (0, [.ref br, .int z])), (br, .inr (3, [.ref ba, .int m])), (ba, .inl (g.2.1, 4096, .inl F))]) C dX2_takeFragment_33 (c_X2_startRecord (zl X) g e b d c dw dy ca br ba Wf Yf Cf F rp hf pl bg lo fp fb dm da cm z m hd hc hm) gX2_takeFragment_X2_startRecord rfl ⟨rfl, rfl⟩ (by decide +kernel) (by decide) (by decide) rfl rfl rfl rfl (Nat.le_of_ble_eq_true rfl) rfl rfl ⟨rfl, rfl, rfl⟩ (by decide) rfl ?_
    generalize hT2 : (f_X2_startRecord Wf Yf Cf F fp fb dm da cm m) = T2
    obtain ⟨Wfq2, Yfq2, Cfq2, rpq2, hfq2, dmq2, daq2, cmq2⟩ := T2
    have k2_cm : zok 4096 cmq2 := zok_X2_startRecord hd hc hm hT2
    have k2_dm : zdok (0) dmq2 := zdok_X2_startRecord (zdok_le hd (by omega)) hT2
    refine z_iconst (v := 1) C dX2_takeFragment_36 (by decide) ?_
    have he : (f_X2_takeFragment Wf Yf Cf F rp hf fp fb dm da cm m v) = (1, Wfq2, Yfq2, Cfq2, rpq2, hfq2, dmq2, daq2, cmq2) := by simp only [f_X2_takeFragment, if_pos c_1, hT2]
    exact hret _ _ _ _ dX2_takeFragment_37 (by first | rw [he] | rfl) (by first | rw [he] | rfl)
  · skip
    by_cases c_3 : v = 2
    · refine z_tableIn (off := 37) (tgt := 38) C dX2_takeFragment_1 (by rw [c_3]; decide) (by rw [c_3]; decide) (by rw [c_3]; decide) (by decide) ?_
      refine z_aload_n C dX2_takeFragment_38 rfl 0 rfl ?_
      refine z_callVv (n := 0) (isC := [0, 1, 2, 3, 4, 5, 6, 7, 8]) (isR := []) (isP := [0, 1, 2, 3, 4, 5, 6, 7, 8]) (As := []) (rest := []) (wr := []) (ws2 := [(e, .inr (2, [.ref b, .ref d, .ref c, .int ((f_X2_startRecord Wf Yf Cf F fp fb dm da cm m).2.2.2.1), .int ((f_X2_startRecord Wf Yf Cf F fp fb dm da cm m).2.2.2.2.1), .int pl, .int bg, .int lo, .int fp, .int fb])), (d, .inr (1, [.ref dw, .ref dy, .int ((f_X2_startRecord Wf Yf Cf F fp fb dm da cm m).2.2.2.2.2.1), .int ((f_X2_startRecord Wf Yf Cf F fp fb dm da cm m).2.2.2.2.2.2.1)])), (dw, .inl (g.2.2.1, 100, .inl ((f_X2_startRecord Wf Yf Cf F fp fb dm da cm m).1))), (dy, .inl (g.2.2.1, 100, .inl ((f_X2_startRecord Wf Yf Cf F fp fb dm da cm m).2.1))), (c, .inr (3, [.ref ca, .int ((f_X2_startRecord Wf Yf Cf F fp fb dm da cm m).2.2.2.2.2.2.2)])), (ca, .inl (g.2.1, 4096, .inl ((f_X2_startRecord Wf Yf Cf F fp fb dm da cm m).2.2.1))), (b, .inr (0, [.ref br, .int z])), (br, .inr (3, [.ref ba, .int m])), (ba, .inl (g.2.1, 4096, .inl F))]) C dX2_takeFragment_39 (c_X2_startRecord (zl X) g e b d c dw dy ca br ba Wf Yf Cf F rp hf pl bg lo fp fb dm da cm z m hd hc hm) gX2_takeFragment_X2_startRecord rfl ⟨rfl, rfl⟩ (by decide +kernel) (by decide) (by decide) rfl rfl rfl rfl (Nat.le_of_ble_eq_true rfl) rfl rfl ⟨rfl, rfl, rfl⟩ (by decide) rfl ?_
      generalize hT4 : (f_X2_startRecord Wf Yf Cf F fp fb dm da cm m) = T4
      obtain ⟨Wfq4, Yfq4, Cfq4, rpq4, hfq4, dmq4, daq4, cmq4⟩ := T4
      have k4_cm : zok 4096 cmq4 := zok_X2_startRecord hd hc hm hT4
      have k4_dm : zdok (0) dmq4 := zdok_X2_startRecord (zdok_le hd (by omega)) hT4
      refine z_iconst (v := 0) C dX2_takeFragment_42 (by decide) ?_
      have he : (f_X2_takeFragment Wf Yf Cf F rp hf fp fb dm da cm m v) = (0, Wfq4, Yfq4, Cfq4, rpq4, hfq4, dmq4, daq4, cmq4) := by simp only [f_X2_takeFragment, if_neg c_1, if_pos c_3, hT4]
      exact hret _ _ _ _ dX2_takeFragment_43 (by first | rw [he] | rfl) (by first | rw [he] | rfl)
    · skip
      by_cases c_5 : v = 3
      · refine z_tableIn (off := 43) (tgt := 44) C dX2_takeFragment_1 (by rw [c_5]; decide) (by rw [c_5]; decide) (by rw [c_5]; decide) (by decide) ?_
        refine z_aload_n C dX2_takeFragment_44 rfl 0 rfl ?_
        refine z_callVi (n := 0) (isC := [0, 1, 2, 3, 4, 5, 6, 7, 8]) (isR := []) (isP := [0, 1, 2, 3, 4, 5, 6, 7, 8]) (As := []) (rest := []) (wr := []) (ws2 := [(e, .inr (2, [.ref b, .ref d, .ref c, .int rp, .int hf, .int pl, .int bg, .int lo, .int fp, .int fb])), (d, .inr (1, [.ref dw, .ref dy, .int ((f_X2_goOnWithRecord Wf Yf Cf F hf fp fb dm da cm m).2.2.2.2.1), .int ((f_X2_goOnWithRecord Wf Yf Cf F hf fp fb dm da cm m).2.2.2.2.2.1)])), (dw, .inl (g.2.2.1, 100, .inl ((f_X2_goOnWithRecord Wf Yf Cf F hf fp fb dm da cm m).2.1))), (dy, .inl (g.2.2.1, 100, .inl ((f_X2_goOnWithRecord Wf Yf Cf F hf fp fb dm da cm m).2.2.1))), (c, .inr (3, [.ref ca, .int ((f_X2_goOnWithRecord Wf Yf Cf F hf fp fb dm da cm m).2.2.2.2.2.2)])), (ca, .inl (g.2.1, 4096, .inl ((f_X2_goOnWithRecord Wf Yf Cf F hf fp fb dm da cm m).2.2.2.1))), (b, .inr (0, [.ref br, .int z])), (br, .inr (3, [.ref ba, .int m])), (ba, .inl (g.2.1, 4096, .inl F))]) C dX2_takeFragment_45 (c_X2_goOnWithRecord (zl X) g e b d c dw dy ca br ba Wf Yf Cf F rp hf pl bg lo fp fb dm da cm z m hd hc hm) gX2_takeFragment_X2_goOnWithRecord rfl ⟨rfl, rfl⟩ (by decide +kernel) (by decide) (by decide) rfl rfl rfl rfl (Nat.le_of_ble_eq_true rfl) rfl rfl ⟨rfl, rfl, rfl⟩ (by decide) rfl ?_
        generalize hT6 : (f_X2_goOnWithRecord Wf Yf Cf F hf fp fb dm da cm m) = T6
        obtain ⟨rq6, Wfq6, Yfq6, Cfq6, dmq6, daq6, cmq6⟩ := T6
        have k6_cm : zok 4096 cmq6 := zok_X2_goOnWithRecord hd hc hm hT6
        have k6_dm : zdok (0) dmq6 := zdok_X2_goOnWithRecord (zdok_le hd (by omega)) hT6
        refine z_pop C dX2_takeFragment_48 rfl ?_
        refine z_iconst (v := 0) C dX2_takeFragment_49 (by decide) ?_
        have he : (f_X2_takeFragment Wf Yf Cf F rp hf fp fb dm da cm m v) = (0, Wfq6, Yfq6, Cfq6, rp, hf, dmq6, daq6, cmq6) := by simp only [f_X2_takeFragment, if_neg c_1, if_neg c_3, if_pos c_5, hT6]
        exact hret _ _ _ _ dX2_takeFragment_50 (by first | rw [he] | rfl) (by first | rw [he] | rfl)
      · skip
        by_cases c_7 : v = 4
        · refine z_tableIn (off := 50) (tgt := 51) C dX2_takeFragment_1 (by rw [c_7]; decide) (by rw [c_7]; decide) (by rw [c_7]; decide) (by decide) ?_
          refine z_aload_n C dX2_takeFragment_51 rfl 0 rfl ?_
          refine z_callVi (n := 0) (isC := [0, 1, 2, 3, 4, 5, 6, 7, 8]) (isR := []) (isP := [0, 1, 2, 3, 4, 5, 6, 7, 8]) (As := []) (rest := []) (wr := []) (ws2 := [(e, .inr (2, [.ref b, .ref d, .ref c, .int rp, .int hf, .int pl, .int bg, .int lo, .int fp, .int fb])), (d, .inr (1, [.ref dw, .ref dy, .int ((f_X2_goOnWithRecord Wf Yf Cf F hf fp fb dm da cm m).2.2.2.2.1), .int ((f_X2_goOnWithRecord Wf Yf Cf F hf fp fb dm da cm m).2.2.2.2.2.1)])), (dw, .inl (g.2.2.1, 100, .inl ((f_X2_goOnWithRecord Wf Yf Cf F hf fp fb dm da cm m).2.1))), (dy, .inl (g.2.2.1, 100, .inl ((f_X2_goOnWithRecord Wf Yf Cf F hf fp fb dm da cm m).2.2.1))), (c, .inr (3, [.ref ca, .int ((f_X2_goOnWithRecord Wf Yf Cf F hf fp fb dm da cm m).2.2.2.2.2.2)])), (ca, .inl (g.2.1, 4096, .inl ((f_X2_goOnWithRecord Wf Yf Cf F hf fp fb dm da cm m).2.2.2.1))), (b, .inr (0, [.ref br, .int z])), (br, .inr (3, [.ref ba, .int m])), (ba, .inl (g.2.1, 4096, .inl F))]) C dX2_takeFragment_52 (c_X2_goOnWithRecord (zl X) g e b d c dw dy ca br ba Wf Yf Cf F rp hf pl bg lo fp fb dm da cm z m hd hc hm) gX2_takeFragment_X2_goOnWithRecord rfl ⟨rfl, rfl⟩ (by decide +kernel) (by decide) (by decide) rfl rfl rfl rfl (Nat.le_of_ble_eq_true rfl) rfl rfl ⟨rfl, rfl, rfl⟩ (by decide) rfl ?_
          generalize hT8 : (f_X2_goOnWithRecord Wf Yf Cf F hf fp fb dm da cm m) = T8
          obtain ⟨rq8, Wfq8, Yfq8, Cfq8, dmq8, daq8, cmq8⟩ := T8
          have k8_cm : zok 4096 cmq8 := zok_X2_goOnWithRecord hd hc hm hT8
          have k8_dm : zdok (0) dmq8 := zdok_X2_goOnWithRecord (zdok_le hd (by omega)) hT8
          have he : (f_X2_takeFragment Wf Yf Cf F rp hf fp fb dm da cm m v) = (rq8, Wfq8, Yfq8, Cfq8, rp, hf, dmq8, daq8, cmq8) := by simp only [f_X2_takeFragment, if_neg c_1, if_neg c_3, if_neg c_5, if_pos c_7, hT8]
          exact hret _ _ _ _ dX2_takeFragment_55 (by first | rw [he] | rfl) (by first | rw [he] | rfl)
        · skip
          refine z_tableOut (tgt := 56) C dX2_takeFragment_1 (zsw_out4 c_1 c_3 c_5 c_7) (by decide) ?_
          refine z_aload_n C dX2_takeFragment_56 rfl 0 rfl ?_
          refine z_get (ci := 2) (v := .ref d) (Cn := RX2) (T := TX2) (N := 10) C dX2_takeFragment_57 (fun w h => List.mem_cons_of_mem _ (List.mem_append_left _ (List.mem_append_left _ (List.mem_append_left _ (List.mem_append_right _ h))))) 0 rfl rfl 1 (by decide) (List.mem_of_getElem? (i := 1) rfl) rfl rfl ?_
          refine z_bipush (v := 6) C dX2_takeFragment_60 (by decide) ?_
          refine z_aload_n C dX2_takeFragment_62 rfl 0 rfl ?_
          refine z_get (ci := 2) (v := .int fb) (Cn := RX2) (T := TX2) (N := 10) C dX2_takeFragment_63 (fun w h => List.mem_cons_of_mem _ (List.mem_append_left _ (List.mem_append_left _ (List.mem_append_left _ (List.mem_append_right _ h))))) 0 rfl rfl 9 (by decide) (List.mem_of_getElem? (i := 2) rfl) rfl rfl ?_
          refine z_aload_n C dX2_takeFragment_66 rfl 0 rfl ?_
          refine z_get (ci := 2) (v := .ref c) (Cn := RX2) (T := TX2) (N := 10) C dX2_takeFragment_67 (fun w h => List.mem_cons_of_mem _ (List.mem_append_left _ (List.mem_append_left _ (List.mem_append_left _ (List.mem_append_right _ h))))) 0 rfl rfl 2 (by decide) (List.mem_of_getElem? (i := 3) rfl) rfl rfl ?_
          refine z_callVi (n := 0) (isC := [4, 5]) (isR := [0, 1, 2, 3, 6, 7, 8]) (isP := [0, 1, 2, 3, 7, 8, 4, 5, 6]) (As := []) (rest := [.int fb, .int 6, .ref d]) (wr := [(e, .inr (2, [.ref b, .ref d, .ref c, .int rp, .int hf, .int pl, .int bg, .int lo, .int fp, .int fb])), (d, .inr (1, [.ref dw, .ref dy, .int dm, .int da])), (dw, .inl (g.2.2.1, 100, .inl Wf)), (dy, .inl (g.2.2.1, 100, .inl Yf)), (b, .inr (0, [.ref br, .int z])), (br, .inr (3, [.ref ba, .int m])), (ba, .inl (g.2.1, 4096, .inl F))]) (ws2 := [(e, .inr (2, [.ref b, .ref d, .ref c, .int rp, .int hf, .int pl, .int bg, .int lo, .int fp, .int fb])), (d, .inr (1, [.ref dw, .ref dy, .int dm, .int da])), (dw, .inl (g.2.2.1, 100, .inl Wf)), (dy, .inl (g.2.2.1, 100, .inl Yf)), (c, .inr (3, [.ref ca, .int cm])), (ca, .inl (g.2.1, 4096, .inl Cf)), (b, .inr (0, [.ref br, .int z])), (br, .inr (3, [.ref ba, .int m])), (ba, .inl (g.2.1, 4096, .inl F))]) C dX2_takeFragment_70 (c_X3_many (zl X) g c ca 4096 Cf cm) gX2_takeFragment_X3_many rfl ⟨rfl, rfl⟩ (by decide +kernel) (by decide) (by decide) rfl rfl rfl rfl (Nat.le_of_ble_eq_true rfl) rfl rfl ⟨rfl, rfl, rfl⟩ (by decide) rfl ?_
          refine z_iadd C dX2_takeFragment_73 ?_
          refine z_callVv (n := 2) (isC := [1, 2, 3]) (isR := [0, 4, 5, 6, 7, 8]) (isP := [0, 6, 7, 8, 1, 2, 3, 4, 5]) (As := [.int 6, .int (fb + cm)]) (rest := []) (wr := [(e, .inr (2, [.ref b, .ref d, .ref c, .int rp, .int hf, .int pl, .int bg, .int lo, .int fp, .int fb])), (c, .inr (3, [.ref ca, .int cm])), (ca, .inl (g.2.1, 4096, .inl Cf)), (b, .inr (0, [.ref br, .int z])), (br, .inr (3, [.ref ba, .int m])), (ba, .inl (g.2.1, 4096, .inl F))]) (ws2 := [(e, .inr (2, [.ref b, .ref d, .ref c, .int rp, .int hf, .int pl, .int bg, .int lo, .int fp, .int fb])), (d, .inr (1, [.ref dw, .ref dy, .int ((f_X1_tell Wf Yf dm da 6 (fb + cm)).2.2.1), .int ((f_X1_tell Wf Yf dm da 6 (fb + cm)).2.2.2)])), (dw, .inl (g.2.2.1, 100, .inl ((f_X1_tell Wf Yf dm da 6 (fb + cm)).1))), (dy, .inl (g.2.2.1, 100, .inl ((f_X1_tell Wf Yf dm da 6 (fb + cm)).2.1))), (c, .inr (3, [.ref ca, .int cm])), (ca, .inl (g.2.1, 4096, .inl Cf)), (b, .inr (0, [.ref br, .int z])), (br, .inr (3, [.ref ba, .int m])), (ba, .inl (g.2.1, 4096, .inl F))]) C dX2_takeFragment_74 (c_X1_tell (zl X) g d dw dy Wf Yf dm da 6 (fb + cm) hd) gX2_takeFragment_X1_tell rfl ⟨rfl, rfl⟩ (by decide +kernel) (by decide) (by decide) rfl rfl rfl rfl (Nat.le_of_ble_eq_true rfl) rfl rfl ⟨rfl, rfl, rfl⟩ (by decide) rfl ?_
          generalize hT10 : (f_X1_tell Wf Yf dm da 6 (fb + cm)) = T10
          obtain ⟨Wfq10, Yfq10, dmq10, daq10⟩ := T10
          have k10_dm : zdok (0) dmq10 := zdok_X1_tell (zdok_le hd (by omega)) hT10
          refine z_aload_n C dX2_takeFragment_77 rfl 0 rfl ?_
          refine z_callVv (n := 0) (isC := [0, 1, 2, 3, 4, 5, 6, 7, 8]) (isR := []) (isP := [0, 1, 2, 3, 4, 5, 6, 7, 8]) (As := []) (rest := []) (wr := []) (ws2 := [(e, .inr (2, [.ref b, .ref d, .ref c, .int ((f_X2_dropRecord cm).1), .int ((f_X2_dropRecord cm).2.1), .int pl, .int bg, .int lo, .int fp, .int fb])), (d, .inr (1, [.ref dw, .ref dy, .int dmq10, .int daq10])), (dw, .inl (g.2.2.1, 100, .inl Wfq10)), (dy, .inl (g.2.2.1, 100, .inl Yfq10)), (c, .inr (3, [.ref ca, .int ((f_X2_dropRecord cm).2.2)])), (ca, .inl (g.2.1, 4096, .inl Cf)), (b, .inr (0, [.ref br, .int z])), (br, .inr (3, [.ref ba, .int m])), (ba, .inl (g.2.1, 4096, .inl F))]) C dX2_takeFragment_78 (c_X2_dropRecord (zl X) g e b d c dw dy ca br ba Wfq10 Yfq10 Cf F rp hf pl bg lo fp fb dmq10 daq10 cm z m hc) gX2_takeFragment_X2_dropRecord rfl ⟨rfl, rfl⟩ (by decide +kernel) (by decide) (by decide) rfl rfl rfl rfl (Nat.le_of_ble_eq_true rfl) rfl rfl ⟨rfl, rfl, rfl⟩ (by decide) rfl ?_
          generalize hT11 : (f_X2_dropRecord cm) = T11
          obtain ⟨rpq11, hfq11, cmq11⟩ := T11
          have k11_cm : zok 4096 cmq11 := zok_X2_dropRecord hc hT11
          refine z_iconst (v := 0) C dX2_takeFragment_81 (by decide) ?_
          have he : (f_X2_takeFragment Wf Yf Cf F rp hf fp fb dm da cm m v) = (0, Wfq10, Yfq10, Cf, rpq11, hfq11, dmq10, daq10, cmq11) := by simp only [f_X2_takeFragment, if_neg c_1, if_neg c_3, if_neg c_5, if_neg c_7, hT10, hT11]
          exact hret _ _ _ _ dX2_takeFragment_82 (by first | rw [he] | rfl) (by first | rw [he] | rfl)
def f_X2_passesOver (lo : Int32) (v : Int32) : Int32 × Int32 :=
  if lo = 0 then
    (0, lo)
  else
    if v = 3 then
      (1, 1)
    else
      if v = 4 then
        (1, 0)
      else
        (0, 0)
theorem zbool_X2_passesOver (lo v : Int32) : narrow .boolean (.int (f_X2_passesOver lo v).1) = .int (f_X2_passesOver lo v).1 := by
  unfold f_X2_passesOver
  repeat' split
  all_goals ((try dsimp only); rfl)
set_option maxHeartbeats 4000000 in
set_option maxRecDepth 100000 in
theorem c_X2_passesOver (l : Launch) (g : zG) (e b d c dw dy ca br ba : Nat) (Wf : Nat → Int32) (Yf : Nat → Int32) (Cf : Nat → Int32) (F : Nat → Int32) (rp : Int32) (hf : Int32) (pl : Int32) (bg : Int32) (lo : Int32) (fp : Int32) (fb : Int32) (dm : Int32) (da : Int32) (cm : Int32) (z : Int32) (m : Int32) (v : Int32) : zMI l yX2_passesOver wsX2_passesOver ({ frames := 0, cells := 0, slots := 0, locals := 0 }) g [.ref e, .int v] [(e, .inr (2, [.ref b, .ref d, .ref c, .int rp, .int hf, .int pl, .int bg, .int lo, .int fp, .int fb])), (d, .inr (1, [.ref dw, .ref dy, .int dm, .int da])), (dw, .inl (g.2.2.1, 100, .inl Wf)), (dy, .inl (g.2.2.1, 100, .inl Yf)), (c, .inr (3, [.ref ca, .int cm])), (ca, .inl (g.2.1, 4096, .inl Cf)), (b, .inr (0, [.ref br, .int z])), (br, .inr (3, [.ref ba, .int m])), (ba, .inl (g.2.1, 4096, .inl F))] ((f_X2_passesOver lo v).1) [(e, .inr (2, [.ref b, .ref d, .ref c, .int rp, .int hf, .int pl, .int bg, .int ((f_X2_passesOver lo v).2), .int fp, .int fb])), (d, .inr (1, [.ref dw, .ref dy, .int dm, .int da])), (dw, .inl (g.2.2.1, 100, .inl Wf)), (dy, .inl (g.2.2.1, 100, .inl Yf)), (c, .inr (3, [.ref ca, .int cm])), (ca, .inl (g.2.1, 4096, .inl Cf)), (b, .inr (0, [.ref br, .int z])), (br, .inr (3, [.ref ba, .int m])), (ba, .inl (g.2.1, 4096, .inl F))] := by
  refine zMI_of (cc := cX2_passesOver) (nL := 2) (ty := .boolean) (by decide) rfl (Nat.le_of_ble_eq_true rfl) (zbool_X2_passesOver _ _) ?_
  intro X C hret
  refine z_lv (lv' := [(0, .ref e), (1, .int v)]) [0, 1] rfl ?_
  refine z_aload_n C dX2_passesOver_0 rfl 0 rfl ?_
  refine z_get (ci := 2) (v := .int lo) (Cn := RX2) (T := TX2) (N := 10) C dX2_passesOver_1 (fun w h => List.mem_cons_of_mem _ (List.mem_append_right _ h)) 0 rfl rfl 7 (by decide) (List.mem_of_getElem? (i := 1) rfl) rfl rfl ?_
  refine z_if_ne (tgt := 9) C dX2_passesOver_4 (by decide) (fun c_1 => ?_) (fun c_1 => ?_)
  · skip
    refine z_aload_n C dX2_passesOver_9 rfl 0 rfl ?_
    refine z_iload_n C dX2_passesOver_10 rfl 1 rfl ?_
    refine z_iconst (v := 3) C dX2_passesOver_11 (by decide) ?_
    refine z_icmp_ne (tgt := 19) C dX2_passesOver_12 (by decide) (fun c_2 => ?_) (fun c_2 => ?_)
    · skip
      refine z_iconst (v := 0) C dX2_passesOver_19 (by decide) ?_
      refine z_put (ci := 2) (v := .int 0) (ty := .boolean) (Cn := RX2) (T := TX2) (N := 10) (ws' := [(e, .inr (2, [.ref b, .ref d, .ref c, .int rp, .int hf, .int pl, .int bg, .int 0, .int fp, .int fb])), (d, .inr (1, [.ref dw, .ref dy, .int dm, .int da])), (dw, .inl (g.2.2.1, 100, .inl Wf)), (dy, .inl (g.2.2.1, 100, .inl Yf)), (c, .inr (3, [.ref ca, .int cm])), (ca, .inl (g.2.1, 4096, .inl Cf)), (b, .inr (0, [.ref br, .int z])), (br, .inr (3, [.ref ba, .int m])), (ba, .inl (g.2.1, 4096, .inl F))]) C dX2_passesOver_20 (fun w h => List.mem_cons_of_mem _ (List.mem_append_right _ h)) tyX2 tyX2_ok nmX2 0 rfl rfl 7 (by decide) (List.mem_of_getElem? (i := 1) rfl) rfl rfl (by decide +kernel) rfl rfl (Nat.le_of_ble_eq_true rfl) rfl ?_
      refine z_iload_n C dX2_passesOver_23 rfl 1 rfl ?_
      refine z_iconst (v := 3) C dX2_passesOver_24 (by decide) ?_
      refine z_icmp_eq (tgt := 33) C dX2_passesOver_25 (by decide) (fun c_3 => absurd c_3 c_2) (fun c_3 => ?_)
      refine z_iload_n C dX2_passesOver_28 rfl 1 rfl ?_
      refine z_iconst (v := 4) C dX2_passesOver_29 (by decide) ?_
      refine z_icmp_ne (tgt := 37) C dX2_passesOver_30 (by decide) (fun c_4 => ?_) (fun c_4 => ?_)
      · skip
        refine z_iconst (v := 0) C dX2_passesOver_37 (by decide) ?_
        have he : (f_X2_passesOver lo v) = (0, 0) := by simp only [f_X2_passesOver, if_neg c_1, if_neg c_2, if_neg c_4]
        exact hret _ _ _ _ dX2_passesOver_38 (by first | rw [he] | rfl) (by first | rw [he] | rfl)
      · skip
        refine z_iconst (v := 1) C dX2_passesOver_33 (by decide) ?_
        refine z_goto (tgt := 38) C dX2_passesOver_34 (by decide) ?_
        have he : (f_X2_passesOver lo v) = (1, 0) := by simp only [f_X2_passesOver, if_neg c_1, if_neg c_2, if_pos c_4]
        exact hret _ _ _ _ dX2_passesOver_38 (by first | rw [he] | rfl) (by first | rw [he] | rfl)
    · skip
      refine z_iconst (v := 1) C dX2_passesOver_15 (by decide) ?_
      refine z_goto (tgt := 20) C dX2_passesOver_16 (by decide) ?_
      refine z_put (ci := 2) (v := .int 1) (ty := .boolean) (Cn := RX2) (T := TX2) (N := 10) (ws' := [(e, .inr (2, [.ref b, .ref d, .ref c, .int rp, .int hf, .int pl, .int bg, .int 1, .int fp, .int fb])), (d, .inr (1, [.ref dw, .ref dy, .int dm, .int da])), (dw, .inl (g.2.2.1, 100, .inl Wf)), (dy, .inl (g.2.2.1, 100, .inl Yf)), (c, .inr (3, [.ref ca, .int cm])), (ca, .inl (g.2.1, 4096, .inl Cf)), (b, .inr (0, [.ref br, .int z])), (br, .inr (3, [.ref ba, .int m])), (ba, .inl (g.2.1, 4096, .inl F))]) C dX2_passesOver_20 (fun w h => List.mem_cons_of_mem _ (List.mem_append_right _ h)) tyX2 tyX2_ok nmX2 0 rfl rfl 7 (by decide) (List.mem_of_getElem? (i := 1) rfl) rfl rfl (by decide +kernel) rfl rfl (Nat.le_of_ble_eq_true rfl) rfl ?_
      refine z_iload_n C dX2_passesOver_23 rfl 1 rfl ?_
      refine z_iconst (v := 3) C dX2_passesOver_24 (by decide) ?_
      refine z_icmp_eq (tgt := 33) C dX2_passesOver_25 (by decide) (fun c_5 => ?_) (fun c_5 => absurd c_2 c_5)
      refine z_iconst (v := 1) C dX2_passesOver_33 (by decide) ?_
      refine z_goto (tgt := 38) C dX2_passesOver_34 (by decide) ?_
      have he : (f_X2_passesOver lo v) = (1, 1) := by simp only [f_X2_passesOver, if_neg c_1, if_pos c_2]
      exact hret _ _ _ _ dX2_passesOver_38 (by first | rw [he] | rfl) (by first | rw [he] | rfl)
  · skip
    refine z_iconst (v := 0) C dX2_passesOver_7 (by decide) ?_
    have he : (f_X2_passesOver lo v) = (0, lo) := by simp only [f_X2_passesOver, if_pos c_1]
    exact hret _ _ _ _ dX2_passesOver_8 (by first | rw [he] | rfl) (by first | rw [he] | rfl)
def f_X2_breakBlock (Wf : Nat → Int32) (Yf : Nat → Int32) (pl : Int32) (dm : Int32) (da : Int32) (x : Int32) (v : Int32) : Int32 × (Nat → Int32) × (Nat → Int32) × Int32 × Int32 × Int32 :=
  match (f_X1_tell Wf Yf dm da x v) with
  | (Wfq1, Yfq1, dmq1, daq1) =>
    (257, Wfq1, Yfq1, (pl + v), dmq1, daq1)
theorem zdok_X2_breakBlock {k : Nat} {Wf Yf W1 Y1 : Nat → Int32} {pl dm da x v r p1 d1 a1 : Int32} (hd : zdok (k + 1) dm) (e : f_X2_breakBlock Wf Yf pl dm da x v = (r, W1, Y1, p1, d1, a1)) : zdok k d1 := by
  unfold f_X2_breakBlock at e
  split at e
  next e1 => cases e; exact zdok_X1_tell hd e1
set_option maxHeartbeats 4000000 in
set_option maxRecDepth 100000 in
theorem c_X2_breakBlock (l : Launch) (g : zG) (e b d c dw dy ca br ba : Nat) (Wf : Nat → Int32) (Yf : Nat → Int32) (Cf : Nat → Int32) (F : Nat → Int32) (rp : Int32) (hf : Int32) (pl : Int32) (bg : Int32) (lo : Int32) (fp : Int32) (fb : Int32) (dm : Int32) (da : Int32) (cm : Int32) (z : Int32) (m : Int32) (x : Int32) (v : Int32) (hd : zdok 1 dm) : zMI l yX2_breakBlock wsX2_breakBlock ({ frames := 1, cells := 0, slots := 0, locals := 22 }) g [.ref e, .int x, .int v] [(e, .inr (2, [.ref b, .ref d, .ref c, .int rp, .int hf, .int pl, .int bg, .int lo, .int fp, .int fb])), (d, .inr (1, [.ref dw, .ref dy, .int dm, .int da])), (dw, .inl (g.2.2.1, 100, .inl Wf)), (dy, .inl (g.2.2.1, 100, .inl Yf)), (c, .inr (3, [.ref ca, .int cm])), (ca, .inl (g.2.1, 4096, .inl Cf)), (b, .inr (0, [.ref br, .int z])), (br, .inr (3, [.ref ba, .int m])), (ba, .inl (g.2.1, 4096, .inl F))] ((f_X2_breakBlock Wf Yf pl dm da x v).1) [(e, .inr (2, [.ref b, .ref d, .ref c, .int rp, .int hf, .int ((f_X2_breakBlock Wf Yf pl dm da x v).2.2.2.1), .int bg, .int lo, .int fp, .int fb])), (d, .inr (1, [.ref dw, .ref dy, .int ((f_X2_breakBlock Wf Yf pl dm da x v).2.2.2.2.1), .int ((f_X2_breakBlock Wf Yf pl dm da x v).2.2.2.2.2)])), (dw, .inl (g.2.2.1, 100, .inl ((f_X2_breakBlock Wf Yf pl dm da x v).2.1))), (dy, .inl (g.2.2.1, 100, .inl ((f_X2_breakBlock Wf Yf pl dm da x v).2.2.1))), (c, .inr (3, [.ref ca, .int cm])), (ca, .inl (g.2.1, 4096, .inl Cf)), (b, .inr (0, [.ref br, .int z])), (br, .inr (3, [.ref ba, .int m])), (ba, .inl (g.2.1, 4096, .inl F))] := by
  refine zMI_of (cc := cX2_breakBlock) (nL := 3) (ty := .int) (by decide) rfl (Nat.le_of_ble_eq_true rfl) rfl ?_
  intro X C hret
  refine z_lv (lv' := [(0, .ref e), (1, .int x), (2, .int v)]) [0, 1, 2] rfl ?_
  refine z_aload_n C dX2_breakBlock_0 rfl 0 rfl ?_
  refine z_get (ci := 2) (v := .ref d) (Cn := RX2) (T := TX2) (N := 10) C dX2_breakBlock_1 (fun w h => List.mem_cons_of_mem _ (List.mem_append_left _ (List.mem_append_right _ h))) 0 rfl rfl 1 (by decide) (List.mem_of_getElem? (i := 1) rfl) rfl rfl ?_
  refine z_iload_n C dX2_breakBlock_4 rfl 1 rfl ?_
  refine z_iload_n C dX2_breakBlock_5 rfl 2 rfl ?_
  refine z_callVv (n := 2) (isC := [1, 2, 3]) (isR := [0, 4, 5, 6, 7, 8]) (isP := [0, 6, 7, 8, 1, 2, 3, 4, 5]) (As := [.int x, .int v]) (rest := []) (wr := [(e, .inr (2, [.ref b, .ref d, .ref c, .int rp, .int hf, .int pl, .int bg, .int lo, .int fp, .int fb])), (c, .inr (3, [.ref ca, .int cm])), (ca, .inl (g.2.1, 4096, .inl Cf)), (b, .inr (0, [.ref br, .int z])), (br, .inr (3, [.ref ba, .int m])), (ba, .inl (g.2.1, 4096, .inl F))]) (ws2 := [(e, .inr (2, [.ref b, .ref d, .ref c, .int rp, .int hf, .int pl, .int bg, .int lo, .int fp, .int fb])), (d, .inr (1, [.ref dw, .ref dy, .int ((f_X1_tell Wf Yf dm da x v).2.2.1), .int ((f_X1_tell Wf Yf dm da x v).2.2.2)])), (dw, .inl (g.2.2.1, 100, .inl ((f_X1_tell Wf Yf dm da x v).1))), (dy, .inl (g.2.2.1, 100, .inl ((f_X1_tell Wf Yf dm da x v).2.1))), (c, .inr (3, [.ref ca, .int cm])), (ca, .inl (g.2.1, 4096, .inl Cf)), (b, .inr (0, [.ref br, .int z])), (br, .inr (3, [.ref ba, .int m])), (ba, .inl (g.2.1, 4096, .inl F))]) C dX2_breakBlock_6 (c_X1_tell (zl X) g d dw dy Wf Yf dm da x v hd) gX2_breakBlock_X1_tell rfl ⟨rfl, rfl⟩ (by decide +kernel) (by decide) (by decide) rfl rfl rfl rfl (Nat.le_of_ble_eq_true rfl) rfl rfl ⟨rfl, rfl, rfl⟩ (by decide) rfl ?_
  generalize hT1 : (f_X1_tell Wf Yf dm da x v) = T1
  obtain ⟨Wfq1, Yfq1, dmq1, daq1⟩ := T1
  have k1_dm : zdok (0) dmq1 := zdok_X1_tell (zdok_le hd (by omega)) hT1
  refine z_aload_n C dX2_breakBlock_9 rfl 0 rfl ?_
  refine z_dup C dX2_breakBlock_10 rfl ?_
  refine z_get (ci := 2) (v := .int pl) (Cn := RX2) (T := TX2) (N := 10) C dX2_breakBlock_11 (fun w h => List.mem_cons_of_mem _ (List.mem_append_left _ (List.mem_append_right _ h))) 0 rfl rfl 5 (by decide) (List.mem_of_getElem? (i := 2) rfl) rfl rfl ?_
  refine z_iload_n C dX2_breakBlock_14 rfl 2 rfl ?_
  refine z_iadd C dX2_breakBlock_15 ?_
  refine z_put (ci := 2) (v := .int (pl + v)) (ty := .int) (Cn := RX2) (T := TX2) (N := 10) (ws' := [(e, .inr (2, [.ref b, .ref d, .ref c, .int rp, .int hf, .int (pl + v), .int bg, .int lo, .int fp, .int fb])), (d, .inr (1, [.ref dw, .ref dy, .int dmq1, .int daq1])), (dw, .inl (g.2.2.1, 100, .inl Wfq1)), (dy, .inl (g.2.2.1, 100, .inl Yfq1)), (c, .inr (3, [.ref ca, .int cm])), (ca, .inl (g.2.1, 4096, .inl Cf)), (b, .inr (0, [.ref br, .int z])), (br, .inr (3, [.ref ba, .int m])), (ba, .inl (g.2.1, 4096, .inl F))]) C dX2_breakBlock_16 (fun w h => List.mem_cons_of_mem _ (List.mem_append_left _ (List.mem_append_right _ h))) tyX2 tyX2_ok nmX2 0 rfl rfl 5 (by decide) (List.mem_of_getElem? (i := 2) rfl) rfl rfl (by decide +kernel) rfl rfl (Nat.le_of_ble_eq_true rfl) rfl ?_
  refine z_sipush (v := 257) C dX2_breakBlock_19 (by decide) ?_
  have he : (f_X2_breakBlock Wf Yf pl dm da x v) = (257, Wfq1, Yfq1, (pl + v), dmq1, daq1) := by simp only [f_X2_breakBlock, hT1]
  exact hret _ _ _ _ dX2_breakBlock_22 (by first | rw [he] | rfl) (by first | rw [he] | rfl)
def f_X2_tear (Wf : Nat → Int32) (Yf : Nat → Int32) (rp : Int32) (hf : Int32) (dm : Int32) (da : Int32) (cm : Int32) : (Nat → Int32) × (Nat → Int32) × Int32 × Int32 × Int32 × Int32 × Int32 :=
  if hf = 0 then
    (Wf, Yf, rp, hf, dm, da, cm)
  else
    match (f_X1_tell Wf Yf dm da 3 cm) with
    | (Wfq3, Yfq3, dmq3, daq3) =>
      match (f_X2_dropRecord cm) with
      | (rpq4, hfq4, cmq4) =>
        (Wfq3, Yfq3, rpq4, hfq4, dmq3, daq3, cmq4)
theorem zok_X2_tear {Wf Yf W1 Y1 : Nat → Int32} {rp hf dm da cm r1 h1 d1 a1 c1 : Int32} (_ : zdok 1 dm) (hc : zok 4096 cm) (e : f_X2_tear Wf Yf rp hf dm da cm = (W1, Y1, r1, h1, d1, a1, c1)) : zok 4096 c1 := by
  unfold f_X2_tear at e
  split at e
  · cases e; exact hc
  · split at e
    split at e
    next e2 => cases e; exact zok_X2_dropRecord hc e2
theorem zdok_X2_tear {k : Nat} {Wf Yf W1 Y1 : Nat → Int32} {rp hf dm da cm r1 h1 d1 a1 c1 : Int32} (hd : zdok (k + 1) dm) (e : f_X2_tear Wf Yf rp hf dm da cm = (W1, Y1, r1, h1, d1, a1, c1)) : zdok k d1 := by
  unfold f_X2_tear at e
  split at e
  · cases e; exact zdok_le hd (by omega)
  · split at e
    next e1 =>
    split at e
    cases e; exact zdok_X1_tell hd e1
set_option maxHeartbeats 4000000 in
set_option maxRecDepth 100000 in
theorem c_X2_tear (l : Launch) (g : zG) (e b d c dw dy ca br ba : Nat) (Wf : Nat → Int32) (Yf : Nat → Int32) (Cf : Nat → Int32) (F : Nat → Int32) (rp : Int32) (hf : Int32) (pl : Int32) (bg : Int32) (lo : Int32) (fp : Int32) (fb : Int32) (dm : Int32) (da : Int32) (cm : Int32) (z : Int32) (m : Int32) (hd : zdok 1 dm) (hc : zok 4096 cm) : zMV l yX2_tear wsX2_tear ({ frames := 2, cells := 0, slots := 0, locals := 41 }) g [.ref e] [(e, .inr (2, [.ref b, .ref d, .ref c, .int rp, .int hf, .int pl, .int bg, .int lo, .int fp, .int fb])), (d, .inr (1, [.ref dw, .ref dy, .int dm, .int da])), (dw, .inl (g.2.2.1, 100, .inl Wf)), (dy, .inl (g.2.2.1, 100, .inl Yf)), (c, .inr (3, [.ref ca, .int cm])), (ca, .inl (g.2.1, 4096, .inl Cf)), (b, .inr (0, [.ref br, .int z])), (br, .inr (3, [.ref ba, .int m])), (ba, .inl (g.2.1, 4096, .inl F))] [(e, .inr (2, [.ref b, .ref d, .ref c, .int ((f_X2_tear Wf Yf rp hf dm da cm).2.2.1), .int ((f_X2_tear Wf Yf rp hf dm da cm).2.2.2.1), .int pl, .int bg, .int lo, .int fp, .int fb])), (d, .inr (1, [.ref dw, .ref dy, .int ((f_X2_tear Wf Yf rp hf dm da cm).2.2.2.2.1), .int ((f_X2_tear Wf Yf rp hf dm da cm).2.2.2.2.2.1)])), (dw, .inl (g.2.2.1, 100, .inl ((f_X2_tear Wf Yf rp hf dm da cm).1))), (dy, .inl (g.2.2.1, 100, .inl ((f_X2_tear Wf Yf rp hf dm da cm).2.1))), (c, .inr (3, [.ref ca, .int ((f_X2_tear Wf Yf rp hf dm da cm).2.2.2.2.2.2)])), (ca, .inl (g.2.1, 4096, .inl Cf)), (b, .inr (0, [.ref br, .int z])), (br, .inr (3, [.ref ba, .int m])), (ba, .inl (g.2.1, 4096, .inl F))] := by
  refine zMV_of (cc := cX2_tear) (nL := 1) (by decide) rfl (Nat.le_of_ble_eq_true rfl) ?_
  intro X C hret
  refine z_lv (lv' := [(0, .ref e)]) [0] rfl ?_
  refine z_aload_n C dX2_tear_0 rfl 0 rfl ?_
  refine z_get (ci := 2) (v := .int hf) (Cn := RX2) (T := TX2) (N := 10) C dX2_tear_1 (fun w h => List.mem_cons_of_mem _ (List.mem_append_left _ (List.mem_append_left _ (List.mem_append_right _ h)))) 0 rfl rfl 4 (by decide) (List.mem_of_getElem? (i := 1) rfl) rfl rfl ?_
  refine z_if_eq (tgt := 26) C dX2_tear_4 (by decide) (fun c_1 => ?_) (fun c_1 => ?_)
  · skip
    have he : (f_X2_tear Wf Yf rp hf dm da cm) = (Wf, Yf, rp, hf, dm, da, cm) := by simp only [f_X2_tear, if_pos c_1]
    exact hret _ _ _ dX2_tear_26 (by first | rw [he] | rfl)
  · skip
    refine z_aload_n C dX2_tear_7 rfl 0 rfl ?_
    refine z_get (ci := 2) (v := .ref d) (Cn := RX2) (T := TX2) (N := 10) C dX2_tear_8 (fun w h => List.mem_cons_of_mem _ (List.mem_append_left _ (List.mem_append_left _ (List.mem_append_right _ h)))) 0 rfl rfl 1 (by decide) (List.mem_of_getElem? (i := 2) rfl) rfl rfl ?_
    refine z_iconst (v := 3) C dX2_tear_11 (by decide) ?_
    refine z_aload_n C dX2_tear_12 rfl 0 rfl ?_
    refine z_get (ci := 2) (v := .ref c) (Cn := RX2) (T := TX2) (N := 10) C dX2_tear_13 (fun w h => List.mem_cons_of_mem _ (List.mem_append_left _ (List.mem_append_left _ (List.mem_append_right _ h)))) 0 rfl rfl 2 (by decide) (List.mem_of_getElem? (i := 3) rfl) rfl rfl ?_
    refine z_callVi (n := 0) (isC := [4, 5]) (isR := [0, 1, 2, 3, 6, 7, 8]) (isP := [0, 1, 2, 3, 7, 8, 4, 5, 6]) (As := []) (rest := [.int 3, .ref d]) (wr := [(e, .inr (2, [.ref b, .ref d, .ref c, .int rp, .int hf, .int pl, .int bg, .int lo, .int fp, .int fb])), (d, .inr (1, [.ref dw, .ref dy, .int dm, .int da])), (dw, .inl (g.2.2.1, 100, .inl Wf)), (dy, .inl (g.2.2.1, 100, .inl Yf)), (b, .inr (0, [.ref br, .int z])), (br, .inr (3, [.ref ba, .int m])), (ba, .inl (g.2.1, 4096, .inl F))]) (ws2 := [(e, .inr (2, [.ref b, .ref d, .ref c, .int rp, .int hf, .int pl, .int bg, .int lo, .int fp, .int fb])), (d, .inr (1, [.ref dw, .ref dy, .int dm, .int da])), (dw, .inl (g.2.2.1, 100, .inl Wf)), (dy, .inl (g.2.2.1, 100, .inl Yf)), (c, .inr (3, [.ref ca, .int cm])), (ca, .inl (g.2.1, 4096, .inl Cf)), (b, .inr (0, [.ref br, .int z])), (br, .inr (3, [.ref ba, .int m])), (ba, .inl (g.2.1, 4096, .inl F))]) C dX2_tear_16 (c_X3_many (zl X) g c ca 4096 Cf cm) gX2_tear_X3_many rfl ⟨rfl, rfl⟩ (by decide +kernel) (by decide) (by decide) rfl rfl rfl rfl (Nat.le_of_ble_eq_true rfl) rfl rfl ⟨rfl, rfl, rfl⟩ (by decide) rfl ?_
    refine z_callVv (n := 2) (isC := [1, 2, 3]) (isR := [0, 4, 5, 6, 7, 8]) (isP := [0, 6, 7, 8, 1, 2, 3, 4, 5]) (As := [.int 3, .int cm]) (rest := []) (wr := [(e, .inr (2, [.ref b, .ref d, .ref c, .int rp, .int hf, .int pl, .int bg, .int lo, .int fp, .int fb])), (c, .inr (3, [.ref ca, .int cm])), (ca, .inl (g.2.1, 4096, .inl Cf)), (b, .inr (0, [.ref br, .int z])), (br, .inr (3, [.ref ba, .int m])), (ba, .inl (g.2.1, 4096, .inl F))]) (ws2 := [(e, .inr (2, [.ref b, .ref d, .ref c, .int rp, .int hf, .int pl, .int bg, .int lo, .int fp, .int fb])), (d, .inr (1, [.ref dw, .ref dy, .int ((f_X1_tell Wf Yf dm da 3 cm).2.2.1), .int ((f_X1_tell Wf Yf dm da 3 cm).2.2.2)])), (dw, .inl (g.2.2.1, 100, .inl ((f_X1_tell Wf Yf dm da 3 cm).1))), (dy, .inl (g.2.2.1, 100, .inl ((f_X1_tell Wf Yf dm da 3 cm).2.1))), (c, .inr (3, [.ref ca, .int cm])), (ca, .inl (g.2.1, 4096, .inl Cf)), (b, .inr (0, [.ref br, .int z])), (br, .inr (3, [.ref ba, .int m])), (ba, .inl (g.2.1, 4096, .inl F))]) C dX2_tear_19 (c_X1_tell (zl X) g d dw dy Wf Yf dm da 3 cm hd) gX2_tear_X1_tell rfl ⟨rfl, rfl⟩ (by decide +kernel) (by decide) (by decide) rfl rfl rfl rfl (Nat.le_of_ble_eq_true rfl) rfl rfl ⟨rfl, rfl, rfl⟩ (by decide) rfl ?_
    generalize hT3 : (f_X1_tell Wf Yf dm da 3 cm) = T3
    obtain ⟨Wfq3, Yfq3, dmq3, daq3⟩ := T3
    have k3_dm : zdok (0) dmq3 := zdok_X1_tell (zdok_le hd (by omega)) hT3
    refine z_aload_n C dX2_tear_22 rfl 0 rfl ?_
    refine z_callVv (n := 0) (isC := [0, 1, 2, 3, 4, 5, 6, 7, 8]) (isR := []) (isP := [0, 1, 2, 3, 4, 5, 6, 7, 8]) (As := []) (rest := []) (wr := []) (ws2 := [(e, .inr (2, [.ref b, .ref d, .ref c, .int ((f_X2_dropRecord cm).1), .int ((f_X2_dropRecord cm).2.1), .int pl, .int bg, .int lo, .int fp, .int fb])), (d, .inr (1, [.ref dw, .ref dy, .int dmq3, .int daq3])), (dw, .inl (g.2.2.1, 100, .inl Wfq3)), (dy, .inl (g.2.2.1, 100, .inl Yfq3)), (c, .inr (3, [.ref ca, .int ((f_X2_dropRecord cm).2.2)])), (ca, .inl (g.2.1, 4096, .inl Cf)), (b, .inr (0, [.ref br, .int z])), (br, .inr (3, [.ref ba, .int m])), (ba, .inl (g.2.1, 4096, .inl F))]) C dX2_tear_23 (c_X2_dropRecord (zl X) g e b d c dw dy ca br ba Wfq3 Yfq3 Cf F rp hf pl bg lo fp fb dmq3 daq3 cm z m hc) gX2_tear_X2_dropRecord rfl ⟨rfl, rfl⟩ (by decide +kernel) (by decide) (by decide) rfl rfl rfl rfl (Nat.le_of_ble_eq_true rfl) rfl rfl ⟨rfl, rfl, rfl⟩ (by decide) rfl ?_
    generalize hT4 : (f_X2_dropRecord cm) = T4
    obtain ⟨rpq4, hfq4, cmq4⟩ := T4
    have k4_cm : zok 4096 cmq4 := zok_X2_dropRecord hc hT4
    have he : (f_X2_tear Wf Yf rp hf dm da cm) = (Wfq3, Yfq3, rpq4, hfq4, dmq3, daq3, cmq4) := by simp only [f_X2_tear, if_neg c_1, hT3, hT4]
    exact hret _ _ _ dX2_tear_26 (by first | rw [he] | rfl)
def f_X2_isCheckRight (F : Nat → Int32) (pl : Int32) (m : Int32) (v : Int32) (x : Int32) : Int32 :=
  if (f_X3_numberLowestFirst F m pl 4) = (f_X4_of F m v (pl + 7) x) then
    1
  else
    0
theorem zbool_X2_isCheckRight (F : Nat → Int32) (pl m v x : Int32) : narrow .boolean (.int (f_X2_isCheckRight F pl m v x)) = .int (f_X2_isCheckRight F pl m v x) := by
  unfold f_X2_isCheckRight
  repeat' split
  all_goals ((try dsimp only); rfl)
set_option maxHeartbeats 4000000 in
set_option maxRecDepth 100000 in
theorem c_X2_isCheckRight (l : Launch) (g : zG) (e b d c dw dy ca br ba : Nat) (Wf : Nat → Int32) (Yf : Nat → Int32) (Cf : Nat → Int32) (F : Nat → Int32) (rp : Int32) (hf : Int32) (pl : Int32) (bg : Int32) (lo : Int32) (fp : Int32) (fb : Int32) (dm : Int32) (da : Int32) (cm : Int32) (z : Int32) (m : Int32) (v : Int32) (x : Int32) (hm : zok 4096 m) : zMI l yX2_isCheckRight wsX2_isCheckRight ({ frames := 2, cells := 0, slots := 0, locals := 47 }) g [.ref e, .int v, .int x] [(e, .inr (2, [.ref b, .ref d, .ref c, .int rp, .int hf, .int pl, .int bg, .int lo, .int fp, .int fb])), (d, .inr (1, [.ref dw, .ref dy, .int dm, .int da])), (dw, .inl (g.2.2.1, 100, .inl Wf)), (dy, .inl (g.2.2.1, 100, .inl Yf)), (c, .inr (3, [.ref ca, .int cm])), (ca, .inl (g.2.1, 4096, .inl Cf)), (b, .inr (0, [.ref br, .int z])), (br, .inr (3, [.ref ba, .int m])), (ba, .inl (g.2.1, 4096, .inl F))] (f_X2_isCheckRight F pl m v x) [(e, .inr (2, [.ref b, .ref d, .ref c, .int rp, .int hf, .int pl, .int bg, .int lo, .int fp, .int fb])), (d, .inr (1, [.ref dw, .ref dy, .int dm, .int da])), (dw, .inl (g.2.2.1, 100, .inl Wf)), (dy, .inl (g.2.2.1, 100, .inl Yf)), (c, .inr (3, [.ref ca, .int cm])), (ca, .inl (g.2.1, 4096, .inl Cf)), (b, .inr (0, [.ref br, .int z])), (br, .inr (3, [.ref ba, .int m])), (ba, .inl (g.2.1, 4096, .inl F))] := by
  refine zMI_of (cc := cX2_isCheckRight) (nL := 4) (ty := .boolean) (by decide) rfl (Nat.le_of_ble_eq_true rfl) (zbool_X2_isCheckRight _ _ _ _ _) ?_
  intro X C hret
  refine z_lv (lv' := [(0, .ref e), (1, .int v), (2, .int x)]) [0, 1, 2] rfl ?_
  refine z_aload_n C dX2_isCheckRight_0 rfl 0 rfl ?_
  refine z_get (ci := 2) (v := .ref b) (Cn := RX2) (T := TX2) (N := 10) C dX2_isCheckRight_1 (fun w h => List.mem_cons_of_mem _ (List.mem_append_left _ (List.mem_append_left _ (List.mem_append_right _ h)))) 0 rfl rfl 0 (by decide) (List.mem_of_getElem? (i := 1) rfl) rfl rfl ?_
  refine z_callVr (n := 0) (isC := [6, 7, 8]) (isR := [0, 1, 2, 3, 4, 5]) (isP := [0, 1, 2, 3, 4, 5, 6, 7, 8]) (As := []) (rest := []) (wr := [(e, .inr (2, [.ref b, .ref d, .ref c, .int rp, .int hf, .int pl, .int bg, .int lo, .int fp, .int fb])), (d, .inr (1, [.ref dw, .ref dy, .int dm, .int da])), (dw, .inl (g.2.2.1, 100, .inl Wf)), (dy, .inl (g.2.2.1, 100, .inl Yf)), (c, .inr (3, [.ref ca, .int cm])), (ca, .inl (g.2.1, 4096, .inl Cf))]) (ws2 := [(e, .inr (2, [.ref b, .ref d, .ref c, .int rp, .int hf, .int pl, .int bg, .int lo, .int fp, .int fb])), (d, .inr (1, [.ref dw, .ref dy, .int dm, .int da])), (dw, .inl (g.2.2.1, 100, .inl Wf)), (dy, .inl (g.2.2.1, 100, .inl Yf)), (c, .inr (3, [.ref ca, .int cm])), (ca, .inl (g.2.1, 4096, .inl Cf)), (b, .inr (0, [.ref br, .int z])), (br, .inr (3, [.ref ba, .int m])), (ba, .inl (g.2.1, 4096, .inl F))]) C dX2_isCheckRight_4 (c_X0_bytes (zl X) g b br ba F z m) gX2_isCheckRight_X0_bytes rfl ⟨rfl, rfl⟩ (by decide +kernel) (by decide) (by decide) rfl rfl rfl rfl (Nat.le_of_ble_eq_true rfl) rfl rfl ⟨rfl, rfl, rfl⟩ (by decide) rfl ?_
  refine z_aload_n C dX2_isCheckRight_7 rfl 0 rfl ?_
  refine z_get (ci := 2) (v := .int pl) (Cn := RX2) (T := TX2) (N := 10) C dX2_isCheckRight_8 (fun w h => List.mem_cons_of_mem _ (List.mem_append_left _ (List.mem_append_left _ (List.mem_append_right _ h)))) 0 rfl rfl 5 (by decide) (List.mem_of_getElem? (i := 2) rfl) rfl rfl ?_
  refine z_iconst (v := 4) C dX2_isCheckRight_11 (by decide) ?_
  refine z_callVi (n := 2) (isC := [7, 8]) (isR := [0, 1, 2, 3, 4, 5, 6]) (isP := [0, 1, 2, 3, 4, 5, 6, 7, 8]) (As := [.int pl, .int 4]) (rest := []) (wr := [(e, .inr (2, [.ref b, .ref d, .ref c, .int rp, .int hf, .int pl, .int bg, .int lo, .int fp, .int fb])), (d, .inr (1, [.ref dw, .ref dy, .int dm, .int da])), (dw, .inl (g.2.2.1, 100, .inl Wf)), (dy, .inl (g.2.2.1, 100, .inl Yf)), (c, .inr (3, [.ref ca, .int cm])), (ca, .inl (g.2.1, 4096, .inl Cf)), (b, .inr (0, [.ref br, .int z]))]) (ws2 := [(e, .inr (2, [.ref b, .ref d, .ref c, .int rp, .int hf, .int pl, .int bg, .int lo, .int fp, .int fb])), (d, .inr (1, [.ref dw, .ref dy, .int dm, .int da])), (dw, .inl (g.2.2.1, 100, .inl Wf)), (dy, .inl (g.2.2.1, 100, .inl Yf)), (c, .inr (3, [.ref ca, .int cm])), (ca, .inl (g.2.1, 4096, .inl Cf)), (b, .inr (0, [.ref br, .int z])), (br, .inr (3, [.ref ba, .int m])), (ba, .inl (g.2.1, 4096, .inl F))]) C dX2_isCheckRight_12 (c_X3_numberLowestFirst (zl X) g br ba 4096 F m pl 4 hm) gX2_isCheckRight_X3_numberLowestFirst rfl ⟨rfl, rfl⟩ (by decide +kernel) (by decide) (by decide) rfl rfl rfl rfl (Nat.le_of_ble_eq_true rfl) rfl rfl ⟨rfl, rfl, rfl⟩ (by decide) rfl ?_
  generalize hT2 : (f_X3_numberLowestFirst F m pl 4) = rq2
  refine z_istore_n (lv' := [(3, .int rq2), (0, .ref e), (1, .int v), (2, .int x)]) C dX2_isCheckRight_15 rfl (by decide) rfl ?_
  refine z_iload_n C dX2_isCheckRight_16 rfl 0 rfl ?_
  refine z_iload_n C dX2_isCheckRight_17 rfl 2 rfl ?_
  refine z_aload_n C dX2_isCheckRight_18 rfl 1 rfl ?_
  refine z_get (ci := 2) (v := .ref b) (Cn := RX2) (T := TX2) (N := 10) C dX2_isCheckRight_19 (fun w h => List.mem_cons_of_mem _ (List.mem_append_left _ (List.mem_append_left _ (List.mem_append_right _ h)))) 0 rfl rfl 0 (by decide) (List.mem_of_getElem? (i := 1) rfl) rfl rfl ?_
  refine z_callVr (n := 0) (isC := [6, 7, 8]) (isR := [0, 1, 2, 3, 4, 5]) (isP := [0, 1, 2, 3, 4, 5, 6, 7, 8]) (As := []) (rest := [.int v, .int rq2]) (wr := [(e, .inr (2, [.ref b, .ref d, .ref c, .int rp, .int hf, .int pl, .int bg, .int lo, .int fp, .int fb])), (d, .inr (1, [.ref dw, .ref dy, .int dm, .int da])), (dw, .inl (g.2.2.1, 100, .inl Wf)), (dy, .inl (g.2.2.1, 100, .inl Yf)), (c, .inr (3, [.ref ca, .int cm])), (ca, .inl (g.2.1, 4096, .inl Cf))]) (ws2 := [(e, .inr (2, [.ref b, .ref d, .ref c, .int rp, .int hf, .int pl, .int bg, .int lo, .int fp, .int fb])), (d, .inr (1, [.ref dw, .ref dy, .int dm, .int da])), (dw, .inl (g.2.2.1, 100, .inl Wf)), (dy, .inl (g.2.2.1, 100, .inl Yf)), (c, .inr (3, [.ref ca, .int cm])), (ca, .inl (g.2.1, 4096, .inl Cf)), (b, .inr (0, [.ref br, .int z])), (br, .inr (3, [.ref ba, .int m])), (ba, .inl (g.2.1, 4096, .inl F))]) C dX2_isCheckRight_22 (c_X0_bytes (zl X) g b br ba F z m) gX2_isCheckRight_X0_bytes rfl ⟨rfl, rfl⟩ (by decide +kernel) (by decide) (by decide) rfl rfl rfl rfl (Nat.le_of_ble_eq_true rfl) rfl rfl ⟨rfl, rfl, rfl⟩ (by decide) rfl ?_
  refine z_aload_n C dX2_isCheckRight_25 rfl 1 rfl ?_
  refine z_get (ci := 2) (v := .int pl) (Cn := RX2) (T := TX2) (N := 10) C dX2_isCheckRight_26 (fun w h => List.mem_cons_of_mem _ (List.mem_append_left _ (List.mem_append_left _ (List.mem_append_right _ h)))) 0 rfl rfl 5 (by decide) (List.mem_of_getElem? (i := 2) rfl) rfl rfl ?_
  refine z_bipush (v := 7) C dX2_isCheckRight_29 (by decide) ?_
  refine z_iadd C dX2_isCheckRight_31 ?_
  refine z_iload_n C dX2_isCheckRight_32 rfl 3 rfl ?_
  refine z_callSi (n := 4) (isC := [7, 8]) (isR := [0, 1, 2, 3, 4, 5, 6]) (isP := [0, 1, 2, 3, 4, 5, 6, 7, 8]) (As := [.int v, .ref br, .int (pl + 7), .int x]) (rest := [.int rq2]) (wr := [(e, .inr (2, [.ref b, .ref d, .ref c, .int rp, .int hf, .int pl, .int bg, .int lo, .int fp, .int fb])), (d, .inr (1, [.ref dw, .ref dy, .int dm, .int da])), (dw, .inl (g.2.2.1, 100, .inl Wf)), (dy, .inl (g.2.2.1, 100, .inl Yf)), (c, .inr (3, [.ref ca, .int cm])), (ca, .inl (g.2.1, 4096, .inl Cf)), (b, .inr (0, [.ref br, .int z]))]) (ws2 := [(e, .inr (2, [.ref b, .ref d, .ref c, .int rp, .int hf, .int pl, .int bg, .int lo, .int fp, .int fb])), (d, .inr (1, [.ref dw, .ref dy, .int dm, .int da])), (dw, .inl (g.2.2.1, 100, .inl Wf)), (dy, .inl (g.2.2.1, 100, .inl Yf)), (c, .inr (3, [.ref ca, .int cm])), (ca, .inl (g.2.1, 4096, .inl Cf)), (b, .inr (0, [.ref br, .int z])), (br, .inr (3, [.ref ba, .int m])), (ba, .inl (g.2.1, 4096, .inl F))]) C dX2_isCheckRight_33 (c_X4_of (zl X) g br ba 4096 F m v (pl + 7) x hm) gX2_isCheckRight_X4_of rfl ⟨rfl, rfl⟩ (by decide +kernel) (by decide) (by decide) rfl rfl (Nat.le_of_ble_eq_true rfl) rfl rfl ⟨rfl, rfl, rfl⟩ (by decide) rfl ?_
  generalize hT4 : (f_X4_of F m v (pl + 7) x) = rq4
  refine z_icmp_ne (tgt := 43) C dX2_isCheckRight_36 (by decide) (fun c_5 => ?_) (fun c_5 => ?_)
  · skip
    refine z_iconst (v := 0) C dX2_isCheckRight_43 (by decide) ?_
    have he : (f_X2_isCheckRight F pl m v x) = 0 := by simp only [f_X2_isCheckRight, hT2, hT4, if_neg c_5]
    exact hret _ _ _ _ dX2_isCheckRight_44 (by first | rw [he] | rfl) (by first | rw [he] | rfl)
  · skip
    refine z_iconst (v := 1) C dX2_isCheckRight_39 (by decide) ?_
    refine z_goto (tgt := 44) C dX2_isCheckRight_40 (by decide) ?_
    have he : (f_X2_isCheckRight F pl m v x) = 1 := by simp only [f_X2_isCheckRight, hT2, hT4, if_pos c_5]
    exact hret _ _ _ _ dX2_isCheckRight_44 (by first | rw [he] | rfl) (by first | rw [he] | rfl)
