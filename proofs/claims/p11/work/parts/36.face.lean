def b_X5_feedFrom (x : Int32) (k : Int32) (z_ : (Nat → Int32) × Int32) : (Nat → Int32) × Int32 :=
  match z_ with
  | (Bf_, bm_) =>
    match (f_X3_add 400 Bf_ bm_ (zUshr x (24 - (8 * k)))) with
    | (Fq3, mq3) =>
      (Fq3, mq3)
def lp_X5_feedFrom (x : Int32) (z_ : (Nat → Int32) × Int32) : Nat → (Nat → Int32) × Int32
  | 0 => z_
  | i + 1 => b_X5_feedFrom x (nI i) (lp_X5_feedFrom x z_ i)
def f_X5_feedFrom (Bf : Nat → Int32) (bm : Int32) (x : Int32) (v : Int32) : (Nat → Int32) × Int32 :=
  match lp_X5_feedFrom x (Bf, bm) (v).toNatClampNeg with
  | (Bf_, bm_) =>
    (Bf_, bm_)
theorem zok_lp_X5_feedFrom {x : Int32} {F : Nat → Int32} {m : Int32} (hm : zok 400 m) : ∀ i, zok 400 (lp_X5_feedFrom x (F, m) i).2 := by
  intro i
  induction i with
  | zero => exact hm
  | succ i ih =>
    show zok 400 (b_X5_feedFrom x (nI i) (lp_X5_feedFrom x (F, m) i)).2
    generalize lp_X5_feedFrom x (F, m) i = T at ih ⊢
    obtain ⟨F1, m1⟩ := T
    exact zok_X3_add ih rfl
theorem zok_X5_feedFrom {F F1 : Nat → Int32} {m x b m1 : Int32} (hm : zok 400 m) (h : f_X5_feedFrom F m x b = (F1, m1)) : zok 400 m1 := by
  have := zok_lp_X5_feedFrom (x := x) (F := F) hm b.toNatClampNeg
  have e : m1 = (lp_X5_feedFrom x (F, m) b.toNatClampNeg).2 := (congrArg Prod.snd h).symm
  rw [e]; exact this
set_option maxHeartbeats 4000000 in
set_option maxRecDepth 100000 in
theorem c_X5_feedFrom (l : Launch) (g : zG) (o h b e ha d c dw dy ca br ba : Nat) (Bf : Nat → Int32) (Wf : Nat → Int32) (Yf : Nat → Int32) (Cf : Nat → Int32) (F : Nat → Int32) (bm : Int32) (rp : Int32) (hf : Int32) (pl : Int32) (bg : Int32) (lo : Int32) (fp : Int32) (fb : Int32) (dm : Int32) (da : Int32) (cm : Int32) (z : Int32) (m : Int32) (x : Int32) (v : Int32) (hg : zok 400 bm) : zMV l yX5_feedFrom wsX5_feedFrom ({ frames := 1, cells := 0, slots := 0, locals := 21 }) g [.ref o, .int x, .int v] [(o, .inr (4, [.ref h, .ref b, .ref e])), (h, .inr (3, [.ref ha, .int bm])), (ha, .inl (g.2.1, 400, .inl Bf)), (e, .inr (2, [.ref b, .ref d, .ref c, .int rp, .int hf, .int pl, .int bg, .int lo, .int fp, .int fb])), (d, .inr (1, [.ref dw, .ref dy, .int dm, .int da])), (dw, .inl (g.2.2.1, 100, .inl Wf)), (dy, .inl (g.2.2.1, 100, .inl Yf)), (c, .inr (3, [.ref ca, .int cm])), (ca, .inl (g.2.1, 4096, .inl Cf)), (b, .inr (0, [.ref br, .int z])), (br, .inr (3, [.ref ba, .int m])), (ba, .inl (g.2.1, 4096, .inl F))] [(o, .inr (4, [.ref h, .ref b, .ref e])), (h, .inr (3, [.ref ha, .int ((f_X5_feedFrom Bf bm x v).2)])), (ha, .inl (g.2.1, 400, .inl ((f_X5_feedFrom Bf bm x v).1))), (e, .inr (2, [.ref b, .ref d, .ref c, .int rp, .int hf, .int pl, .int bg, .int lo, .int fp, .int fb])), (d, .inr (1, [.ref dw, .ref dy, .int dm, .int da])), (dw, .inl (g.2.2.1, 100, .inl Wf)), (dy, .inl (g.2.2.1, 100, .inl Yf)), (c, .inr (3, [.ref ca, .int cm])), (ca, .inl (g.2.1, 4096, .inl Cf)), (b, .inr (0, [.ref br, .int z])), (br, .inr (3, [.ref ba, .int m])), (ba, .inl (g.2.1, 4096, .inl F))] := by
  refine zMV_of (cc := cX5_feedFrom) (nL := 4) (by decide) rfl (Nat.le_of_ble_eq_true rfl) ?_
  intro X C hret
  refine z_lv (lv' := [(0, .ref o), (1, .int x), (2, .int v)]) [0, 1, 2] rfl ?_
  refine z_iconst (v := 0) C dX5_feedFrom_0 (by decide) ?_
  refine z_istore_n (lv' := [(3, .int 0), (0, .ref o), (1, .int x), (2, .int v)]) C dX5_feedFrom_1 rfl (by decide) rfl ?_
  have loop : ∀ (r i : Nat), i + r = (v).toNatClampNeg → ∀ (Bf_ : Nat → Int32) (bm_ : Int32), lp_X5_feedFrom x (Bf, bm) i = (Bf_, bm_) → zok 400 bm_ → zV X g 4 0 0 2 [(0, .ref o), (1, .int x), (2, .int v), (3, .int (nI i))] [] [(o, .inr (4, [.ref h, .ref b, .ref e])), (h, .inr (3, [.ref ha, .int bm_])), (ha, .inl (g.2.1, 400, .inl Bf_)), (e, .inr (2, [.ref b, .ref d, .ref c, .int rp, .int hf, .int pl, .int bg, .int lo, .int fp, .int fb])), (d, .inr (1, [.ref dw, .ref dy, .int dm, .int da])), (dw, .inl (g.2.2.1, 100, .inl Wf)), (dy, .inl (g.2.2.1, 100, .inl Yf)), (c, .inr (3, [.ref ca, .int cm])), (ca, .inl (g.2.1, 4096, .inl Cf)), (b, .inr (0, [.ref br, .int z])), (br, .inr (3, [.ref ba, .int m])), (ba, .inl (g.2.1, 4096, .inl F))] := by
    intro r
    induction r with
    | zero =>
      intro i hi Bf_ bm_ hv hm_
      have hi : i = (v).toNatClampNeg := hi
      refine z_iload_n C dX5_feedFrom_2 rfl 3 rfl ?_
      refine z_iload_n C dX5_feedFrom_3 rfl 2 rfl ?_
      refine z_icmp_ge (tgt := 29) C dX5_feedFrom_4 (by decide) (fun c_1 => ?_) (fun c_1 => absurd (zfor_out hi) c_1)
      have he : (f_X5_feedFrom Bf bm x v) = (Bf_, bm_) := by simp only [f_X5_feedFrom, ← hi, hv]
      exact hret _ _ _ dX5_feedFrom_29 (by first | rw [he] | rfl)
    | succ r ih =>
      intro i hi Bf_ bm_ hv hm_
      refine z_iload_n C dX5_feedFrom_2 rfl 3 rfl ?_
      refine z_iload_n C dX5_feedFrom_3 rfl 2 rfl ?_
      refine z_icmp_ge (tgt := 29) C dX5_feedFrom_4 (by decide) (fun c_2 => absurd c_2 (zfor_in hi)) (fun c_2 => ?_)
      refine z_aload_n C dX5_feedFrom_7 rfl 0 rfl ?_
      refine z_get (ci := 4) (v := .ref h) (Cn := RX5) (T := TX5) (N := 3) C dX5_feedFrom_8 (fun w h => List.mem_cons_of_mem _ (List.mem_append_left _ (List.mem_append_right _ h))) 0 rfl rfl 0 (by decide) (List.mem_of_getElem? (i := 1) rfl) rfl rfl ?_
      refine z_iload_n C dX5_feedFrom_11 rfl 1 rfl ?_
      refine z_bipush (v := 24) C dX5_feedFrom_12 (by decide) ?_
      refine z_bipush (v := 8) C dX5_feedFrom_14 (by decide) ?_
      refine z_iload_n C dX5_feedFrom_16 rfl 3 rfl ?_
      refine z_imul C dX5_feedFrom_17 ?_
      refine z_isub C dX5_feedFrom_18 ?_
      refine z_iushr C dX5_feedFrom_19 ?_
      refine z_callVv (n := 1) (isC := [1, 2]) (isR := [0, 3, 4, 5, 6, 7, 8, 9, 10, 11]) (isP := [0, 10, 11, 1, 2, 3, 4, 5, 6, 7, 8, 9]) (As := [.int (zUshr x (24 - (8 * (nI i))))]) (rest := []) (wr := [(o, .inr (4, [.ref h, .ref b, .ref e])), (e, .inr (2, [.ref b, .ref d, .ref c, .int rp, .int hf, .int pl, .int bg, .int lo, .int fp, .int fb])), (d, .inr (1, [.ref dw, .ref dy, .int dm, .int da])), (dw, .inl (g.2.2.1, 100, .inl Wf)), (dy, .inl (g.2.2.1, 100, .inl Yf)), (c, .inr (3, [.ref ca, .int cm])), (ca, .inl (g.2.1, 4096, .inl Cf)), (b, .inr (0, [.ref br, .int z])), (br, .inr (3, [.ref ba, .int m])), (ba, .inl (g.2.1, 4096, .inl F))]) (ws2 := [(o, .inr (4, [.ref h, .ref b, .ref e])), (h, .inr (3, [.ref ha, .int ((f_X3_add 400 Bf_ bm_ (zUshr x (24 - (8 * (nI i))))).2)])), (ha, .inl (g.2.1, 400, .inl ((f_X3_add 400 Bf_ bm_ (zUshr x (24 - (8 * (nI i))))).1))), (e, .inr (2, [.ref b, .ref d, .ref c, .int rp, .int hf, .int pl, .int bg, .int lo, .int fp, .int fb])), (d, .inr (1, [.ref dw, .ref dy, .int dm, .int da])), (dw, .inl (g.2.2.1, 100, .inl Wf)), (dy, .inl (g.2.2.1, 100, .inl Yf)), (c, .inr (3, [.ref ca, .int cm])), (ca, .inl (g.2.1, 4096, .inl Cf)), (b, .inr (0, [.ref br, .int z])), (br, .inr (3, [.ref ba, .int m])), (ba, .inl (g.2.1, 4096, .inl F))]) C dX5_feedFrom_20 (c_X3_add (zl X) g h ha 400 Bf_ bm_ (zUshr x (24 - (8 * (nI i)))) hm_) gX5_feedFrom_X3_add rfl ⟨rfl, rfl⟩ (by decide +kernel) (by decide) (by decide) rfl rfl rfl rfl (Nat.le_of_ble_eq_true rfl) rfl rfl ⟨rfl, rfl, rfl⟩ (by decide) rfl ?_
      generalize hT3 : (f_X3_add 400 Bf_ bm_ (zUshr x (24 - (8 * (nI i))))) = T3
      obtain ⟨Fq3, mq3⟩ := T3
      have k3_m : zok 400 mq3 := zok_X3_add hm_ hT3
      refine z_iinc (v := (nI (i + 1))) (lv' := [(3, .int (nI (i + 1))), (0, .ref o), (1, .int x), (2, .int v)]) C dX5_feedFrom_23 3 rfl (nI_1 i) (by decide) rfl ?_
      refine z_goto (tgt := 2) C dX5_feedFrom_26 (by decide) ?_
      have hs : lp_X5_feedFrom x (Bf, bm) (i + 1) = (Fq3, mq3) := by
        show b_X5_feedFrom x (nI i) (lp_X5_feedFrom x (Bf, bm) i) = _
        rw [hv]
        simp only [b_X5_feedFrom, hT3]
      exact z_lv [1, 2, 3, 0] rfl (ih (i + 1) (by omega) Fq3 mq3 hs k3_m)
  exact z_lv [1, 2, 3, 0] rfl (loop (v).toNatClampNeg 0 (Nat.zero_add _) Bf bm rfl hg)
def f_X5_erase (bm : Int32) : Int32 × Int32 :=
  (bm, (f_X3_shorten bm 0))
set_option maxHeartbeats 4000000 in
set_option maxRecDepth 100000 in
theorem c_X5_erase (l : Launch) (g : zG) (o h b e ha d c dw dy ca br ba : Nat) (Bf : Nat → Int32) (Wf : Nat → Int32) (Yf : Nat → Int32) (Cf : Nat → Int32) (F : Nat → Int32) (bm : Int32) (rp : Int32) (hf : Int32) (pl : Int32) (bg : Int32) (lo : Int32) (fp : Int32) (fb : Int32) (dm : Int32) (da : Int32) (cm : Int32) (z : Int32) (m : Int32) (hg : zok 400 bm) : zMI l yX5_erase wsX5_erase ({ frames := 1, cells := 0, slots := 0, locals := 21 }) g [.ref o] [(o, .inr (4, [.ref h, .ref b, .ref e])), (h, .inr (3, [.ref ha, .int bm])), (ha, .inl (g.2.1, 400, .inl Bf)), (e, .inr (2, [.ref b, .ref d, .ref c, .int rp, .int hf, .int pl, .int bg, .int lo, .int fp, .int fb])), (d, .inr (1, [.ref dw, .ref dy, .int dm, .int da])), (dw, .inl (g.2.2.1, 100, .inl Wf)), (dy, .inl (g.2.2.1, 100, .inl Yf)), (c, .inr (3, [.ref ca, .int cm])), (ca, .inl (g.2.1, 4096, .inl Cf)), (b, .inr (0, [.ref br, .int z])), (br, .inr (3, [.ref ba, .int m])), (ba, .inl (g.2.1, 4096, .inl F))] ((f_X5_erase bm).1) [(o, .inr (4, [.ref h, .ref b, .ref e])), (h, .inr (3, [.ref ha, .int ((f_X5_erase bm).2)])), (ha, .inl (g.2.1, 400, .inl Bf)), (e, .inr (2, [.ref b, .ref d, .ref c, .int rp, .int hf, .int pl, .int bg, .int lo, .int fp, .int fb])), (d, .inr (1, [.ref dw, .ref dy, .int dm, .int da])), (dw, .inl (g.2.2.1, 100, .inl Wf)), (dy, .inl (g.2.2.1, 100, .inl Yf)), (c, .inr (3, [.ref ca, .int cm])), (ca, .inl (g.2.1, 4096, .inl Cf)), (b, .inr (0, [.ref br, .int z])), (br, .inr (3, [.ref ba, .int m])), (ba, .inl (g.2.1, 4096, .inl F))] := by
  refine zMI_of (cc := cX5_erase) (nL := 2) (ty := .int) (by decide) rfl (Nat.le_of_ble_eq_true rfl) rfl ?_
  intro X C hret
  refine z_lv (lv' := [(0, .ref o)]) [0] rfl ?_
  refine z_aload_n C dX5_erase_0 rfl 0 rfl ?_
  refine z_get (ci := 4) (v := .ref h) (Cn := RX5) (T := TX5) (N := 3) C dX5_erase_1 (fun w h => List.mem_cons_of_mem _ (List.mem_append_left _ (List.mem_append_right _ h))) 0 rfl rfl 0 (by decide) (List.mem_of_getElem? (i := 1) rfl) rfl rfl ?_
  refine z_callVi (n := 0) (isC := [1, 2]) (isR := [0, 3, 4, 5, 6, 7, 8, 9, 10, 11]) (isP := [0, 10, 11, 1, 2, 3, 4, 5, 6, 7, 8, 9]) (As := []) (rest := []) (wr := [(o, .inr (4, [.ref h, .ref b, .ref e])), (e, .inr (2, [.ref b, .ref d, .ref c, .int rp, .int hf, .int pl, .int bg, .int lo, .int fp, .int fb])), (d, .inr (1, [.ref dw, .ref dy, .int dm, .int da])), (dw, .inl (g.2.2.1, 100, .inl Wf)), (dy, .inl (g.2.2.1, 100, .inl Yf)), (c, .inr (3, [.ref ca, .int cm])), (ca, .inl (g.2.1, 4096, .inl Cf)), (b, .inr (0, [.ref br, .int z])), (br, .inr (3, [.ref ba, .int m])), (ba, .inl (g.2.1, 4096, .inl F))]) (ws2 := [(o, .inr (4, [.ref h, .ref b, .ref e])), (h, .inr (3, [.ref ha, .int bm])), (ha, .inl (g.2.1, 400, .inl Bf)), (e, .inr (2, [.ref b, .ref d, .ref c, .int rp, .int hf, .int pl, .int bg, .int lo, .int fp, .int fb])), (d, .inr (1, [.ref dw, .ref dy, .int dm, .int da])), (dw, .inl (g.2.2.1, 100, .inl Wf)), (dy, .inl (g.2.2.1, 100, .inl Yf)), (c, .inr (3, [.ref ca, .int cm])), (ca, .inl (g.2.1, 4096, .inl Cf)), (b, .inr (0, [.ref br, .int z])), (br, .inr (3, [.ref ba, .int m])), (ba, .inl (g.2.1, 4096, .inl F))]) C dX5_erase_4 (c_X3_many (zl X) g h ha 400 Bf bm) gX5_erase_X3_many rfl ⟨rfl, rfl⟩ (by decide +kernel) (by decide) (by decide) rfl rfl rfl rfl (Nat.le_of_ble_eq_true rfl) rfl rfl ⟨rfl, rfl, rfl⟩ (by decide) rfl ?_
  refine z_istore_n (lv' := [(1, .int bm), (0, .ref o)]) C dX5_erase_7 rfl (by decide) rfl ?_
  refine z_aload_n C dX5_erase_8 rfl 1 rfl ?_
  refine z_get (ci := 4) (v := .ref h) (Cn := RX5) (T := TX5) (N := 3) C dX5_erase_9 (fun w h => List.mem_cons_of_mem _ (List.mem_append_left _ (List.mem_append_right _ h))) 0 rfl rfl 0 (by decide) (List.mem_of_getElem? (i := 1) rfl) rfl rfl ?_
  refine z_iconst (v := 0) C dX5_erase_12 (by decide) ?_
  refine z_callVv (n := 1) (isC := [1, 2]) (isR := [0, 3, 4, 5, 6, 7, 8, 9, 10, 11]) (isP := [0, 10, 11, 1, 2, 3, 4, 5, 6, 7, 8, 9]) (As := [.int 0]) (rest := []) (wr := [(o, .inr (4, [.ref h, .ref b, .ref e])), (e, .inr (2, [.ref b, .ref d, .ref c, .int rp, .int hf, .int pl, .int bg, .int lo, .int fp, .int fb])), (d, .inr (1, [.ref dw, .ref dy, .int dm, .int da])), (dw, .inl (g.2.2.1, 100, .inl Wf)), (dy, .inl (g.2.2.1, 100, .inl Yf)), (c, .inr (3, [.ref ca, .int cm])), (ca, .inl (g.2.1, 4096, .inl Cf)), (b, .inr (0, [.ref br, .int z])), (br, .inr (3, [.ref ba, .int m])), (ba, .inl (g.2.1, 4096, .inl F))]) (ws2 := [(o, .inr (4, [.ref h, .ref b, .ref e])), (h, .inr (3, [.ref ha, .int (f_X3_shorten bm 0)])), (ha, .inl (g.2.1, 400, .inl Bf)), (e, .inr (2, [.ref b, .ref d, .ref c, .int rp, .int hf, .int pl, .int bg, .int lo, .int fp, .int fb])), (d, .inr (1, [.ref dw, .ref dy, .int dm, .int da])), (dw, .inl (g.2.2.1, 100, .inl Wf)), (dy, .inl (g.2.2.1, 100, .inl Yf)), (c, .inr (3, [.ref ca, .int cm])), (ca, .inl (g.2.1, 4096, .inl Cf)), (b, .inr (0, [.ref br, .int z])), (br, .inr (3, [.ref ba, .int m])), (ba, .inl (g.2.1, 4096, .inl F))]) C dX5_erase_13 (c_X3_shorten (zl X) g h ha 400 Bf bm 0 hg) gX5_erase_X3_shorten rfl ⟨rfl, rfl⟩ (by decide +kernel) (by decide) (by decide) rfl rfl rfl rfl (Nat.le_of_ble_eq_true rfl) rfl rfl ⟨rfl, rfl, rfl⟩ (by decide) rfl ?_
  generalize hT2 : (f_X3_shorten bm 0) = mq2
  have k2_m : zok 400 mq2 := zok_X3_shorten hg hT2
  refine z_iload_n C dX5_erase_16 rfl 0 rfl ?_
  have he : (f_X5_erase bm) = (bm, mq2) := by simp only [f_X5_erase, hT2]
  exact hret _ _ _ _ dX5_erase_17 (by first | rw [he] | rfl) (by first | rw [he] | rfl)
def f_X5_append (Bf : Nat → Int32) (F : Nat → Int32) (bm : Int32) (z : Int32) (m : Int32) : Int32 × (Nat → Int32) × Int32 :=
  match (f_X0_addRecord F Bf z m bm) with
  | (rq1, Fq1, mq1) =>
    if rq1 = 0 then
      ((-2), Fq1, mq1)
    else
      (mq1, Fq1, mq1)
set_option maxHeartbeats 4000000 in
set_option maxRecDepth 100000 in
theorem c_X5_append (l : Launch) (g : zG) (o h b e ha d c dw dy ca br ba : Nat) (Bf : Nat → Int32) (Wf : Nat → Int32) (Yf : Nat → Int32) (Cf : Nat → Int32) (F : Nat → Int32) (bm : Int32) (rp : Int32) (hf : Int32) (pl : Int32) (bg : Int32) (lo : Int32) (fp : Int32) (fb : Int32) (dm : Int32) (da : Int32) (cm : Int32) (z : Int32) (m : Int32) (hz : zsz z) (hm : zok 4096 m) (hg : zok 400 bm) : zMI l yX5_append wsX5_append ({ frames := 6, cells := 0, slots := 0, locals := 130 }) g [.ref o] [(o, .inr (4, [.ref h, .ref b, .ref e])), (h, .inr (3, [.ref ha, .int bm])), (ha, .inl (g.2.1, 400, .inl Bf)), (e, .inr (2, [.ref b, .ref d, .ref c, .int rp, .int hf, .int pl, .int bg, .int lo, .int fp, .int fb])), (d, .inr (1, [.ref dw, .ref dy, .int dm, .int da])), (dw, .inl (g.2.2.1, 100, .inl Wf)), (dy, .inl (g.2.2.1, 100, .inl Yf)), (c, .inr (3, [.ref ca, .int cm])), (ca, .inl (g.2.1, 4096, .inl Cf)), (b, .inr (0, [.ref br, .int z])), (br, .inr (3, [.ref ba, .int m])), (ba, .inl (g.2.1, 4096, .inl F))] ((f_X5_append Bf F bm z m).1) [(o, .inr (4, [.ref h, .ref b, .ref e])), (h, .inr (3, [.ref ha, .int bm])), (ha, .inl (g.2.1, 400, .inl Bf)), (e, .inr (2, [.ref b, .ref d, .ref c, .int rp, .int hf, .int pl, .int bg, .int lo, .int fp, .int fb])), (d, .inr (1, [.ref dw, .ref dy, .int dm, .int da])), (dw, .inl (g.2.2.1, 100, .inl Wf)), (dy, .inl (g.2.2.1, 100, .inl Yf)), (c, .inr (3, [.ref ca, .int cm])), (ca, .inl (g.2.1, 4096, .inl Cf)), (b, .inr (0, [.ref br, .int z])), (br, .inr (3, [.ref ba, .int ((f_X5_append Bf F bm z m).2.2)])), (ba, .inl (g.2.1, 4096, .inl ((f_X5_append Bf F bm z m).2.1)))] := by
  refine zMI_of (cc := cX5_append) (nL := 1) (ty := .int) (by decide) rfl (Nat.le_of_ble_eq_true rfl) rfl ?_
  intro X C hret
  refine z_lv (lv' := [(0, .ref o)]) [0] rfl ?_
  refine z_aload_n C dX5_append_0 rfl 0 rfl ?_
  refine z_get (ci := 4) (v := .ref b) (Cn := RX5) (T := TX5) (N := 3) C dX5_append_1 (fun w h => List.mem_cons_of_mem _ (List.mem_append_left _ (List.mem_append_left _ (List.mem_append_right _ h)))) 0 rfl rfl 1 (by decide) (List.mem_of_getElem? (i := 1) rfl) rfl rfl ?_
  refine z_aload_n C dX5_append_4 rfl 0 rfl ?_
  refine z_get (ci := 4) (v := .ref h) (Cn := RX5) (T := TX5) (N := 3) C dX5_append_5 (fun w h => List.mem_cons_of_mem _ (List.mem_append_left _ (List.mem_append_left _ (List.mem_append_right _ h)))) 0 rfl rfl 0 (by decide) (List.mem_of_getElem? (i := 2) rfl) rfl rfl ?_
  refine z_callVi (n := 1) (isC := [9, 10, 11, 1, 2]) (isR := [0, 3, 4, 5, 6, 7, 8]) (isP := [0, 10, 11, 1, 2, 3, 4, 5, 6, 7, 8, 9]) (As := [.ref h]) (rest := []) (wr := [(o, .inr (4, [.ref h, .ref b, .ref e])), (e, .inr (2, [.ref b, .ref d, .ref c, .int rp, .int hf, .int pl, .int bg, .int lo, .int fp, .int fb])), (d, .inr (1, [.ref dw, .ref dy, .int dm, .int da])), (dw, .inl (g.2.2.1, 100, .inl Wf)), (dy, .inl (g.2.2.1, 100, .inl Yf)), (c, .inr (3, [.ref ca, .int cm])), (ca, .inl (g.2.1, 4096, .inl Cf))]) (ws2 := [(o, .inr (4, [.ref h, .ref b, .ref e])), (h, .inr (3, [.ref ha, .int bm])), (ha, .inl (g.2.1, 400, .inl Bf)), (e, .inr (2, [.ref b, .ref d, .ref c, .int rp, .int hf, .int pl, .int bg, .int lo, .int fp, .int fb])), (d, .inr (1, [.ref dw, .ref dy, .int dm, .int da])), (dw, .inl (g.2.2.1, 100, .inl Wf)), (dy, .inl (g.2.2.1, 100, .inl Yf)), (c, .inr (3, [.ref ca, .int cm])), (ca, .inl (g.2.1, 4096, .inl Cf)), (b, .inr (0, [.ref br, .int z])), (br, .inr (3, [.ref ba, .int ((f_X0_addRecord F Bf z m bm).2.2)])), (ba, .inl (g.2.1, 4096, .inl ((f_X0_addRecord F Bf z m bm).2.1)))]) C dX5_append_8 (c_X0_addRecord (zl X) g b br ba h ha 400 F Bf z m bm hz hm hg) gX5_append_X0_addRecord rfl ⟨rfl, rfl⟩ (by decide +kernel) (by decide) (by decide) rfl rfl rfl rfl (Nat.le_of_ble_eq_true rfl) rfl rfl ⟨rfl, rfl, rfl⟩ (by decide) rfl ?_
  generalize hT1 : (f_X0_addRecord F Bf z m bm) = T1
  obtain ⟨rq1, Fq1, mq1⟩ := T1
  have k1_m : zok 4096 mq1 := zok_X0_addRecord hz hm hg hT1
  refine z_if_eq (tgt := 27) C dX5_append_11 (by decide) (fun c_2 => ?_) (fun c_2 => ?_)
  · skip
    refine z_bipush (v := (-2)) C dX5_append_27 (by decide) ?_
    have he : (f_X5_append Bf F bm z m) = ((-2), Fq1, mq1) := by simp only [f_X5_append, hT1, if_pos c_2]
    exact hret _ _ _ _ dX5_append_29 (by first | rw [he] | rfl) (by first | rw [he] | rfl)
  · skip
    refine z_aload_n C dX5_append_14 rfl 0 rfl ?_
    refine z_get (ci := 4) (v := .ref b) (Cn := RX5) (T := TX5) (N := 3) C dX5_append_15 (fun w h => List.mem_cons_of_mem _ (List.mem_append_left _ (List.mem_append_left _ (List.mem_append_right _ h)))) 0 rfl rfl 1 (by decide) (List.mem_of_getElem? (i := 1) rfl) rfl rfl ?_
    refine z_callVr (n := 0) (isC := [9, 10, 11]) (isR := [0, 1, 2, 3, 4, 5, 6, 7, 8]) (isP := [0, 1, 2, 3, 4, 5, 6, 7, 8, 9, 10, 11]) (As := []) (rest := []) (wr := [(o, .inr (4, [.ref h, .ref b, .ref e])), (h, .inr (3, [.ref ha, .int bm])), (ha, .inl (g.2.1, 400, .inl Bf)), (e, .inr (2, [.ref b, .ref d, .ref c, .int rp, .int hf, .int pl, .int bg, .int lo, .int fp, .int fb])), (d, .inr (1, [.ref dw, .ref dy, .int dm, .int da])), (dw, .inl (g.2.2.1, 100, .inl Wf)), (dy, .inl (g.2.2.1, 100, .inl Yf)), (c, .inr (3, [.ref ca, .int cm])), (ca, .inl (g.2.1, 4096, .inl Cf))]) (ws2 := [(o, .inr (4, [.ref h, .ref b, .ref e])), (h, .inr (3, [.ref ha, .int bm])), (ha, .inl (g.2.1, 400, .inl Bf)), (e, .inr (2, [.ref b, .ref d, .ref c, .int rp, .int hf, .int pl, .int bg, .int lo, .int fp, .int fb])), (d, .inr (1, [.ref dw, .ref dy, .int dm, .int da])), (dw, .inl (g.2.2.1, 100, .inl Wf)), (dy, .inl (g.2.2.1, 100, .inl Yf)), (c, .inr (3, [.ref ca, .int cm])), (ca, .inl (g.2.1, 4096, .inl Cf)), (b, .inr (0, [.ref br, .int z])), (br, .inr (3, [.ref ba, .int mq1])), (ba, .inl (g.2.1, 4096, .inl Fq1))]) C dX5_append_18 (c_X0_bytes (zl X) g b br ba Fq1 z mq1) gX5_append_X0_bytes rfl ⟨rfl, rfl⟩ (by decide +kernel) (by decide) (by decide) rfl rfl rfl rfl (Nat.le_of_ble_eq_true rfl) rfl rfl ⟨rfl, rfl, rfl⟩ (by decide) rfl ?_
    refine z_callVi (n := 0) (isC := [10, 11]) (isR := [0, 1, 2, 3, 4, 5, 6, 7, 8, 9]) (isP := [0, 1, 2, 3, 4, 5, 6, 7, 8, 9, 10, 11]) (As := []) (rest := []) (wr := [(o, .inr (4, [.ref h, .ref b, .ref e])), (h, .inr (3, [.ref ha, .int bm])), (ha, .inl (g.2.1, 400, .inl Bf)), (e, .inr (2, [.ref b, .ref d, .ref c, .int rp, .int hf, .int pl, .int bg, .int lo, .int fp, .int fb])), (d, .inr (1, [.ref dw, .ref dy, .int dm, .int da])), (dw, .inl (g.2.2.1, 100, .inl Wf)), (dy, .inl (g.2.2.1, 100, .inl Yf)), (c, .inr (3, [.ref ca, .int cm])), (ca, .inl (g.2.1, 4096, .inl Cf)), (b, .inr (0, [.ref br, .int z]))]) (ws2 := [(o, .inr (4, [.ref h, .ref b, .ref e])), (h, .inr (3, [.ref ha, .int bm])), (ha, .inl (g.2.1, 400, .inl Bf)), (e, .inr (2, [.ref b, .ref d, .ref c, .int rp, .int hf, .int pl, .int bg, .int lo, .int fp, .int fb])), (d, .inr (1, [.ref dw, .ref dy, .int dm, .int da])), (dw, .inl (g.2.2.1, 100, .inl Wf)), (dy, .inl (g.2.2.1, 100, .inl Yf)), (c, .inr (3, [.ref ca, .int cm])), (ca, .inl (g.2.1, 4096, .inl Cf)), (b, .inr (0, [.ref br, .int z])), (br, .inr (3, [.ref ba, .int mq1])), (ba, .inl (g.2.1, 4096, .inl Fq1))]) C dX5_append_21 (c_X3_many (zl X) g br ba 4096 Fq1 mq1) gX5_append_X3_many rfl ⟨rfl, rfl⟩ (by decide +kernel) (by decide) (by decide) rfl rfl rfl rfl (Nat.le_of_ble_eq_true rfl) rfl rfl ⟨rfl, rfl, rfl⟩ (by decide) rfl ?_
    refine z_goto (tgt := 29) C dX5_append_24 (by decide) ?_
    have he : (f_X5_append Bf F bm z m) = (mq1, Fq1, mq1) := by simp only [f_X5_append, hT1, if_neg c_2]
    exact hret _ _ _ _ dX5_append_29 (by first | rw [he] | rfl) (by first | rw [he] | rfl)
def f_X5_read (Wf : Nat → Int32) (Yf : Nat → Int32) (Cf : Nat → Int32) (F : Nat → Int32) (pl : Int32) (bg : Int32) (lo : Int32) (fp : Int32) (fb : Int32) (dm : Int32) (da : Int32) (cm : Int32) (z : Int32) (m : Int32) : Int32 × (Nat → Int32) × (Nat → Int32) × (Nat → Int32) × Int32 × Int32 × Int32 × Int32 × Int32 × Int32 × Int32 × Int32 × Int32 :=
  match (f_X2_findRecord Wf Yf Cf F pl bg lo fp fb dm da cm z m) with
  | (rq1, Wfq1, Yfq1, Cfq1, rpq1, hfq1, plq1, loq1, fpq1, fbq1, dmq1, daq1, cmq1) =>
    if rq1 = 0 then
      ((-1), Wfq1, Yfq1, Cfq1, rpq1, hfq1, plq1, loq1, fpq1, fbq1, dmq1, daq1, cmq1)
    else
      (cmq1, Wfq1, Yfq1, Cfq1, rpq1, hfq1, plq1, loq1, fpq1, fbq1, dmq1, daq1, cmq1)
set_option maxHeartbeats 4000000 in
set_option maxRecDepth 100000 in
theorem c_X5_read (l : Launch) (g : zG) (o h b e ha d c dw dy ca br ba : Nat) (Bf : Nat → Int32) (Wf : Nat → Int32) (Yf : Nat → Int32) (Cf : Nat → Int32) (F : Nat → Int32) (bm : Int32) (rp : Int32) (hf : Int32) (pl : Int32) (bg : Int32) (lo : Int32) (fp : Int32) (fb : Int32) (dm : Int32) (da : Int32) (cm : Int32) (z : Int32) (m : Int32) (hz : zsz z) (hm : zok 4096 m) (hd : zdok 8196 dm) (hc : zok 4096 cm) : zMI l yX5_read wsX5_read ({ frames := 6, cells := 0, slots := 0, locals := 128 }) g [.ref o] [(o, .inr (4, [.ref h, .ref b, .ref e])), (h, .inr (3, [.ref ha, .int bm])), (ha, .inl (g.2.1, 400, .inl Bf)), (e, .inr (2, [.ref b, .ref d, .ref c, .int rp, .int hf, .int pl, .int bg, .int lo, .int fp, .int fb])), (d, .inr (1, [.ref dw, .ref dy, .int dm, .int da])), (dw, .inl (g.2.2.1, 100, .inl Wf)), (dy, .inl (g.2.2.1, 100, .inl Yf)), (c, .inr (3, [.ref ca, .int cm])), (ca, .inl (g.2.1, 4096, .inl Cf)), (b, .inr (0, [.ref br, .int z])), (br, .inr (3, [.ref ba, .int m])), (ba, .inl (g.2.1, 4096, .inl F))] ((f_X5_read Wf Yf Cf F pl bg lo fp fb dm da cm z m).1) [(o, .inr (4, [.ref h, .ref b, .ref e])), (h, .inr (3, [.ref ha, .int bm])), (ha, .inl (g.2.1, 400, .inl Bf)), (e, .inr (2, [.ref b, .ref d, .ref c, .int ((f_X5_read Wf Yf Cf F pl bg lo fp fb dm da cm z m).2.2.2.2.1), .int ((f_X5_read Wf Yf Cf F pl bg lo fp fb dm da cm z m).2.2.2.2.2.1), .int ((f_X5_read Wf Yf Cf F pl bg lo fp fb dm da cm z m).2.2.2.2.2.2.1), .int bg, .int ((f_X5_read Wf Yf Cf F pl bg lo fp fb dm da cm z m).2.2.2.2.2.2.2.1), .int ((f_X5_read Wf Yf Cf F pl bg lo fp fb dm da cm z m).2.2.2.2.2.2.2.2.1), .int ((f_X5_read Wf Yf Cf F pl bg lo fp fb dm da cm z m).2.2.2.2.2.2.2.2.2.1)])), (d, .inr (1, [.ref dw, .ref dy, .int ((f_X5_read Wf Yf Cf F pl bg lo fp fb dm da cm z m).2.2.2.2.2.2.2.2.2.2.1), .int ((f_X5_read Wf Yf Cf F pl bg lo fp fb dm da cm z m).2.2.2.2.2.2.2.2.2.2.2.1)])), (dw, .inl (g.2.2.1, 100, .inl ((f_X5_read Wf Yf Cf F pl bg lo fp fb dm da cm z m).2.1))), (dy, .inl (g.2.2.1, 100, .inl ((f_X5_read Wf Yf Cf F pl bg lo fp fb dm da cm z m).2.2.1))), (c, .inr (3, [.ref ca, .int ((f_X5_read Wf Yf Cf F pl bg lo fp fb dm da cm z m).2.2.2.2.2.2.2.2.2.2.2.2)])), (ca, .inl (g.2.1, 4096, .inl ((f_X5_read Wf Yf Cf F pl bg lo fp fb dm da cm z m).2.2.2.1))), (b, .inr (0, [.ref br, .int z])), (br, .inr (3, [.ref ba, .int m])), (ba, .inl (g.2.1, 4096, .inl F))] := by
  refine zMI_of (cc := cX5_read) (nL := 1) (ty := .int) (by decide) rfl (Nat.le_of_ble_eq_true rfl) rfl ?_
  intro X C hret
  refine z_lv (lv' := [(0, .ref o)]) [0] rfl ?_
  refine z_aload_n C dX5_read_0 rfl 0 rfl ?_
  refine z_get (ci := 4) (v := .ref e) (Cn := RX5) (T := TX5) (N := 3) C dX5_read_1 (fun w h => List.mem_cons_of_mem _ (List.mem_append_left _ (List.mem_append_left _ (List.mem_append_left _ (List.mem_append_left _ (List.mem_append_right _ h)))))) 0 rfl rfl 2 (by decide) (List.mem_of_getElem? (i := 1) rfl) rfl rfl ?_
  refine z_callVi (n := 0) (isC := [3, 4, 5, 6, 7, 8, 9, 10, 11]) (isR := [0, 1, 2]) (isP := [0, 1, 2, 3, 4, 5, 6, 7, 8, 9, 10, 11]) (As := []) (rest := []) (wr := [(o, .inr (4, [.ref h, .ref b, .ref e])), (h, .inr (3, [.ref ha, .int bm])), (ha, .inl (g.2.1, 400, .inl Bf))]) (ws2 := [(o, .inr (4, [.ref h, .ref b, .ref e])), (h, .inr (3, [.ref ha, .int bm])), (ha, .inl (g.2.1, 400, .inl Bf)), (e, .inr (2, [.ref b, .ref d, .ref c, .int ((f_X2_findRecord Wf Yf Cf F pl bg lo fp fb dm da cm z m).2.2.2.2.1), .int ((f_X2_findRecord Wf Yf Cf F pl bg lo fp fb dm da cm z m).2.2.2.2.2.1), .int ((f_X2_findRecord Wf Yf Cf F pl bg lo fp fb dm da cm z m).2.2.2.2.2.2.1), .int bg, .int ((f_X2_findRecord Wf Yf Cf F pl bg lo fp fb dm da cm z m).2.2.2.2.2.2.2.1), .int ((f_X2_findRecord Wf Yf Cf F pl bg lo fp fb dm da cm z m).2.2.2.2.2.2.2.2.1), .int ((f_X2_findRecord Wf Yf Cf F pl bg lo fp fb dm da cm z m).2.2.2.2.2.2.2.2.2.1)])), (d, .inr (1, [.ref dw, .ref dy, .int ((f_X2_findRecord Wf Yf Cf F pl bg lo fp fb dm da cm z m).2.2.2.2.2.2.2.2.2.2.1), .int ((f_X2_findRecord Wf Yf Cf F pl bg lo fp fb dm da cm z m).2.2.2.2.2.2.2.2.2.2.2.1)])), (dw, .inl (g.2.2.1, 100, .inl ((f_X2_findRecord Wf Yf Cf F pl bg lo fp fb dm da cm z m).2.1))), (dy, .inl (g.2.2.1, 100, .inl ((f_X2_findRecord Wf Yf Cf F pl bg lo fp fb dm da cm z m).2.2.1))), (c, .inr (3, [.ref ca, .int ((f_X2_findRecord Wf Yf Cf F pl bg lo fp fb dm da cm z m).2.2.2.2.2.2.2.2.2.2.2.2)])), (ca, .inl (g.2.1, 4096, .inl ((f_X2_findRecord Wf Yf Cf F pl bg lo fp fb dm da cm z m).2.2.2.1))), (b, .inr (0, [.ref br, .int z])), (br, .inr (3, [.ref ba, .int m])), (ba, .inl (g.2.1, 4096, .inl F))]) C dX5_read_4 (c_X2_findRecord (zl X) g e b d c dw dy ca br ba Wf Yf Cf F rp hf pl bg lo fp fb dm da cm z m hz hm hd hc) gX5_read_X2_findRecord rfl ⟨rfl, rfl⟩ (by decide +kernel) (by decide) (by decide) rfl rfl rfl rfl (Nat.le_of_ble_eq_true rfl) rfl rfl ⟨rfl, rfl, rfl⟩ (by decide) rfl ?_
  generalize hT1 : (f_X2_findRecord Wf Yf Cf F pl bg lo fp fb dm da cm z m) = T1
  obtain ⟨rq1, Wfq1, Yfq1, Cfq1, rpq1, hfq1, plq1, loq1, fpq1, fbq1, dmq1, daq1, cmq1⟩ := T1
  refine z_if_eq (tgt := 23) C dX5_read_7 (by decide) (fun c_2 => ?_) (fun c_2 => ?_)
  · skip
    refine z_iconst (v := (-1)) C dX5_read_23 (by decide) ?_
    have he : (f_X5_read Wf Yf Cf F pl bg lo fp fb dm da cm z m) = ((-1), Wfq1, Yfq1, Cfq1, rpq1, hfq1, plq1, loq1, fpq1, fbq1, dmq1, daq1, cmq1) := by simp only [f_X5_read, hT1, if_pos c_2]
    exact hret _ _ _ _ dX5_read_24 (by first | rw [he] | rfl) (by first | rw [he] | rfl)
  · skip
    refine z_aload_n C dX5_read_10 rfl 0 rfl ?_
    refine z_get (ci := 4) (v := .ref e) (Cn := RX5) (T := TX5) (N := 3) C dX5_read_11 (fun w h => List.mem_cons_of_mem _ (List.mem_append_left _ (List.mem_append_left _ (List.mem_append_left _ (List.mem_append_left _ (List.mem_append_right _ h)))))) 0 rfl rfl 2 (by decide) (List.mem_of_getElem? (i := 1) rfl) rfl rfl ?_
    refine z_callVr (n := 0) (isC := [3, 4, 5, 6, 7, 8, 9, 10, 11]) (isR := [0, 1, 2]) (isP := [0, 1, 2, 3, 4, 5, 6, 7, 8, 9, 10, 11]) (As := []) (rest := []) (wr := [(o, .inr (4, [.ref h, .ref b, .ref e])), (h, .inr (3, [.ref ha, .int bm])), (ha, .inl (g.2.1, 400, .inl Bf))]) (ws2 := [(o, .inr (4, [.ref h, .ref b, .ref e])), (h, .inr (3, [.ref ha, .int bm])), (ha, .inl (g.2.1, 400, .inl Bf)), (e, .inr (2, [.ref b, .ref d, .ref c, .int rpq1, .int hfq1, .int plq1, .int bg, .int loq1, .int fpq1, .int fbq1])), (d, .inr (1, [.ref dw, .ref dy, .int dmq1, .int daq1])), (dw, .inl (g.2.2.1, 100, .inl Wfq1)), (dy, .inl (g.2.2.1, 100, .inl Yfq1)), (c, .inr (3, [.ref ca, .int cmq1])), (ca, .inl (g.2.1, 4096, .inl Cfq1)), (b, .inr (0, [.ref br, .int z])), (br, .inr (3, [.ref ba, .int m])), (ba, .inl (g.2.1, 4096, .inl F))]) C dX5_read_14 (c_X2_record (zl X) g e b d c dw dy ca br ba Wfq1 Yfq1 Cfq1 F rpq1 hfq1 plq1 bg loq1 fpq1 fbq1 dmq1 daq1 cmq1 z m) gX5_read_X2_record rfl ⟨rfl, rfl⟩ (by decide +kernel) (by decide) (by decide) rfl rfl rfl rfl (Nat.le_of_ble_eq_true rfl) rfl rfl ⟨rfl, rfl, rfl⟩ (by decide) rfl ?_
    refine z_callVi (n := 0) (isC := [7, 8]) (isR := [0, 1, 2, 3, 4, 5, 6, 9, 10, 11]) (isP := [0, 1, 2, 3, 4, 5, 6, 10, 11, 7, 8, 9]) (As := []) (rest := []) (wr := [(o, .inr (4, [.ref h, .ref b, .ref e])), (h, .inr (3, [.ref ha, .int bm])), (ha, .inl (g.2.1, 400, .inl Bf)), (e, .inr (2, [.ref b, .ref d, .ref c, .int rpq1, .int hfq1, .int plq1, .int bg, .int loq1, .int fpq1, .int fbq1])), (d, .inr (1, [.ref dw, .ref dy, .int dmq1, .int daq1])), (dw, .inl (g.2.2.1, 100, .inl Wfq1)), (dy, .inl (g.2.2.1, 100, .inl Yfq1)), (b, .inr (0, [.ref br, .int z])), (br, .inr (3, [.ref ba, .int m])), (ba, .inl (g.2.1, 4096, .inl F))]) (ws2 := [(o, .inr (4, [.ref h, .ref b, .ref e])), (h, .inr (3, [.ref ha, .int bm])), (ha, .inl (g.2.1, 400, .inl Bf)), (e, .inr (2, [.ref b, .ref d, .ref c, .int rpq1, .int hfq1, .int plq1, .int bg, .int loq1, .int fpq1, .int fbq1])), (d, .inr (1, [.ref dw, .ref dy, .int dmq1, .int daq1])), (dw, .inl (g.2.2.1, 100, .inl Wfq1)), (dy, .inl (g.2.2.1, 100, .inl Yfq1)), (c, .inr (3, [.ref ca, .int cmq1])), (ca, .inl (g.2.1, 4096, .inl Cfq1)), (b, .inr (0, [.ref br, .int z])), (br, .inr (3, [.ref ba, .int m])), (ba, .inl (g.2.1, 4096, .inl F))]) C dX5_read_17 (c_X3_many (zl X) g c ca 4096 Cfq1 cmq1) gX5_read_X3_many rfl ⟨rfl, rfl⟩ (by decide +kernel) (by decide) (by decide) rfl rfl rfl rfl (Nat.le_of_ble_eq_true rfl) rfl rfl ⟨rfl, rfl, rfl⟩ (by decide) rfl ?_
    refine z_goto (tgt := 24) C dX5_read_20 (by decide) ?_
    have he : (f_X5_read Wf Yf Cf F pl bg lo fp fb dm da cm z m) = (cmq1, Wfq1, Yfq1, Cfq1, rpq1, hfq1, plq1, loq1, fpq1, fbq1, dmq1, daq1, cmq1) := by simp only [f_X5_read, hT1, if_neg c_2]
    exact hret _ _ _ _ dX5_read_24 (by first | rw [he] | rfl) (by first | rw [he] | rfl)
def f_X5_octet (Cf : Nat → Int32) (cm : Int32) (v : Int32) : Int32 :=
  (f_X3_at Cf cm v)
set_option maxHeartbeats 4000000 in
set_option maxRecDepth 100000 in
theorem c_X5_octet (l : Launch) (g : zG) (o h b e ha d c dw dy ca br ba : Nat) (Bf : Nat → Int32) (Wf : Nat → Int32) (Yf : Nat → Int32) (Cf : Nat → Int32) (F : Nat → Int32) (bm : Int32) (rp : Int32) (hf : Int32) (pl : Int32) (bg : Int32) (lo : Int32) (fp : Int32) (fb : Int32) (dm : Int32) (da : Int32) (cm : Int32) (z : Int32) (m : Int32) (v : Int32) (hc : zok 4096 cm) : zMI l yX5_octet wsX5_octet ({ frames := 1, cells := 0, slots := 0, locals := 21 }) g [.ref o, .int v] [(o, .inr (4, [.ref h, .ref b, .ref e])), (h, .inr (3, [.ref ha, .int bm])), (ha, .inl (g.2.1, 400, .inl Bf)), (e, .inr (2, [.ref b, .ref d, .ref c, .int rp, .int hf, .int pl, .int bg, .int lo, .int fp, .int fb])), (d, .inr (1, [.ref dw, .ref dy, .int dm, .int da])), (dw, .inl (g.2.2.1, 100, .inl Wf)), (dy, .inl (g.2.2.1, 100, .inl Yf)), (c, .inr (3, [.ref ca, .int cm])), (ca, .inl (g.2.1, 4096, .inl Cf)), (b, .inr (0, [.ref br, .int z])), (br, .inr (3, [.ref ba, .int m])), (ba, .inl (g.2.1, 4096, .inl F))] (f_X5_octet Cf cm v) [(o, .inr (4, [.ref h, .ref b, .ref e])), (h, .inr (3, [.ref ha, .int bm])), (ha, .inl (g.2.1, 400, .inl Bf)), (e, .inr (2, [.ref b, .ref d, .ref c, .int rp, .int hf, .int pl, .int bg, .int lo, .int fp, .int fb])), (d, .inr (1, [.ref dw, .ref dy, .int dm, .int da])), (dw, .inl (g.2.2.1, 100, .inl Wf)), (dy, .inl (g.2.2.1, 100, .inl Yf)), (c, .inr (3, [.ref ca, .int cm])), (ca, .inl (g.2.1, 4096, .inl Cf)), (b, .inr (0, [.ref br, .int z])), (br, .inr (3, [.ref ba, .int m])), (ba, .inl (g.2.1, 4096, .inl F))] := by
  refine zMI_of (cc := cX5_octet) (nL := 2) (ty := .int) (by decide) rfl (Nat.le_of_ble_eq_true rfl) rfl ?_
  intro X C hret
  refine z_lv (lv' := [(0, .ref o), (1, .int v)]) [0, 1] rfl ?_
  refine z_aload_n C dX5_octet_0 rfl 0 rfl ?_
  refine z_get (ci := 4) (v := .ref e) (Cn := RX5) (T := TX5) (N := 3) C dX5_octet_1 (fun w h => List.mem_cons_of_mem _ (List.mem_append_left _ (List.mem_append_left _ (List.mem_append_right _ h)))) 0 rfl rfl 2 (by decide) (List.mem_of_getElem? (i := 1) rfl) rfl rfl ?_
  refine z_callVr (n := 0) (isC := [3, 4, 5, 6, 7, 8, 9, 10, 11]) (isR := [0, 1, 2]) (isP := [0, 1, 2, 3, 4, 5, 6, 7, 8, 9, 10, 11]) (As := []) (rest := []) (wr := [(o, .inr (4, [.ref h, .ref b, .ref e])), (h, .inr (3, [.ref ha, .int bm])), (ha, .inl (g.2.1, 400, .inl Bf))]) (ws2 := [(o, .inr (4, [.ref h, .ref b, .ref e])), (h, .inr (3, [.ref ha, .int bm])), (ha, .inl (g.2.1, 400, .inl Bf)), (e, .inr (2, [.ref b, .ref d, .ref c, .int rp, .int hf, .int pl, .int bg, .int lo, .int fp, .int fb])), (d, .inr (1, [.ref dw, .ref dy, .int dm, .int da])), (dw, .inl (g.2.2.1, 100, .inl Wf)), (dy, .inl (g.2.2.1, 100, .inl Yf)), (c, .inr (3, [.ref ca, .int cm])), (ca, .inl (g.2.1, 4096, .inl Cf)), (b, .inr (0, [.ref br, .int z])), (br, .inr (3, [.ref ba, .int m])), (ba, .inl (g.2.1, 4096, .inl F))]) C dX5_octet_4 (c_X2_record (zl X) g e b d c dw dy ca br ba Wf Yf Cf F rp hf pl bg lo fp fb dm da cm z m) gX5_octet_X2_record rfl ⟨rfl, rfl⟩ (by decide +kernel) (by decide) (by decide) rfl rfl rfl rfl (Nat.le_of_ble_eq_true rfl) rfl rfl ⟨rfl, rfl, rfl⟩ (by decide) rfl ?_
  refine z_iload_n C dX5_octet_7 rfl 1 rfl ?_
  refine z_callVi (n := 1) (isC := [7, 8]) (isR := [0, 1, 2, 3, 4, 5, 6, 9, 10, 11]) (isP := [0, 1, 2, 3, 4, 5, 6, 10, 11, 7, 8, 9]) (As := [.int v]) (rest := []) (wr := [(o, .inr (4, [.ref h, .ref b, .ref e])), (h, .inr (3, [.ref ha, .int bm])), (ha, .inl (g.2.1, 400, .inl Bf)), (e, .inr (2, [.ref b, .ref d, .ref c, .int rp, .int hf, .int pl, .int bg, .int lo, .int fp, .int fb])), (d, .inr (1, [.ref dw, .ref dy, .int dm, .int da])), (dw, .inl (g.2.2.1, 100, .inl Wf)), (dy, .inl (g.2.2.1, 100, .inl Yf)), (b, .inr (0, [.ref br, .int z])), (br, .inr (3, [.ref ba, .int m])), (ba, .inl (g.2.1, 4096, .inl F))]) (ws2 := [(o, .inr (4, [.ref h, .ref b, .ref e])), (h, .inr (3, [.ref ha, .int bm])), (ha, .inl (g.2.1, 400, .inl Bf)), (e, .inr (2, [.ref b, .ref d, .ref c, .int rp, .int hf, .int pl, .int bg, .int lo, .int fp, .int fb])), (d, .inr (1, [.ref dw, .ref dy, .int dm, .int da])), (dw, .inl (g.2.2.1, 100, .inl Wf)), (dy, .inl (g.2.2.1, 100, .inl Yf)), (c, .inr (3, [.ref ca, .int cm])), (ca, .inl (g.2.1, 4096, .inl Cf)), (b, .inr (0, [.ref br, .int z])), (br, .inr (3, [.ref ba, .int m])), (ba, .inl (g.2.1, 4096, .inl F))]) C dX5_octet_8 (c_X3_at (zl X) g c ca 4096 Cf cm v hc) gX5_octet_X3_at rfl ⟨rfl, rfl⟩ (by decide +kernel) (by decide) (by decide) rfl rfl rfl rfl (Nat.le_of_ble_eq_true rfl) rfl rfl ⟨rfl, rfl, rfl⟩ (by decide) rfl ?_
  generalize hT2 : (f_X3_at Cf cm v) = rq2
  have he : (f_X5_octet Cf cm v) = rq2 := by simp only [f_X5_octet, hT2]
  exact hret _ _ _ _ dX5_octet_11 (by first | rw [he] | rfl) (by first | rw [he] | rfl)
set_option maxHeartbeats 4000000 in
set_option maxRecDepth 100000 in
theorem c_X5_first (l : Launch) (g : zG) (o h b e ha d c dw dy ca br ba : Nat) (Bf : Nat → Int32) (Wf : Nat → Int32) (Yf : Nat → Int32) (Cf : Nat → Int32) (F : Nat → Int32) (bm : Int32) (rp : Int32) (hf : Int32) (pl : Int32) (bg : Int32) (lo : Int32) (fp : Int32) (fb : Int32) (dm : Int32) (da : Int32) (cm : Int32) (z : Int32) (m : Int32) : zMI l yX5_first wsX5_first ({ frames := 1, cells := 0, slots := 0, locals := 20 }) g [.ref o] [(o, .inr (4, [.ref h, .ref b, .ref e])), (h, .inr (3, [.ref ha, .int bm])), (ha, .inl (g.2.1, 400, .inl Bf)), (e, .inr (2, [.ref b, .ref d, .ref c, .int rp, .int hf, .int pl, .int bg, .int lo, .int fp, .int fb])), (d, .inr (1, [.ref dw, .ref dy, .int dm, .int da])), (dw, .inl (g.2.2.1, 100, .inl Wf)), (dy, .inl (g.2.2.1, 100, .inl Yf)), (c, .inr (3, [.ref ca, .int cm])), (ca, .inl (g.2.1, 4096, .inl Cf)), (b, .inr (0, [.ref br, .int z])), (br, .inr (3, [.ref ba, .int m])), (ba, .inl (g.2.1, 4096, .inl F))] rp [(o, .inr (4, [.ref h, .ref b, .ref e])), (h, .inr (3, [.ref ha, .int bm])), (ha, .inl (g.2.1, 400, .inl Bf)), (e, .inr (2, [.ref b, .ref d, .ref c, .int rp, .int hf, .int pl, .int bg, .int lo, .int fp, .int fb])), (d, .inr (1, [.ref dw, .ref dy, .int dm, .int da])), (dw, .inl (g.2.2.1, 100, .inl Wf)), (dy, .inl (g.2.2.1, 100, .inl Yf)), (c, .inr (3, [.ref ca, .int cm])), (ca, .inl (g.2.1, 4096, .inl Cf)), (b, .inr (0, [.ref br, .int z])), (br, .inr (3, [.ref ba, .int m])), (ba, .inl (g.2.1, 4096, .inl F))] := by
  refine zMI_of (cc := cX5_first) (nL := 1) (ty := .int) (by decide) rfl (Nat.le_of_ble_eq_true rfl) rfl ?_
  intro X C hret
  refine z_lv (lv' := [(0, .ref o)]) [0] rfl ?_
  refine z_aload_n C dX5_first_0 rfl 0 rfl ?_
  refine z_get (ci := 4) (v := .ref e) (Cn := RX5) (T := TX5) (N := 3) C dX5_first_1 (fun w h => List.mem_cons_of_mem _ (List.mem_append_left _ (List.mem_append_right _ h))) 0 rfl rfl 2 (by decide) (List.mem_of_getElem? (i := 1) rfl) rfl rfl ?_
  refine z_callVi (n := 0) (isC := [3, 4, 5, 6, 7, 8, 9, 10, 11]) (isR := [0, 1, 2]) (isP := [0, 1, 2, 3, 4, 5, 6, 7, 8, 9, 10, 11]) (As := []) (rest := []) (wr := [(o, .inr (4, [.ref h, .ref b, .ref e])), (h, .inr (3, [.ref ha, .int bm])), (ha, .inl (g.2.1, 400, .inl Bf))]) (ws2 := [(o, .inr (4, [.ref h, .ref b, .ref e])), (h, .inr (3, [.ref ha, .int bm])), (ha, .inl (g.2.1, 400, .inl Bf)), (e, .inr (2, [.ref b, .ref d, .ref c, .int rp, .int hf, .int pl, .int bg, .int lo, .int fp, .int fb])), (d, .inr (1, [.ref dw, .ref dy, .int dm, .int da])), (dw, .inl (g.2.2.1, 100, .inl Wf)), (dy, .inl (g.2.2.1, 100, .inl Yf)), (c, .inr (3, [.ref ca, .int cm])), (ca, .inl (g.2.1, 4096, .inl Cf)), (b, .inr (0, [.ref br, .int z])), (br, .inr (3, [.ref ba, .int m])), (ba, .inl (g.2.1, 4096, .inl F))]) C dX5_first_4 (c_X2_recordPlace (zl X) g e b d c dw dy ca br ba Wf Yf Cf F rp hf pl bg lo fp fb dm da cm z m) gX5_first_X2_recordPlace rfl ⟨rfl, rfl⟩ (by decide +kernel) (by decide) (by decide) rfl rfl rfl rfl (Nat.le_of_ble_eq_true rfl) rfl rfl ⟨rfl, rfl, rfl⟩ (by decide) rfl ?_
  exact hret _ _ _ _ dX5_first_7 rfl rfl
def f_X5_log (F : Nat → Int32) (m : Int32) (v : Int32) : Int32 :=
  (f_X3_at F m v)
set_option maxHeartbeats 4000000 in
set_option maxRecDepth 100000 in
theorem c_X5_log (l : Launch) (g : zG) (o h b e ha d c dw dy ca br ba : Nat) (Bf : Nat → Int32) (Wf : Nat → Int32) (Yf : Nat → Int32) (Cf : Nat → Int32) (F : Nat → Int32) (bm : Int32) (rp : Int32) (hf : Int32) (pl : Int32) (bg : Int32) (lo : Int32) (fp : Int32) (fb : Int32) (dm : Int32) (da : Int32) (cm : Int32) (z : Int32) (m : Int32) (v : Int32) (hm : zok 4096 m) : zMI l yX5_log wsX5_log ({ frames := 1, cells := 0, slots := 0, locals := 21 }) g [.ref o, .int v] [(o, .inr (4, [.ref h, .ref b, .ref e])), (h, .inr (3, [.ref ha, .int bm])), (ha, .inl (g.2.1, 400, .inl Bf)), (e, .inr (2, [.ref b, .ref d, .ref c, .int rp, .int hf, .int pl, .int bg, .int lo, .int fp, .int fb])), (d, .inr (1, [.ref dw, .ref dy, .int dm, .int da])), (dw, .inl (g.2.2.1, 100, .inl Wf)), (dy, .inl (g.2.2.1, 100, .inl Yf)), (c, .inr (3, [.ref ca, .int cm])), (ca, .inl (g.2.1, 4096, .inl Cf)), (b, .inr (0, [.ref br, .int z])), (br, .inr (3, [.ref ba, .int m])), (ba, .inl (g.2.1, 4096, .inl F))] (f_X5_log F m v) [(o, .inr (4, [.ref h, .ref b, .ref e])), (h, .inr (3, [.ref ha, .int bm])), (ha, .inl (g.2.1, 400, .inl Bf)), (e, .inr (2, [.ref b, .ref d, .ref c, .int rp, .int hf, .int pl, .int bg, .int lo, .int fp, .int fb])), (d, .inr (1, [.ref dw, .ref dy, .int dm, .int da])), (dw, .inl (g.2.2.1, 100, .inl Wf)), (dy, .inl (g.2.2.1, 100, .inl Yf)), (c, .inr (3, [.ref ca, .int cm])), (ca, .inl (g.2.1, 4096, .inl Cf)), (b, .inr (0, [.ref br, .int z])), (br, .inr (3, [.ref ba, .int m])), (ba, .inl (g.2.1, 4096, .inl F))] := by
  refine zMI_of (cc := cX5_log) (nL := 2) (ty := .int) (by decide) rfl (Nat.le_of_ble_eq_true rfl) rfl ?_
  intro X C hret
  refine z_lv (lv' := [(0, .ref o), (1, .int v)]) [0, 1] rfl ?_
  refine z_aload_n C dX5_log_0 rfl 0 rfl ?_
  refine z_get (ci := 4) (v := .ref b) (Cn := RX5) (T := TX5) (N := 3) C dX5_log_1 (fun w h => List.mem_cons_of_mem _ (List.mem_append_left _ (List.mem_append_left _ (List.mem_append_right _ h)))) 0 rfl rfl 1 (by decide) (List.mem_of_getElem? (i := 1) rfl) rfl rfl ?_
  refine z_callVr (n := 0) (isC := [9, 10, 11]) (isR := [0, 1, 2, 3, 4, 5, 6, 7, 8]) (isP := [0, 1, 2, 3, 4, 5, 6, 7, 8, 9, 10, 11]) (As := []) (rest := []) (wr := [(o, .inr (4, [.ref h, .ref b, .ref e])), (h, .inr (3, [.ref ha, .int bm])), (ha, .inl (g.2.1, 400, .inl Bf)), (e, .inr (2, [.ref b, .ref d, .ref c, .int rp, .int hf, .int pl, .int bg, .int lo, .int fp, .int fb])), (d, .inr (1, [.ref dw, .ref dy, .int dm, .int da])), (dw, .inl (g.2.2.1, 100, .inl Wf)), (dy, .inl (g.2.2.1, 100, .inl Yf)), (c, .inr (3, [.ref ca, .int cm])), (ca, .inl (g.2.1, 4096, .inl Cf))]) (ws2 := [(o, .inr (4, [.ref h, .ref b, .ref e])), (h, .inr (3, [.ref ha, .int bm])), (ha, .inl (g.2.1, 400, .inl Bf)), (e, .inr (2, [.ref b, .ref d, .ref c, .int rp, .int hf, .int pl, .int bg, .int lo, .int fp, .int fb])), (d, .inr (1, [.ref dw, .ref dy, .int dm, .int da])), (dw, .inl (g.2.2.1, 100, .inl Wf)), (dy, .inl (g.2.2.1, 100, .inl Yf)), (c, .inr (3, [.ref ca, .int cm])), (ca, .inl (g.2.1, 4096, .inl Cf)), (b, .inr (0, [.ref br, .int z])), (br, .inr (3, [.ref ba, .int m])), (ba, .inl (g.2.1, 4096, .inl F))]) C dX5_log_4 (c_X0_bytes (zl X) g b br ba F z m) gX5_log_X0_bytes rfl ⟨rfl, rfl⟩ (by decide +kernel) (by decide) (by decide) rfl rfl rfl rfl (Nat.le_of_ble_eq_true rfl) rfl rfl ⟨rfl, rfl, rfl⟩ (by decide) rfl ?_
  refine z_iload_n C dX5_log_7 rfl 1 rfl ?_
  refine z_callVi (n := 1) (isC := [10, 11]) (isR := [0, 1, 2, 3, 4, 5, 6, 7, 8, 9]) (isP := [0, 1, 2, 3, 4, 5, 6, 7, 8, 9, 10, 11]) (As := [.int v]) (rest := []) (wr := [(o, .inr (4, [.ref h, .ref b, .ref e])), (h, .inr (3, [.ref ha, .int bm])), (ha, .inl (g.2.1, 400, .inl Bf)), (e, .inr (2, [.ref b, .ref d, .ref c, .int rp, .int hf, .int pl, .int bg, .int lo, .int fp, .int fb])), (d, .inr (1, [.ref dw, .ref dy, .int dm, .int da])), (dw, .inl (g.2.2.1, 100, .inl Wf)), (dy, .inl (g.2.2.1, 100, .inl Yf)), (c, .inr (3, [.ref ca, .int cm])), (ca, .inl (g.2.1, 4096, .inl Cf)), (b, .inr (0, [.ref br, .int z]))]) (ws2 := [(o, .inr (4, [.ref h, .ref b, .ref e])), (h, .inr (3, [.ref ha, .int bm])), (ha, .inl (g.2.1, 400, .inl Bf)), (e, .inr (2, [.ref b, .ref d, .ref c, .int rp, .int hf, .int pl, .int bg, .int lo, .int fp, .int fb])), (d, .inr (1, [.ref dw, .ref dy, .int dm, .int da])), (dw, .inl (g.2.2.1, 100, .inl Wf)), (dy, .inl (g.2.2.1, 100, .inl Yf)), (c, .inr (3, [.ref ca, .int cm])), (ca, .inl (g.2.1, 4096, .inl Cf)), (b, .inr (0, [.ref br, .int z])), (br, .inr (3, [.ref ba, .int m])), (ba, .inl (g.2.1, 4096, .inl F))]) C dX5_log_8 (c_X3_at (zl X) g br ba 4096 F m v hm) gX5_log_X3_at rfl ⟨rfl, rfl⟩ (by decide +kernel) (by decide) (by decide) rfl rfl rfl rfl (Nat.le_of_ble_eq_true rfl) rfl rfl ⟨rfl, rfl, rfl⟩ (by decide) rfl ?_
  generalize hT2 : (f_X3_at F m v) = rq2
  have he : (f_X5_log F m v) = rq2 := by simp only [f_X5_log, hT2]
  exact hret _ _ _ _ dX5_log_11 (by first | rw [he] | rfl) (by first | rw [he] | rfl)
def f_X5_isByte (v : Int32) : Int32 :=
  if v < 0 then
    0
  else
    if 255 < v then
      0
    else
      1
theorem zbool_X5_isByte (v : Int32) : narrow .boolean (.int (f_X5_isByte v)) = .int (f_X5_isByte v) := by
  unfold f_X5_isByte
  repeat' split
  all_goals ((try dsimp only); rfl)
set_option maxHeartbeats 4000000 in
set_option maxRecDepth 100000 in
theorem c_X5_isByte (l : Launch) (g : zG) (v : Int32) : zMI l yX5_isByte wsX5_isByte ({ frames := 0, cells := 0, slots := 0, locals := 0 }) g [.int v] [] (f_X5_isByte v) [] := by
  refine zMI_of (cc := cX5_isByte) (nL := 1) (ty := .boolean) (by decide) rfl (Nat.le_of_ble_eq_true rfl) (zbool_X5_isByte _) ?_
  intro X C hret
  refine z_lv (lv' := [(0, .int v)]) [0] rfl ?_
  refine z_iload_n C dX5_isByte_0 rfl 0 rfl ?_
  refine z_if_lt (tgt := 15) C dX5_isByte_1 (by decide) (fun c_1 => ?_) (fun c_1 => ?_)
  · skip
    refine z_iconst (v := 0) C dX5_isByte_15 (by decide) ?_
    have he : (f_X5_isByte v) = 0 := by simp only [f_X5_isByte, if_pos c_1]
    exact hret _ _ _ _ dX5_isByte_16 (by first | rw [he] | rfl) (by first | rw [he] | rfl)
  · skip
    refine z_iload_n C dX5_isByte_4 rfl 0 rfl ?_
    refine z_sipush (v := 255) C dX5_isByte_5 (by decide) ?_
    refine z_icmp_gt (tgt := 15) C dX5_isByte_8 (by decide) (fun c_2 => ?_) (fun c_2 => ?_)
    · skip
      refine z_iconst (v := 0) C dX5_isByte_15 (by decide) ?_
      have he : (f_X5_isByte v) = 0 := by simp only [f_X5_isByte, if_neg c_1, if_pos c_2]
      exact hret _ _ _ _ dX5_isByte_16 (by first | rw [he] | rfl) (by first | rw [he] | rfl)
    · skip
      refine z_iconst (v := 1) C dX5_isByte_11 (by decide) ?_
      refine z_goto (tgt := 16) C dX5_isByte_12 (by decide) ?_
      have he : (f_X5_isByte v) = 1 := by simp only [f_X5_isByte, if_neg c_1, if_neg c_2]
      exact hret _ _ _ _ dX5_isByte_16 (by first | rw [he] | rfl) (by first | rw [he] | rfl)
