set_option maxHeartbeats 4000000 in
set_option maxRecDepth 100000 in
theorem c_X4_withByte (l : Launch) (g : zG) (r : Int32) (v : Int32) : zMI l yX4_withByte wsX4_withByte ({ frames := 0, cells := 0, slots := 0, locals := 0 }) g [.int r, .int v] [] ((zUshr ((zUshr r 4) ^^^ (zRem (((r ^^^ v) &&& 15)).toNatClampNeg)) 4) ^^^ (zRem (((((zUshr r 4) ^^^ (zRem (((r ^^^ v) &&& 15)).toNatClampNeg)) ^^^ (zUshr v 4)) &&& 15)).toNatClampNeg)) [] := by
  refine zMI_of (cc := cX4_withByte) (nL := 3) (ty := .int) (by decide) rfl (Nat.le_of_ble_eq_true rfl) rfl ?_
  intro X C hret
  refine z_lv (lv' := [(0, .int r), (1, .int v)]) [0, 1] rfl ?_
  refine z_iload_n C dX4_withByte_0 rfl 0 rfl ?_
  refine z_iconst (v := 4) C dX4_withByte_1 (by decide) ?_
  refine z_iushr C dX4_withByte_2 ?_
  refine z_rem C dX4_withByte_3 (List.mem_of_getElem? (i := 1) rfl) (fun t1 hrem1 => ?_)
  refine z_iload_n C dX4_withByte_6 rfl 0 rfl ?_
  refine z_iload_n C dX4_withByte_7 rfl 1 rfl ?_
  refine z_ixor C dX4_withByte_8 ?_
  refine z_bipush (v := 15) C dX4_withByte_9 (by decide) ?_
  refine z_iand C dX4_withByte_11 ?_
  refine hrem1 _ _ _ _ _ dX4_withByte_12 (zin15 _) ?_
  refine z_ixor C dX4_withByte_13 ?_
  refine z_istore_n (lv' := [(2, .int ((zUshr r 4) ^^^ (zRem (((r ^^^ v) &&& 15)).toNatClampNeg))), (0, .int r), (1, .int v)]) C dX4_withByte_14 rfl (by decide) rfl ?_
  refine z_iload_n C dX4_withByte_15 rfl 0 rfl ?_
  refine z_iconst (v := 4) C dX4_withByte_16 (by decide) ?_
  refine z_iushr C dX4_withByte_17 ?_
  refine z_rem C dX4_withByte_18 (List.mem_of_getElem? (i := 1) rfl) (fun t2 hrem2 => ?_)
  refine z_iload_n C dX4_withByte_21 rfl 0 rfl ?_
  refine z_iload_n C dX4_withByte_22 rfl 2 rfl ?_
  refine z_iconst (v := 4) C dX4_withByte_23 (by decide) ?_
  refine z_iushr C dX4_withByte_24 ?_
  refine z_ixor C dX4_withByte_25 ?_
  refine z_bipush (v := 15) C dX4_withByte_26 (by decide) ?_
  refine z_iand C dX4_withByte_28 ?_
  refine hrem2 _ _ _ _ _ dX4_withByte_29 (zin15 _) ?_
  refine z_ixor C dX4_withByte_30 ?_
  exact hret _ _ _ _ dX4_withByte_31 rfl rfl
def b_X4_of (F : Nat → Int32) (m : Int32) (x : Int32) (k : Int32) (z_ : Int32) : Int32 :=
  match z_ with
  | w =>
    ((zUshr ((zUshr w 4) ^^^ (zRem (((w ^^^ (f_X3_at F m (x + k))) &&& 15)).toNatClampNeg)) 4) ^^^ (zRem (((((zUshr w 4) ^^^ (zRem (((w ^^^ (f_X3_at F m (x + k))) &&& 15)).toNatClampNeg)) ^^^ (zUshr (f_X3_at F m (x + k)) 4)) &&& 15)).toNatClampNeg))
def lp_X4_of (F : Nat → Int32) (m : Int32) (x : Int32) (z_ : Int32) : Nat → Int32
  | 0 => z_
  | i + 1 => b_X4_of F m x (nI i) (lp_X4_of F m x z_ i)
def f_X4_of (F : Nat → Int32) (m : Int32) (q : Int32) (x : Int32) (b : Int32) : Int32 :=
  (((zUshr ((lp_X4_of F m x ((zUshr ((zUshr (-1) 4) ^^^ (zRem ((((-1) ^^^ q) &&& 15)).toNatClampNeg)) 4) ^^^ (zRem (((((zUshr (-1) 4) ^^^ (zRem ((((-1) ^^^ q) &&& 15)).toNatClampNeg)) ^^^ (zUshr q 4)) &&& 15)).toNatClampNeg)) (b).toNatClampNeg) ^^^ (-1)) 15) ||| (((lp_X4_of F m x ((zUshr ((zUshr (-1) 4) ^^^ (zRem ((((-1) ^^^ q) &&& 15)).toNatClampNeg)) 4) ^^^ (zRem (((((zUshr (-1) 4) ^^^ (zRem ((((-1) ^^^ q) &&& 15)).toNatClampNeg)) ^^^ (zUshr q 4)) &&& 15)).toNatClampNeg)) (b).toNatClampNeg) ^^^ (-1)) <<< ((17 : Int32) &&& 31))) + (-1568478504))
set_option maxHeartbeats 4000000 in
set_option maxRecDepth 100000 in
theorem c_X4_of (l : Launch) (g : zG) (h a : Nat) (N : Nat) (F : Nat → Int32) (m : Int32) (q : Int32) (x : Int32) (b : Int32) (hm : zok N m) : zMI l yX4_of wsX4_of ({ frames := 1, cells := 0, slots := 0, locals := 22 }) g [.int q, .ref h, .int x, .int b] [(h, .inr (3, [.ref a, .int m])), (a, .inl (g.2.1, N, .inl F))] (f_X4_of F m q x b) [(h, .inr (3, [.ref a, .int m])), (a, .inl (g.2.1, N, .inl F))] := by
  refine zMI_of (cc := cX4_of) (nL := 6) (ty := .int) (by decide) rfl (Nat.le_of_ble_eq_true rfl) rfl ?_
  intro X C hret
  refine z_lv (lv' := [(0, .int q), (1, .ref h), (2, .int x), (3, .int b)]) [0, 1, 2, 3] rfl ?_
  refine z_iconst (v := (-1)) C dX4_of_0 (by decide) ?_
  refine z_iload_n C dX4_of_1 rfl 0 rfl ?_
  refine z_callSi (n := 2) (isC := []) (isR := [0, 1]) (isP := [0, 1]) (As := [.int (-1), .int q]) (rest := []) (wr := [(h, .inr (3, [.ref a, .int m])), (a, .inl (g.2.1, N, .inl F))]) (ws2 := [(h, .inr (3, [.ref a, .int m])), (a, .inl (g.2.1, N, .inl F))]) C dX4_of_2 (c_X4_withByte (zl X) g (-1) q) gX4_of_X4_withByte rfl ⟨rfl, rfl⟩ (by decide +kernel) (by decide) (by decide) rfl rfl (Nat.le_of_ble_eq_true rfl) rfl rfl ⟨rfl, rfl, rfl⟩ (by decide) rfl ?_
  refine z_istore (lv' := [(4, .int ((zUshr ((zUshr (-1) 4) ^^^ (zRem ((((-1) ^^^ q) &&& 15)).toNatClampNeg)) 4) ^^^ (zRem (((((zUshr (-1) 4) ^^^ (zRem ((((-1) ^^^ q) &&& 15)).toNatClampNeg)) ^^^ (zUshr q 4)) &&& 15)).toNatClampNeg))), (0, .int q), (1, .ref h), (2, .int x), (3, .int b)]) C dX4_of_5 (by decide) rfl ?_
  refine z_iconst (v := 0) C dX4_of_7 (by decide) ?_
  refine z_istore (lv' := [(5, .int 0), (4, .int ((zUshr ((zUshr (-1) 4) ^^^ (zRem ((((-1) ^^^ q) &&& 15)).toNatClampNeg)) 4) ^^^ (zRem (((((zUshr (-1) 4) ^^^ (zRem ((((-1) ^^^ q) &&& 15)).toNatClampNeg)) ^^^ (zUshr q 4)) &&& 15)).toNatClampNeg))), (0, .int q), (1, .ref h), (2, .int x), (3, .int b)]) C dX4_of_8 (by decide) rfl ?_
  have loop : ∀ (r i : Nat), i + r = (b).toNatClampNeg → ∀ (w : Int32), lp_X4_of F m x ((zUshr ((zUshr (-1) 4) ^^^ (zRem ((((-1) ^^^ q) &&& 15)).toNatClampNeg)) 4) ^^^ (zRem (((((zUshr (-1) 4) ^^^ (zRem ((((-1) ^^^ q) &&& 15)).toNatClampNeg)) ^^^ (zUshr q 4)) &&& 15)).toNatClampNeg)) i = w → zV X g 6 0 0 10 [(0, .int q), (1, .ref h), (2, .int x), (3, .int b), (4, .int w), (5, .int (nI i))] [] [(h, .inr (3, [.ref a, .int m])), (a, .inl (g.2.1, N, .inl F))] := by
    intro r
    induction r with
    | zero =>
      intro i hi w hv 
      have hi : i = (b).toNatClampNeg := hi
      refine z_iload C dX4_of_10 5 rfl ?_
      refine z_iload_n C dX4_of_12 rfl 3 rfl ?_
      refine z_icmp_ge (tgt := 37) C dX4_of_13 (by decide) (fun c_2 => ?_) (fun c_2 => absurd (zfor_out hi) c_2)
      refine z_iload C dX4_of_37 4 rfl ?_
      refine z_iconst (v := (-1)) C dX4_of_39 (by decide) ?_
      refine z_ixor C dX4_of_40 ?_
      refine z_istore (lv' := [(4, .int (w ^^^ (-1))), (0, .int q), (1, .ref h), (2, .int x), (3, .int b), (5, .int (nI i))]) C dX4_of_41 (by decide) rfl ?_
      refine z_iload C dX4_of_43 0 rfl ?_
      refine z_bipush (v := 15) C dX4_of_45 (by decide) ?_
      refine z_iushr C dX4_of_47 ?_
      refine z_iload C dX4_of_48 0 rfl ?_
      refine z_bipush (v := 17) C dX4_of_50 (by decide) ?_
      refine z_ishl C dX4_of_52 ?_
      refine z_ior C dX4_of_53 ?_
      refine z_ldc (v := (-1568478504)) C dX4_of_54 (List.mem_of_getElem? (i := 1) rfl) ?_
      refine z_iadd C dX4_of_56 ?_
      have he : (f_X4_of F m q x b) = (((zUshr (w ^^^ (-1)) 15) ||| ((w ^^^ (-1)) <<< ((17 : Int32) &&& 31))) + (-1568478504)) := by simp only [f_X4_of, ← hi, hv]
      exact hret _ _ _ _ dX4_of_57 (by first | rw [he] | rfl) (by first | rw [he] | rfl)
    | succ r ih =>
      intro i hi w hv 
      refine z_iload C dX4_of_10 5 rfl ?_
      refine z_iload_n C dX4_of_12 rfl 3 rfl ?_
      refine z_icmp_ge (tgt := 37) C dX4_of_13 (by decide) (fun c_3 => absurd c_3 (zfor_in hi)) (fun c_3 => ?_)
      refine z_iload C dX4_of_16 4 rfl ?_
      refine z_aload_n C dX4_of_18 rfl 1 rfl ?_
      refine z_iload_n C dX4_of_19 rfl 2 rfl ?_
      refine z_iload C dX4_of_20 5 rfl ?_
      refine z_iadd C dX4_of_22 ?_
      refine z_callVi (n := 1) (isC := [0, 1]) (isR := []) (isP := [0, 1]) (As := [.int (x + (nI i))]) (rest := [.int w]) (wr := []) (ws2 := [(h, .inr (3, [.ref a, .int m])), (a, .inl (g.2.1, N, .inl F))]) C dX4_of_23 (c_X3_at (zl X) g h a N F m (x + (nI i)) hm) gX4_of_X3_at rfl ⟨rfl, rfl⟩ (by decide +kernel) (by decide) (by decide) rfl rfl rfl rfl (Nat.le_of_ble_eq_true rfl) rfl rfl ⟨rfl, rfl, rfl⟩ (by decide) rfl ?_
      generalize hT4 : (f_X3_at F m (x + (nI i))) = rq4
      refine z_callSi (n := 2) (isC := []) (isR := [0, 1]) (isP := [0, 1]) (As := [.int w, .int rq4]) (rest := []) (wr := [(h, .inr (3, [.ref a, .int m])), (a, .inl (g.2.1, N, .inl F))]) (ws2 := [(h, .inr (3, [.ref a, .int m])), (a, .inl (g.2.1, N, .inl F))]) C dX4_of_26 (c_X4_withByte (zl X) g w rq4) gX4_of_X4_withByte rfl ⟨rfl, rfl⟩ (by decide +kernel) (by decide) (by decide) rfl rfl (Nat.le_of_ble_eq_true rfl) rfl rfl ⟨rfl, rfl, rfl⟩ (by decide) rfl ?_
      refine z_istore (lv' := [(4, .int ((zUshr ((zUshr w 4) ^^^ (zRem (((w ^^^ rq4) &&& 15)).toNatClampNeg)) 4) ^^^ (zRem (((((zUshr w 4) ^^^ (zRem (((w ^^^ rq4) &&& 15)).toNatClampNeg)) ^^^ (zUshr rq4 4)) &&& 15)).toNatClampNeg))), (0, .int q), (1, .ref h), (2, .int x), (3, .int b), (5, .int (nI i))]) C dX4_of_29 (by decide) rfl ?_
      refine z_iinc (v := (nI (i + 1))) (lv' := [(5, .int (nI (i + 1))), (4, .int ((zUshr ((zUshr w 4) ^^^ (zRem (((w ^^^ rq4) &&& 15)).toNatClampNeg)) 4) ^^^ (zRem (((((zUshr w 4) ^^^ (zRem (((w ^^^ rq4) &&& 15)).toNatClampNeg)) ^^^ (zUshr rq4 4)) &&& 15)).toNatClampNeg))), (0, .int q), (1, .ref h), (2, .int x), (3, .int b)]) C dX4_of_31 5 rfl (nI_1 i) (by decide) rfl ?_
      refine z_goto (tgt := 10) C dX4_of_34 (by decide) ?_
      have hs : lp_X4_of F m x ((zUshr ((zUshr (-1) 4) ^^^ (zRem ((((-1) ^^^ q) &&& 15)).toNatClampNeg)) 4) ^^^ (zRem (((((zUshr (-1) 4) ^^^ (zRem ((((-1) ^^^ q) &&& 15)).toNatClampNeg)) ^^^ (zUshr q 4)) &&& 15)).toNatClampNeg)) (i + 1) = ((zUshr ((zUshr w 4) ^^^ (zRem (((w ^^^ rq4) &&& 15)).toNatClampNeg)) 4) ^^^ (zRem (((((zUshr w 4) ^^^ (zRem (((w ^^^ rq4) &&& 15)).toNatClampNeg)) ^^^ (zUshr rq4 4)) &&& 15)).toNatClampNeg)) := by
        show b_X4_of F m x (nI i) (lp_X4_of F m x ((zUshr ((zUshr (-1) 4) ^^^ (zRem ((((-1) ^^^ q) &&& 15)).toNatClampNeg)) 4) ^^^ (zRem (((((zUshr (-1) 4) ^^^ (zRem ((((-1) ^^^ q) &&& 15)).toNatClampNeg)) ^^^ (zUshr q 4)) &&& 15)).toNatClampNeg)) i) = _
        rw [hv]
        simp only [b_X4_of, hT4]
      exact z_lv [2, 3, 4, 5, 1, 0] rfl (ih (i + 1) (by omega) ((zUshr ((zUshr w 4) ^^^ (zRem (((w ^^^ rq4) &&& 15)).toNatClampNeg)) 4) ^^^ (zRem (((((zUshr w 4) ^^^ (zRem (((w ^^^ rq4) &&& 15)).toNatClampNeg)) ^^^ (zUshr rq4 4)) &&& 15)).toNatClampNeg)) hs )
  exact z_lv [2, 3, 4, 5, 1, 0] rfl (loop (b).toNatClampNeg 0 (Nat.zero_add _) ((zUshr ((zUshr (-1) 4) ^^^ (zRem ((((-1) ^^^ q) &&& 15)).toNatClampNeg)) 4) ^^^ (zRem (((((zUshr (-1) 4) ^^^ (zRem ((((-1) ^^^ q) &&& 15)).toNatClampNeg)) ^^^ (zUshr q 4)) &&& 15)).toNatClampNeg)) rfl)
set_option maxHeartbeats 4000000 in
set_option maxRecDepth 100000 in
theorem c_X1_forget (l : Launch) (g : zG) (d dw dy : Nat) (Wf : Nat → Int32) (Yf : Nat → Int32) (dm : Int32) (da : Int32) : zMV l yX1_forget wsX1_forget ({ frames := 0, cells := 0, slots := 0, locals := 0 }) g [.ref d] [(d, .inr (1, [.ref dw, .ref dy, .int dm, .int da])), (dw, .inl (g.2.2.1, 100, .inl Wf)), (dy, .inl (g.2.2.1, 100, .inl Yf))] [(d, .inr (1, [.ref dw, .ref dy, .int 0, .int 0])), (dw, .inl (g.2.2.1, 100, .inl Wf)), (dy, .inl (g.2.2.1, 100, .inl Yf))] := by
  refine zMV_of (cc := cX1_forget) (nL := 1) (by decide) rfl (Nat.le_of_ble_eq_true rfl) ?_
  intro X C hret
  refine z_lv (lv' := [(0, .ref d)]) [0] rfl ?_
  refine z_aload_n C dX1_forget_0 rfl 0 rfl ?_
  refine z_iconst (v := 0) C dX1_forget_1 (by decide) ?_
  refine z_put (ci := 1) (v := .int 0) (ty := .int) (Cn := RX1) (T := TX1) (N := 4) (ws' := [(d, .inr (1, [.ref dw, .ref dy, .int 0, .int da])), (dw, .inl (g.2.2.1, 100, .inl Wf)), (dy, .inl (g.2.2.1, 100, .inl Yf))]) C dX1_forget_2 (fun w h => List.mem_cons_of_mem _ (List.mem_append_right _ h)) tyX1 tyX1_ok nmX1 0 rfl rfl 2 (by decide) (List.mem_of_getElem? (i := 1) rfl) rfl rfl (by decide +kernel) rfl rfl (Nat.le_of_ble_eq_true rfl) rfl ?_
  refine z_aload_n C dX1_forget_5 rfl 0 rfl ?_
  refine z_iconst (v := 0) C dX1_forget_6 (by decide) ?_
  refine z_put (ci := 1) (v := .int 0) (ty := .int) (Cn := RX1) (T := TX1) (N := 4) (ws' := [(d, .inr (1, [.ref dw, .ref dy, .int 0, .int 0])), (dw, .inl (g.2.2.1, 100, .inl Wf)), (dy, .inl (g.2.2.1, 100, .inl Yf))]) C dX1_forget_7 (fun w h => List.mem_cons_of_mem _ (List.mem_append_right _ h)) tyX1 tyX1_ok nmX1 0 rfl rfl 3 (by decide) (List.mem_of_getElem? (i := 2) rfl) rfl rfl (by decide +kernel) rfl rfl (Nat.le_of_ble_eq_true rfl) rfl ?_
  exact hret _ _ _ dX1_forget_10 rfl
def f_X1_tell (Wf : Nat → Int32) (Yf : Nat → Int32) (dm : Int32) (da : Int32) (x : Int32) (v : Int32) : (Nat → Int32) × (Nat → Int32) × Int32 × Int32 :=
  if 100 ≤ dm then
    (Wf, Yf, (dm + 1), (da + v))
  else
    ((upd Wf (dm).toNatClampNeg x), (upd Yf (dm).toNatClampNeg v), (dm + 1), (da + v))
theorem zdok_X1_tell {k : Nat} {Wf Yf W1 Y1 : Nat → Int32} {dm da x v d1 a1 : Int32} (h : zdok (k + 1) dm) (e : f_X1_tell Wf Yf dm da x v = (W1, Y1, d1, a1)) : zdok k d1 := by
  unfold f_X1_tell at e
  split at e <;> (cases e; exact zdok_inc h)
set_option maxHeartbeats 4000000 in
set_option maxRecDepth 100000 in
theorem c_X1_tell (l : Launch) (g : zG) (d dw dy : Nat) (Wf : Nat → Int32) (Yf : Nat → Int32) (dm : Int32) (da : Int32) (x : Int32) (v : Int32) (hd : zdok 1 dm) : zMV l yX1_tell wsX1_tell ({ frames := 0, cells := 0, slots := 0, locals := 0 }) g [.ref d, .int x, .int v] [(d, .inr (1, [.ref dw, .ref dy, .int dm, .int da])), (dw, .inl (g.2.2.1, 100, .inl Wf)), (dy, .inl (g.2.2.1, 100, .inl Yf))] [(d, .inr (1, [.ref dw, .ref dy, .int ((f_X1_tell Wf Yf dm da x v).2.2.1), .int ((f_X1_tell Wf Yf dm da x v).2.2.2)])), (dw, .inl (g.2.2.1, 100, .inl ((f_X1_tell Wf Yf dm da x v).1))), (dy, .inl (g.2.2.1, 100, .inl ((f_X1_tell Wf Yf dm da x v).2.1)))] := by
  refine zMV_of (cc := cX1_tell) (nL := 3) (by decide) rfl (Nat.le_of_ble_eq_true rfl) ?_
  intro X C hret
  refine z_lv (lv' := [(0, .ref d), (1, .int x), (2, .int v)]) [0, 1, 2] rfl ?_
  refine z_aload_n C dX1_tell_0 rfl 0 rfl ?_
  refine z_get (ci := 1) (v := .int dm) (Cn := RX1) (T := TX1) (N := 4) C dX1_tell_1 (fun w h => List.mem_cons_of_mem _ (List.mem_append_right _ h)) 0 rfl rfl 2 (by decide) (List.mem_of_getElem? (i := 1) rfl) rfl rfl ?_
  refine z_bipush (v := 100) C dX1_tell_4 (by decide) ?_
  refine z_icmp_ge (tgt := 29) C dX1_tell_6 (by decide) (fun c_1 => ?_) (fun c_1 => ?_)
  · skip
    refine z_aload_n C dX1_tell_29 rfl 0 rfl ?_
    refine z_dup C dX1_tell_30 rfl ?_
    refine z_get (ci := 1) (v := .int dm) (Cn := RX1) (T := TX1) (N := 4) C dX1_tell_31 (fun w h => List.mem_cons_of_mem _ (List.mem_append_right _ h)) 0 rfl rfl 2 (by decide) (List.mem_of_getElem? (i := 1) rfl) rfl rfl ?_
    refine z_iconst (v := 1) C dX1_tell_34 (by decide) ?_
    refine z_iadd C dX1_tell_35 ?_
    refine z_put (ci := 1) (v := .int (dm + 1)) (ty := .int) (Cn := RX1) (T := TX1) (N := 4) (ws' := [(d, .inr (1, [.ref dw, .ref dy, .int (dm + 1), .int da])), (dw, .inl (g.2.2.1, 100, .inl Wf)), (dy, .inl (g.2.2.1, 100, .inl Yf))]) C dX1_tell_36 (fun w h => List.mem_cons_of_mem _ (List.mem_append_right _ h)) tyX1 tyX1_ok nmX1 0 rfl rfl 2 (by decide) (List.mem_of_getElem? (i := 1) rfl) rfl rfl (by decide +kernel) rfl rfl (Nat.le_of_ble_eq_true rfl) rfl ?_
    refine z_aload_n C dX1_tell_39 rfl 0 rfl ?_
    refine z_dup C dX1_tell_40 rfl ?_
    refine z_get (ci := 1) (v := .int da) (Cn := RX1) (T := TX1) (N := 4) C dX1_tell_41 (fun w h => List.mem_cons_of_mem _ (List.mem_append_right _ h)) 0 rfl rfl 3 (by decide) (List.mem_of_getElem? (i := 4) rfl) rfl rfl ?_
    refine z_iload_n C dX1_tell_44 rfl 2 rfl ?_
    refine z_iadd C dX1_tell_45 ?_
    refine z_put (ci := 1) (v := .int (da + v)) (ty := .int) (Cn := RX1) (T := TX1) (N := 4) (ws' := [(d, .inr (1, [.ref dw, .ref dy, .int (dm + 1), .int (da + v)])), (dw, .inl (g.2.2.1, 100, .inl Wf)), (dy, .inl (g.2.2.1, 100, .inl Yf))]) C dX1_tell_46 (fun w h => List.mem_cons_of_mem _ (List.mem_append_right _ h)) tyX1 tyX1_ok nmX1 0 rfl rfl 3 (by decide) (List.mem_of_getElem? (i := 4) rfl) rfl rfl (by decide +kernel) rfl rfl (Nat.le_of_ble_eq_true rfl) rfl ?_
    have he : (f_X1_tell Wf Yf dm da x v) = (Wf, Yf, (dm + 1), (da + v)) := by simp only [f_X1_tell, if_pos c_1]
    exact hret _ _ _ dX1_tell_49 (by first | rw [he] | rfl)
  · skip
    refine z_aload_n C dX1_tell_9 rfl 0 rfl ?_
    refine z_get (ci := 1) (v := .ref dw) (Cn := RX1) (T := TX1) (N := 4) C dX1_tell_10 (fun w h => List.mem_cons_of_mem _ (List.mem_append_right _ h)) 0 rfl rfl 0 (by decide) (List.mem_of_getElem? (i := 2) rfl) rfl rfl ?_
    refine z_aload_n C dX1_tell_13 rfl 0 rfl ?_
    refine z_get (ci := 1) (v := .int dm) (Cn := RX1) (T := TX1) (N := 4) C dX1_tell_14 (fun w h => List.mem_cons_of_mem _ (List.mem_append_right _ h)) 0 rfl rfl 2 (by decide) (List.mem_of_getElem? (i := 1) rfl) rfl rfl ?_
    refine z_iload_n C dX1_tell_17 rfl 1 rfl ?_
    refine z_iast (ws' := [(d, .inr (1, [.ref dw, .ref dy, .int dm, .int da])), (dw, .inl (g.2.2.1, 100, .inl (upd Wf (dm).toNatClampNeg x))), (dy, .inl (g.2.2.1, 100, .inl Yf))]) C dX1_tell_18 1 rfl (zind c_1 hd) rfl ?_
    refine z_aload_n C dX1_tell_19 rfl 0 rfl ?_
    refine z_get (ci := 1) (v := .ref dy) (Cn := RX1) (T := TX1) (N := 4) C dX1_tell_20 (fun w h => List.mem_cons_of_mem _ (List.mem_append_right _ h)) 0 rfl rfl 1 (by decide) (List.mem_of_getElem? (i := 3) rfl) rfl rfl ?_
    refine z_aload_n C dX1_tell_23 rfl 0 rfl ?_
    refine z_get (ci := 1) (v := .int dm) (Cn := RX1) (T := TX1) (N := 4) C dX1_tell_24 (fun w h => List.mem_cons_of_mem _ (List.mem_append_right _ h)) 0 rfl rfl 2 (by decide) (List.mem_of_getElem? (i := 1) rfl) rfl rfl ?_
    refine z_iload_n C dX1_tell_27 rfl 2 rfl ?_
    refine z_iast (ws' := [(d, .inr (1, [.ref dw, .ref dy, .int dm, .int da])), (dw, .inl (g.2.2.1, 100, .inl (upd Wf (dm).toNatClampNeg x))), (dy, .inl (g.2.2.1, 100, .inl (upd Yf (dm).toNatClampNeg v)))]) C dX1_tell_28 2 rfl (zind c_1 hd) rfl ?_
    refine z_aload_n C dX1_tell_29 rfl 0 rfl ?_
    refine z_dup C dX1_tell_30 rfl ?_
    refine z_get (ci := 1) (v := .int dm) (Cn := RX1) (T := TX1) (N := 4) C dX1_tell_31 (fun w h => List.mem_cons_of_mem _ (List.mem_append_right _ h)) 0 rfl rfl 2 (by decide) (List.mem_of_getElem? (i := 1) rfl) rfl rfl ?_
    refine z_iconst (v := 1) C dX1_tell_34 (by decide) ?_
    refine z_iadd C dX1_tell_35 ?_
    refine z_put (ci := 1) (v := .int (dm + 1)) (ty := .int) (Cn := RX1) (T := TX1) (N := 4) (ws' := [(d, .inr (1, [.ref dw, .ref dy, .int (dm + 1), .int da])), (dw, .inl (g.2.2.1, 100, .inl (upd Wf (dm).toNatClampNeg x))), (dy, .inl (g.2.2.1, 100, .inl (upd Yf (dm).toNatClampNeg v)))]) C dX1_tell_36 (fun w h => List.mem_cons_of_mem _ (List.mem_append_right _ h)) tyX1 tyX1_ok nmX1 0 rfl rfl 2 (by decide) (List.mem_of_getElem? (i := 1) rfl) rfl rfl (by decide +kernel) rfl rfl (Nat.le_of_ble_eq_true rfl) rfl ?_
    refine z_aload_n C dX1_tell_39 rfl 0 rfl ?_
    refine z_dup C dX1_tell_40 rfl ?_
    refine z_get (ci := 1) (v := .int da) (Cn := RX1) (T := TX1) (N := 4) C dX1_tell_41 (fun w h => List.mem_cons_of_mem _ (List.mem_append_right _ h)) 0 rfl rfl 3 (by decide) (List.mem_of_getElem? (i := 4) rfl) rfl rfl ?_
    refine z_iload_n C dX1_tell_44 rfl 2 rfl ?_
    refine z_iadd C dX1_tell_45 ?_
    refine z_put (ci := 1) (v := .int (da + v)) (ty := .int) (Cn := RX1) (T := TX1) (N := 4) (ws' := [(d, .inr (1, [.ref dw, .ref dy, .int (dm + 1), .int (da + v)])), (dw, .inl (g.2.2.1, 100, .inl (upd Wf (dm).toNatClampNeg x))), (dy, .inl (g.2.2.1, 100, .inl (upd Yf (dm).toNatClampNeg v)))]) C dX1_tell_46 (fun w h => List.mem_cons_of_mem _ (List.mem_append_right _ h)) tyX1 tyX1_ok nmX1 0 rfl rfl 3 (by decide) (List.mem_of_getElem? (i := 4) rfl) rfl rfl (by decide +kernel) rfl rfl (Nat.le_of_ble_eq_true rfl) rfl ?_
    have he : (f_X1_tell Wf Yf dm da x v) = ((upd Wf (dm).toNatClampNeg x), (upd Yf (dm).toNatClampNeg v), (dm + 1), (da + v)) := by simp only [f_X1_tell, if_neg c_1]
    exact hret _ _ _ dX1_tell_49 (by first | rw [he] | rfl)
set_option maxHeartbeats 4000000 in
set_option maxRecDepth 100000 in
theorem c_X1_many (l : Launch) (g : zG) (d dw dy : Nat) (Wf : Nat → Int32) (Yf : Nat → Int32) (dm : Int32) (da : Int32) : zMI l yX1_many wsX1_many ({ frames := 0, cells := 0, slots := 0, locals := 0 }) g [.ref d] [(d, .inr (1, [.ref dw, .ref dy, .int dm, .int da])), (dw, .inl (g.2.2.1, 100, .inl Wf)), (dy, .inl (g.2.2.1, 100, .inl Yf))] dm [(d, .inr (1, [.ref dw, .ref dy, .int dm, .int da])), (dw, .inl (g.2.2.1, 100, .inl Wf)), (dy, .inl (g.2.2.1, 100, .inl Yf))] := by
  refine zMI_of (cc := cX1_many) (nL := 1) (ty := .int) (by decide) rfl (Nat.le_of_ble_eq_true rfl) rfl ?_
  intro X C hret
  refine z_lv (lv' := [(0, .ref d)]) [0] rfl ?_
  refine z_aload_n C dX1_many_0 rfl 0 rfl ?_
  refine z_get (ci := 1) (v := .int dm) (Cn := RX1) (T := TX1) (N := 4) C dX1_many_1 (fun w h => List.mem_cons_of_mem _ (List.mem_append_right _ h)) 0 rfl rfl 2 (by decide) (List.mem_of_getElem? (i := 1) rfl) rfl rfl ?_
  exact hret _ _ _ _ dX1_many_4 rfl rfl
set_option maxHeartbeats 4000000 in
set_option maxRecDepth 100000 in
theorem c_X1_allBytes (l : Launch) (g : zG) (d dw dy : Nat) (Wf : Nat → Int32) (Yf : Nat → Int32) (dm : Int32) (da : Int32) : zMI l yX1_allBytes wsX1_allBytes ({ frames := 0, cells := 0, slots := 0, locals := 0 }) g [.ref d] [(d, .inr (1, [.ref dw, .ref dy, .int dm, .int da])), (dw, .inl (g.2.2.1, 100, .inl Wf)), (dy, .inl (g.2.2.1, 100, .inl Yf))] da [(d, .inr (1, [.ref dw, .ref dy, .int dm, .int da])), (dw, .inl (g.2.2.1, 100, .inl Wf)), (dy, .inl (g.2.2.1, 100, .inl Yf))] := by
  refine zMI_of (cc := cX1_allBytes) (nL := 1) (ty := .int) (by decide) rfl (Nat.le_of_ble_eq_true rfl) rfl ?_
  intro X C hret
  refine z_lv (lv' := [(0, .ref d)]) [0] rfl ?_
  refine z_aload_n C dX1_allBytes_0 rfl 0 rfl ?_
  refine z_get (ci := 1) (v := .int da) (Cn := RX1) (T := TX1) (N := 4) C dX1_allBytes_1 (fun w h => List.mem_cons_of_mem _ (List.mem_append_right _ h)) 0 rfl rfl 3 (by decide) (List.mem_of_getElem? (i := 1) rfl) rfl rfl ?_
  exact hret _ _ _ _ dX1_allBytes_4 rfl rfl
def f_X1_isKept (dm : Int32) (v : Int32) : Int32 :=
  if v < 0 then
    0
  else
    if dm ≤ v then
      0
    else
      if 100 ≤ v then
        0
      else
        1
theorem zbool_X1_isKept (dm v : Int32) : narrow .boolean (.int (f_X1_isKept dm v)) = .int (f_X1_isKept dm v) := by
  unfold f_X1_isKept
  repeat' split
  all_goals ((try dsimp only); rfl)
theorem zin_kept {dm v r : Int32} (h : f_X1_isKept dm v = r) (c : ¬ r = 0) : vp_in v 100 := by
  unfold f_X1_isKept at h
  split at h
  · exact absurd h.symm c
  · split at h
    · exact absurd h.symm c
    · split at h
      · exact absurd h.symm c
      · next c1 c2 c3 => exact zin100 c1 c3
set_option maxHeartbeats 4000000 in
set_option maxRecDepth 100000 in
theorem c_X1_isKept (l : Launch) (g : zG) (d dw dy : Nat) (Wf : Nat → Int32) (Yf : Nat → Int32) (dm : Int32) (da : Int32) (v : Int32) : zMI l yX1_isKept wsX1_isKept ({ frames := 0, cells := 0, slots := 0, locals := 0 }) g [.ref d, .int v] [(d, .inr (1, [.ref dw, .ref dy, .int dm, .int da])), (dw, .inl (g.2.2.1, 100, .inl Wf)), (dy, .inl (g.2.2.1, 100, .inl Yf))] (f_X1_isKept dm v) [(d, .inr (1, [.ref dw, .ref dy, .int dm, .int da])), (dw, .inl (g.2.2.1, 100, .inl Wf)), (dy, .inl (g.2.2.1, 100, .inl Yf))] := by
  refine zMI_of (cc := cX1_isKept) (nL := 2) (ty := .boolean) (by decide) rfl (Nat.le_of_ble_eq_true rfl) (zbool_X1_isKept _ _) ?_
  intro X C hret
  refine z_lv (lv' := [(0, .ref d), (1, .int v)]) [0, 1] rfl ?_
  refine z_iload_n C dX1_isKept_0 rfl 1 rfl ?_
  refine z_if_lt (tgt := 22) C dX1_isKept_1 (by decide) (fun c_1 => ?_) (fun c_1 => ?_)
  · skip
    refine z_iconst (v := 0) C dX1_isKept_22 (by decide) ?_
    have he : (f_X1_isKept dm v) = 0 := by simp only [f_X1_isKept, if_pos c_1]
    exact hret _ _ _ _ dX1_isKept_23 (by first | rw [he] | rfl) (by first | rw [he] | rfl)
  · skip
    refine z_iload_n C dX1_isKept_4 rfl 1 rfl ?_
    refine z_aload_n C dX1_isKept_5 rfl 0 rfl ?_
    refine z_get (ci := 1) (v := .int dm) (Cn := RX1) (T := TX1) (N := 4) C dX1_isKept_6 (fun w h => List.mem_cons_of_mem _ (List.mem_append_right _ h)) 0 rfl rfl 2 (by decide) (List.mem_of_getElem? (i := 1) rfl) rfl rfl ?_
    refine z_icmp_ge (tgt := 22) C dX1_isKept_9 (by decide) (fun c_2 => ?_) (fun c_2 => ?_)
    · skip
      refine z_iconst (v := 0) C dX1_isKept_22 (by decide) ?_
      have he : (f_X1_isKept dm v) = 0 := by simp only [f_X1_isKept, if_neg c_1, if_pos c_2]
      exact hret _ _ _ _ dX1_isKept_23 (by first | rw [he] | rfl) (by first | rw [he] | rfl)
    · skip
      refine z_iload_n C dX1_isKept_12 rfl 1 rfl ?_
      refine z_bipush (v := 100) C dX1_isKept_13 (by decide) ?_
      refine z_icmp_ge (tgt := 22) C dX1_isKept_15 (by decide) (fun c_3 => ?_) (fun c_3 => ?_)
      · skip
        refine z_iconst (v := 0) C dX1_isKept_22 (by decide) ?_
        have he : (f_X1_isKept dm v) = 0 := by simp only [f_X1_isKept, if_neg c_1, if_neg c_2, if_pos c_3]
        exact hret _ _ _ _ dX1_isKept_23 (by first | rw [he] | rfl) (by first | rw [he] | rfl)
      · skip
        refine z_iconst (v := 1) C dX1_isKept_18 (by decide) ?_
        refine z_goto (tgt := 23) C dX1_isKept_19 (by decide) ?_
        have he : (f_X1_isKept dm v) = 1 := by simp only [f_X1_isKept, if_neg c_1, if_neg c_2, if_neg c_3]
        exact hret _ _ _ _ dX1_isKept_23 (by first | rw [he] | rfl) (by first | rw [he] | rfl)
def f_X1_whichAt (Wf : Nat → Int32) (dm : Int32) (v : Int32) : Int32 :=
  if (f_X1_isKept dm v) = 0 then
    (-1)
  else
    (Wf (v).toNatClampNeg)
set_option maxHeartbeats 4000000 in
set_option maxRecDepth 100000 in
theorem c_X1_whichAt (l : Launch) (g : zG) (d dw dy : Nat) (Wf : Nat → Int32) (Yf : Nat → Int32) (dm : Int32) (da : Int32) (v : Int32) : zMI l yX1_whichAt wsX1_whichAt ({ frames := 1, cells := 0, slots := 0, locals := 21 }) g [.ref d, .int v] [(d, .inr (1, [.ref dw, .ref dy, .int dm, .int da])), (dw, .inl (g.2.2.1, 100, .inl Wf)), (dy, .inl (g.2.2.1, 100, .inl Yf))] (f_X1_whichAt Wf dm v) [(d, .inr (1, [.ref dw, .ref dy, .int dm, .int da])), (dw, .inl (g.2.2.1, 100, .inl Wf)), (dy, .inl (g.2.2.1, 100, .inl Yf))] := by
  refine zMI_of (cc := cX1_whichAt) (nL := 2) (ty := .int) (by decide) rfl (Nat.le_of_ble_eq_true rfl) rfl ?_
  intro X C hret
  refine z_lv (lv' := [(0, .ref d), (1, .int v)]) [0, 1] rfl ?_
  refine z_aload_n C dX1_whichAt_0 rfl 0 rfl ?_
  refine z_iload_n C dX1_whichAt_1 rfl 1 rfl ?_
  refine z_callVi (n := 1) (isC := [0, 1, 2]) (isR := []) (isP := [0, 1, 2]) (As := [.int v]) (rest := []) (wr := []) (ws2 := [(d, .inr (1, [.ref dw, .ref dy, .int dm, .int da])), (dw, .inl (g.2.2.1, 100, .inl Wf)), (dy, .inl (g.2.2.1, 100, .inl Yf))]) C dX1_whichAt_2 (c_X1_isKept (zl X) g d dw dy Wf Yf dm da v) gX1_whichAt_X1_isKept rfl ⟨rfl, rfl⟩ (by decide +kernel) (by decide) (by decide) rfl rfl rfl rfl (Nat.le_of_ble_eq_true rfl) rfl rfl ⟨rfl, rfl, rfl⟩ (by decide) rfl ?_
  generalize hT1 : (f_X1_isKept dm v) = rq1
  refine z_if_eq (tgt := 17) C dX1_whichAt_5 (by decide) (fun c_2 => ?_) (fun c_2 => ?_)
  · skip
    refine z_iconst (v := (-1)) C dX1_whichAt_17 (by decide) ?_
    have he : (f_X1_whichAt Wf dm v) = (-1) := by simp only [f_X1_whichAt, hT1, if_pos c_2]
    exact hret _ _ _ _ dX1_whichAt_18 (by first | rw [he] | rfl) (by first | rw [he] | rfl)
  · skip
    refine z_aload_n C dX1_whichAt_8 rfl 0 rfl ?_
    refine z_get (ci := 1) (v := .ref dw) (Cn := RX1) (T := TX1) (N := 4) C dX1_whichAt_9 (fun w h => List.mem_cons_of_mem _ (List.mem_append_right _ h)) 0 rfl rfl 0 (by decide) (List.mem_of_getElem? (i := 1) rfl) rfl rfl ?_
    refine z_iload_n C dX1_whichAt_12 rfl 1 rfl ?_
    refine z_iald C dX1_whichAt_13 1 rfl (zin_kept hT1 c_2) ?_
    refine z_goto (tgt := 18) C dX1_whichAt_14 (by decide) ?_
    have he : (f_X1_whichAt Wf dm v) = (Wf (v).toNatClampNeg) := by simp only [f_X1_whichAt, hT1, if_neg c_2]
    exact hret _ _ _ _ dX1_whichAt_18 (by first | rw [he] | rfl) (by first | rw [he] | rfl)
def f_X1_bytesAt (Yf : Nat → Int32) (dm : Int32) (v : Int32) : Int32 :=
  if (f_X1_isKept dm v) = 0 then
    (-1)
  else
    (Yf (v).toNatClampNeg)
set_option maxHeartbeats 4000000 in
set_option maxRecDepth 100000 in
theorem c_X1_bytesAt (l : Launch) (g : zG) (d dw dy : Nat) (Wf : Nat → Int32) (Yf : Nat → Int32) (dm : Int32) (da : Int32) (v : Int32) : zMI l yX1_bytesAt wsX1_bytesAt ({ frames := 1, cells := 0, slots := 0, locals := 21 }) g [.ref d, .int v] [(d, .inr (1, [.ref dw, .ref dy, .int dm, .int da])), (dw, .inl (g.2.2.1, 100, .inl Wf)), (dy, .inl (g.2.2.1, 100, .inl Yf))] (f_X1_bytesAt Yf dm v) [(d, .inr (1, [.ref dw, .ref dy, .int dm, .int da])), (dw, .inl (g.2.2.1, 100, .inl Wf)), (dy, .inl (g.2.2.1, 100, .inl Yf))] := by
  refine zMI_of (cc := cX1_bytesAt) (nL := 2) (ty := .int) (by decide) rfl (Nat.le_of_ble_eq_true rfl) rfl ?_
  intro X C hret
  refine z_lv (lv' := [(0, .ref d), (1, .int v)]) [0, 1] rfl ?_
  refine z_aload_n C dX1_bytesAt_0 rfl 0 rfl ?_
  refine z_iload_n C dX1_bytesAt_1 rfl 1 rfl ?_
  refine z_callVi (n := 1) (isC := [0, 1, 2]) (isR := []) (isP := [0, 1, 2]) (As := [.int v]) (rest := []) (wr := []) (ws2 := [(d, .inr (1, [.ref dw, .ref dy, .int dm, .int da])), (dw, .inl (g.2.2.1, 100, .inl Wf)), (dy, .inl (g.2.2.1, 100, .inl Yf))]) C dX1_bytesAt_2 (c_X1_isKept (zl X) g d dw dy Wf Yf dm da v) gX1_bytesAt_X1_isKept rfl ⟨rfl, rfl⟩ (by decide +kernel) (by decide) (by decide) rfl rfl rfl rfl (Nat.le_of_ble_eq_true rfl) rfl rfl ⟨rfl, rfl, rfl⟩ (by decide) rfl ?_
  generalize hT1 : (f_X1_isKept dm v) = rq1
  refine z_if_eq (tgt := 17) C dX1_bytesAt_5 (by decide) (fun c_2 => ?_) (fun c_2 => ?_)
  · skip
    refine z_iconst (v := (-1)) C dX1_bytesAt_17 (by decide) ?_
    have he : (f_X1_bytesAt Yf dm v) = (-1) := by simp only [f_X1_bytesAt, hT1, if_pos c_2]
    exact hret _ _ _ _ dX1_bytesAt_18 (by first | rw [he] | rfl) (by first | rw [he] | rfl)
  · skip
    refine z_aload_n C dX1_bytesAt_8 rfl 0 rfl ?_
    refine z_get (ci := 1) (v := .ref dy) (Cn := RX1) (T := TX1) (N := 4) C dX1_bytesAt_9 (fun w h => List.mem_cons_of_mem _ (List.mem_append_right _ h)) 0 rfl rfl 1 (by decide) (List.mem_of_getElem? (i := 1) rfl) rfl rfl ?_
    refine z_iload_n C dX1_bytesAt_12 rfl 1 rfl ?_
    refine z_iald C dX1_bytesAt_13 2 rfl (zin_kept hT1 c_2) ?_
    refine z_goto (tgt := 18) C dX1_bytesAt_14 (by decide) ?_
    have he : (f_X1_bytesAt Yf dm v) = (Yf (v).toNatClampNeg) := by simp only [f_X1_bytesAt, hT1, if_neg c_2]
    exact hret _ _ _ _ dX1_bytesAt_18 (by first | rw [he] | rfl) (by first | rw [he] | rfl)
set_option maxHeartbeats 4000000 in
set_option maxRecDepth 100000 in
theorem c_X0_bytes (l : Launch) (g : zG) (b br ba : Nat) (F : Nat → Int32) (z : Int32) (m : Int32) : zMR l yX0_bytes wsX0_bytes ({ frames := 0, cells := 0, slots := 0, locals := 0 }) g [.ref b] [(b, .inr (0, [.ref br, .int z])), (br, .inr (3, [.ref ba, .int m])), (ba, .inl (g.2.1, 4096, .inl F))] br [(b, .inr (0, [.ref br, .int z])), (br, .inr (3, [.ref ba, .int m])), (ba, .inl (g.2.1, 4096, .inl F))] := by
  refine zMR_of (cc := cX0_bytes) (nL := 1) (ty := (.object "FragmentLog$Row")) (by decide) rfl (Nat.le_of_ble_eq_true rfl) (Or.inl ⟨_, rfl⟩) ?_
  intro X C hret
  refine z_lv (lv' := [(0, .ref b)]) [0] rfl ?_
  refine z_aload_n C dX0_bytes_0 rfl 0 rfl ?_
  refine z_get (ci := 0) (v := .ref br) (Cn := RX0) (T := TX0) (N := 2) C dX0_bytes_1 (fun w h => List.mem_cons_of_mem _ (List.mem_append_right _ h)) 0 rfl rfl 0 (by decide) (List.mem_of_getElem? (i := 1) rfl) rfl rfl ?_
  exact hret _ _ _ _ dX0_bytes_4 rfl rfl
def f_X0_startAnew (m : Int32) (v : Int32) : Int32 × Int32 :=
  (v, (f_X3_shorten m 0))
set_option maxHeartbeats 4000000 in
set_option maxRecDepth 100000 in
theorem c_X0_startAnew (l : Launch) (g : zG) (b br ba : Nat) (F : Nat → Int32) (z : Int32) (m : Int32) (v : Int32) (hm : zok 4096 m) : zMV l yX0_startAnew wsX0_startAnew ({ frames := 1, cells := 0, slots := 0, locals := 21 }) g [.ref b, .int v] [(b, .inr (0, [.ref br, .int z])), (br, .inr (3, [.ref ba, .int m])), (ba, .inl (g.2.1, 4096, .inl F))] [(b, .inr (0, [.ref br, .int ((f_X0_startAnew m v).1)])), (br, .inr (3, [.ref ba, .int ((f_X0_startAnew m v).2)])), (ba, .inl (g.2.1, 4096, .inl F))] := by
  refine zMV_of (cc := cX0_startAnew) (nL := 2) (by decide) rfl (Nat.le_of_ble_eq_true rfl) ?_
  intro X C hret
  refine z_lv (lv' := [(0, .ref b), (1, .int v)]) [0, 1] rfl ?_
  refine z_aload_n C dX0_startAnew_0 rfl 0 rfl ?_
  refine z_get (ci := 0) (v := .ref br) (Cn := RX0) (T := TX0) (N := 2) C dX0_startAnew_1 (fun w h => List.mem_cons_of_mem _ (List.mem_append_left _ (List.mem_append_right _ h))) 0 rfl rfl 0 (by decide) (List.mem_of_getElem? (i := 1) rfl) rfl rfl ?_
  refine z_iconst (v := 0) C dX0_startAnew_4 (by decide) ?_
  refine z_callVv (n := 1) (isC := [1, 2]) (isR := [0]) (isP := [0, 1, 2]) (As := [.int 0]) (rest := []) (wr := [(b, .inr (0, [.ref br, .int z]))]) (ws2 := [(b, .inr (0, [.ref br, .int z])), (br, .inr (3, [.ref ba, .int (f_X3_shorten m 0)])), (ba, .inl (g.2.1, 4096, .inl F))]) C dX0_startAnew_5 (c_X3_shorten (zl X) g br ba 4096 F m 0 hm) gX0_startAnew_X3_shorten rfl ⟨rfl, rfl⟩ (by decide +kernel) (by decide) (by decide) rfl rfl rfl rfl (Nat.le_of_ble_eq_true rfl) rfl rfl ⟨rfl, rfl, rfl⟩ (by decide) rfl ?_
  generalize hT1 : (f_X3_shorten m 0) = mq1
  have k1_m : zok 4096 mq1 := zok_X3_shorten hm hT1
  refine z_aload_n C dX0_startAnew_8 rfl 0 rfl ?_
  refine z_iload_n C dX0_startAnew_9 rfl 1 rfl ?_
  refine z_put (ci := 0) (v := .int v) (ty := .int) (Cn := RX0) (T := TX0) (N := 2) (ws' := [(b, .inr (0, [.ref br, .int v])), (br, .inr (3, [.ref ba, .int mq1])), (ba, .inl (g.2.1, 4096, .inl F))]) C dX0_startAnew_10 (fun w h => List.mem_cons_of_mem _ (List.mem_append_left _ (List.mem_append_right _ h))) tyX0 tyX0_ok nmX0 0 rfl rfl 1 (by decide) (List.mem_of_getElem? (i := 2) rfl) rfl rfl (by decide +kernel) rfl rfl (Nat.le_of_ble_eq_true rfl) rfl ?_
  have he : (f_X0_startAnew m v) = (v, mq1) := by simp only [f_X0_startAnew, hT1]
  exact hret _ _ _ dX0_startAnew_13 (by first | rw [he] | rfl)
set_option maxHeartbeats 4000000 in
set_option maxRecDepth 100000 in
theorem c_X0_startOfBlock (l : Launch) (g : zG) (b br ba : Nat) (F : Nat → Int32) (z : Int32) (m : Int32) (v : Int32) (hz : zsz z) : zMI l yX0_startOfBlock wsX0_startOfBlock ({ frames := 0, cells := 0, slots := 0, locals := 0 }) g [.ref b, .int v] [(b, .inr (0, [.ref br, .int z])), (br, .inr (3, [.ref ba, .int m])), (ba, .inl (g.2.1, 4096, .inl F))] (v - (zMod v z)) [(b, .inr (0, [.ref br, .int z])), (br, .inr (3, [.ref ba, .int m])), (ba, .inl (g.2.1, 4096, .inl F))] := by
  refine zMI_of (cc := cX0_startOfBlock) (nL := 2) (ty := .int) (by decide) rfl (Nat.le_of_ble_eq_true rfl) rfl ?_
  intro X C hret
  refine z_lv (lv' := [(0, .ref b), (1, .int v)]) [0, 1] rfl ?_
  refine z_iload_n C dX0_startOfBlock_0 rfl 1 rfl ?_
  refine z_iload_n C dX0_startOfBlock_1 rfl 1 rfl ?_
  refine z_aload_n C dX0_startOfBlock_2 rfl 0 rfl ?_
  refine z_get (ci := 0) (v := .int z) (Cn := RX0) (T := TX0) (N := 2) C dX0_startOfBlock_3 (fun w h => List.mem_cons_of_mem _ (List.mem_append_right _ h)) 0 rfl rfl 1 (by decide) (List.mem_of_getElem? (i := 1) rfl) rfl rfl ?_
  refine z_irem C dX0_startOfBlock_6 (zsz_ne hz) ?_
  refine z_isub C dX0_startOfBlock_7 ?_
  exact hret _ _ _ _ dX0_startOfBlock_8 rfl rfl
set_option maxHeartbeats 4000000 in
set_option maxRecDepth 100000 in
theorem c_X0_endOfBlock (l : Launch) (g : zG) (b br ba : Nat) (F : Nat → Int32) (z : Int32) (m : Int32) (v : Int32) (hz : zsz z) : zMI l yX0_endOfBlock wsX0_endOfBlock ({ frames := 1, cells := 0, slots := 0, locals := 21 }) g [.ref b, .int v] [(b, .inr (0, [.ref br, .int z])), (br, .inr (3, [.ref ba, .int m])), (ba, .inl (g.2.1, 4096, .inl F))] ((v - (zMod v z)) + z) [(b, .inr (0, [.ref br, .int z])), (br, .inr (3, [.ref ba, .int m])), (ba, .inl (g.2.1, 4096, .inl F))] := by
  refine zMI_of (cc := cX0_endOfBlock) (nL := 2) (ty := .int) (by decide) rfl (Nat.le_of_ble_eq_true rfl) rfl ?_
  intro X C hret
  refine z_lv (lv' := [(0, .ref b), (1, .int v)]) [0, 1] rfl ?_
  refine z_aload_n C dX0_endOfBlock_0 rfl 0 rfl ?_
  refine z_iload_n C dX0_endOfBlock_1 rfl 1 rfl ?_
  refine z_callVi (n := 1) (isC := [0, 1, 2]) (isR := []) (isP := [0, 1, 2]) (As := [.int v]) (rest := []) (wr := []) (ws2 := [(b, .inr (0, [.ref br, .int z])), (br, .inr (3, [.ref ba, .int m])), (ba, .inl (g.2.1, 4096, .inl F))]) C dX0_endOfBlock_2 (c_X0_startOfBlock (zl X) g b br ba F z m v hz) gX0_endOfBlock_X0_startOfBlock rfl ⟨rfl, rfl⟩ (by decide +kernel) (by decide) (by decide) rfl rfl rfl rfl (Nat.le_of_ble_eq_true rfl) rfl rfl ⟨rfl, rfl, rfl⟩ (by decide) rfl ?_
  refine z_aload_n C dX0_endOfBlock_5 rfl 0 rfl ?_
  refine z_get (ci := 0) (v := .int z) (Cn := RX0) (T := TX0) (N := 2) C dX0_endOfBlock_6 (fun w h => List.mem_cons_of_mem _ (List.mem_append_right _ h)) 0 rfl rfl 1 (by decide) (List.mem_of_getElem? (i := 1) rfl) rfl rfl ?_
  refine z_iadd C dX0_endOfBlock_9 ?_
  exact hret _ _ _ _ dX0_endOfBlock_10 rfl rfl
def f_X0_isWhole (z : Int32) (m : Int32) (v : Int32) : Int32 :=
  if m < ((v - (zMod v z)) + z) then
    0
  else
    1
theorem zbool_X0_isWhole (m z v : Int32) : narrow .boolean (.int (f_X0_isWhole m z v)) = .int (f_X0_isWhole m z v) := by
  unfold f_X0_isWhole
  repeat' split
  all_goals ((try dsimp only); rfl)
set_option maxHeartbeats 4000000 in
set_option maxRecDepth 100000 in
theorem c_X0_isWhole (l : Launch) (g : zG) (b br ba : Nat) (F : Nat → Int32) (z : Int32) (m : Int32) (v : Int32) (hz : zsz z) : zMI l yX0_isWhole wsX0_isWhole ({ frames := 2, cells := 0, slots := 0, locals := 42 }) g [.ref b, .int v] [(b, .inr (0, [.ref br, .int z])), (br, .inr (3, [.ref ba, .int m])), (ba, .inl (g.2.1, 4096, .inl F))] (f_X0_isWhole z m v) [(b, .inr (0, [.ref br, .int z])), (br, .inr (3, [.ref ba, .int m])), (ba, .inl (g.2.1, 4096, .inl F))] := by
  refine zMI_of (cc := cX0_isWhole) (nL := 2) (ty := .boolean) (by decide) rfl (Nat.le_of_ble_eq_true rfl) (zbool_X0_isWhole _ _ _) ?_
  intro X C hret
  refine z_lv (lv' := [(0, .ref b), (1, .int v)]) [0, 1] rfl ?_
  refine z_aload_n C dX0_isWhole_0 rfl 0 rfl ?_
  refine z_iload_n C dX0_isWhole_1 rfl 1 rfl ?_
  refine z_callVi (n := 1) (isC := [0, 1, 2]) (isR := []) (isP := [0, 1, 2]) (As := [.int v]) (rest := []) (wr := []) (ws2 := [(b, .inr (0, [.ref br, .int z])), (br, .inr (3, [.ref ba, .int m])), (ba, .inl (g.2.1, 4096, .inl F))]) C dX0_isWhole_2 (c_X0_endOfBlock (zl X) g b br ba F z m v hz) gX0_isWhole_X0_endOfBlock rfl ⟨rfl, rfl⟩ (by decide +kernel) (by decide) (by decide) rfl rfl rfl rfl (Nat.le_of_ble_eq_true rfl) rfl rfl ⟨rfl, rfl, rfl⟩ (by decide) rfl ?_
  refine z_aload_n C dX0_isWhole_5 rfl 0 rfl ?_
  refine z_get (ci := 0) (v := .ref br) (Cn := RX0) (T := TX0) (N := 2) C dX0_isWhole_6 (fun w h => List.mem_cons_of_mem _ (List.mem_append_left _ (List.mem_append_right _ h))) 0 rfl rfl 0 (by decide) (List.mem_of_getElem? (i := 1) rfl) rfl rfl ?_
  refine z_callVi (n := 0) (isC := [1, 2]) (isR := [0]) (isP := [0, 1, 2]) (As := []) (rest := [.int ((v - (zMod v z)) + z)]) (wr := [(b, .inr (0, [.ref br, .int z]))]) (ws2 := [(b, .inr (0, [.ref br, .int z])), (br, .inr (3, [.ref ba, .int m])), (ba, .inl (g.2.1, 4096, .inl F))]) C dX0_isWhole_9 (c_X3_many (zl X) g br ba 4096 F m) gX0_isWhole_X3_many rfl ⟨rfl, rfl⟩ (by decide +kernel) (by decide) (by decide) rfl rfl rfl rfl (Nat.le_of_ble_eq_true rfl) rfl rfl ⟨rfl, rfl, rfl⟩ (by decide) rfl ?_
  refine z_icmp_gt (tgt := 19) C dX0_isWhole_12 (by decide) (fun c_3 => ?_) (fun c_3 => ?_)
  · skip
    refine z_iconst (v := 0) C dX0_isWhole_19 (by decide) ?_
    have he : (f_X0_isWhole z m v) = 0 := by simp only [f_X0_isWhole, if_pos c_3]
    exact hret _ _ _ _ dX0_isWhole_20 (by first | rw [he] | rfl) (by first | rw [he] | rfl)
  · skip
    refine z_iconst (v := 1) C dX0_isWhole_15 (by decide) ?_
    refine z_goto (tgt := 20) C dX0_isWhole_16 (by decide) ?_
    have he : (f_X0_isWhole z m v) = 1 := by simp only [f_X0_isWhole, if_neg c_3]
    exact hret _ _ _ _ dX0_isWhole_20 (by first | rw [he] | rfl) (by first | rw [he] | rfl)
set_option maxHeartbeats 4000000 in
set_option maxRecDepth 100000 in
theorem c_X0_leftInBlock (l : Launch) (g : zG) (b br ba : Nat) (F : Nat → Int32) (z : Int32) (m : Int32) (v : Int32) (hz : zsz z) : zMI l yX0_leftInBlock wsX0_leftInBlock ({ frames := 2, cells := 0, slots := 0, locals := 42 }) g [.ref b, .int v] [(b, .inr (0, [.ref br, .int z])), (br, .inr (3, [.ref ba, .int m])), (ba, .inl (g.2.1, 4096, .inl F))] ((zMin ((v - (zMod v z)) + z) m) - v) [(b, .inr (0, [.ref br, .int z])), (br, .inr (3, [.ref ba, .int m])), (ba, .inl (g.2.1, 4096, .inl F))] := by
  refine zMI_of (cc := cX0_leftInBlock) (nL := 2) (ty := .int) (by decide) rfl (Nat.le_of_ble_eq_true rfl) rfl ?_
  intro X C hret
  refine z_lv (lv' := [(0, .ref b), (1, .int v)]) [0, 1] rfl ?_
  refine z_aload_n C dX0_leftInBlock_0 rfl 0 rfl ?_
  refine z_iload_n C dX0_leftInBlock_1 rfl 1 rfl ?_
  refine z_callVi (n := 1) (isC := [0, 1, 2]) (isR := []) (isP := [0, 1, 2]) (As := [.int v]) (rest := []) (wr := []) (ws2 := [(b, .inr (0, [.ref br, .int z])), (br, .inr (3, [.ref ba, .int m])), (ba, .inl (g.2.1, 4096, .inl F))]) C dX0_leftInBlock_2 (c_X0_endOfBlock (zl X) g b br ba F z m v hz) gX0_leftInBlock_X0_endOfBlock rfl ⟨rfl, rfl⟩ (by decide +kernel) (by decide) (by decide) rfl rfl rfl rfl (Nat.le_of_ble_eq_true rfl) rfl rfl ⟨rfl, rfl, rfl⟩ (by decide) rfl ?_
  refine z_aload_n C dX0_leftInBlock_5 rfl 0 rfl ?_
  refine z_get (ci := 0) (v := .ref br) (Cn := RX0) (T := TX0) (N := 2) C dX0_leftInBlock_6 (fun w h => List.mem_cons_of_mem _ (List.mem_append_left _ (List.mem_append_right _ h))) 0 rfl rfl 0 (by decide) (List.mem_of_getElem? (i := 1) rfl) rfl rfl ?_
  refine z_callVi (n := 0) (isC := [1, 2]) (isR := [0]) (isP := [0, 1, 2]) (As := []) (rest := [.int ((v - (zMod v z)) + z)]) (wr := [(b, .inr (0, [.ref br, .int z]))]) (ws2 := [(b, .inr (0, [.ref br, .int z])), (br, .inr (3, [.ref ba, .int m])), (ba, .inl (g.2.1, 4096, .inl F))]) C dX0_leftInBlock_9 (c_X3_many (zl X) g br ba 4096 F m) gX0_leftInBlock_X3_many rfl ⟨rfl, rfl⟩ (by decide +kernel) (by decide) (by decide) rfl rfl rfl rfl (Nat.le_of_ble_eq_true rfl) rfl rfl ⟨rfl, rfl, rfl⟩ (by decide) rfl ?_
  refine z_min C dX0_leftInBlock_12 (List.mem_of_getElem? (i := 2) rfl) (List.mem_of_getElem? (i := 3) rfl) (List.mem_of_getElem? (i := 4) rfl) (List.mem_of_getElem? (i := 5) rfl) (by decide) (Nat.le_of_ble_eq_true rfl) (by decide) (by decide) ?_
  refine z_iload_n C dX0_leftInBlock_15 rfl 1 rfl ?_
  refine z_isub C dX0_leftInBlock_16 ?_
  exact hret _ _ _ _ dX0_leftInBlock_17 rfl rfl
set_option maxHeartbeats 4000000 in
set_option maxRecDepth 100000 in
theorem c_X0_roomInBlock (l : Launch) (g : zG) (b br ba : Nat) (F : Nat → Int32) (z : Int32) (m : Int32) (hz : zsz z) : zMI l yX0_roomInBlock wsX0_roomInBlock ({ frames := 2, cells := 0, slots := 0, locals := 42 }) g [.ref b] [(b, .inr (0, [.ref br, .int z])), (br, .inr (3, [.ref ba, .int m])), (ba, .inl (g.2.1, 4096, .inl F))] (((m - (zMod m z)) + z) - m) [(b, .inr (0, [.ref br, .int z])), (br, .inr (3, [.ref ba, .int m])), (ba, .inl (g.2.1, 4096, .inl F))] := by
  refine zMI_of (cc := cX0_roomInBlock) (nL := 1) (ty := .int) (by decide) rfl (Nat.le_of_ble_eq_true rfl) rfl ?_
  intro X C hret
  refine z_lv (lv' := [(0, .ref b)]) [0] rfl ?_
  refine z_aload_n C dX0_roomInBlock_0 rfl 0 rfl ?_
  refine z_aload_n C dX0_roomInBlock_1 rfl 0 rfl ?_
  refine z_get (ci := 0) (v := .ref br) (Cn := RX0) (T := TX0) (N := 2) C dX0_roomInBlock_2 (fun w h => List.mem_cons_of_mem _ (List.mem_append_left _ (List.mem_append_right _ h))) 0 rfl rfl 0 (by decide) (List.mem_of_getElem? (i := 1) rfl) rfl rfl ?_
  refine z_callVi (n := 0) (isC := [1, 2]) (isR := [0]) (isP := [0, 1, 2]) (As := []) (rest := [.ref b]) (wr := [(b, .inr (0, [.ref br, .int z]))]) (ws2 := [(b, .inr (0, [.ref br, .int z])), (br, .inr (3, [.ref ba, .int m])), (ba, .inl (g.2.1, 4096, .inl F))]) C dX0_roomInBlock_5 (c_X3_many (zl X) g br ba 4096 F m) gX0_roomInBlock_X3_many rfl ⟨rfl, rfl⟩ (by decide +kernel) (by decide) (by decide) rfl rfl rfl rfl (Nat.le_of_ble_eq_true rfl) rfl rfl ⟨rfl, rfl, rfl⟩ (by decide) rfl ?_
  refine z_callVi (n := 1) (isC := [0, 1, 2]) (isR := []) (isP := [0, 1, 2]) (As := [.int m]) (rest := []) (wr := []) (ws2 := [(b, .inr (0, [.ref br, .int z])), (br, .inr (3, [.ref ba, .int m])), (ba, .inl (g.2.1, 4096, .inl F))]) C dX0_roomInBlock_8 (c_X0_endOfBlock (zl X) g b br ba F z m m hz) gX0_roomInBlock_X0_endOfBlock rfl ⟨rfl, rfl⟩ (by decide +kernel) (by decide) (by decide) rfl rfl rfl rfl (Nat.le_of_ble_eq_true rfl) rfl rfl ⟨rfl, rfl, rfl⟩ (by decide) rfl ?_
  refine z_aload_n C dX0_roomInBlock_11 rfl 0 rfl ?_
  refine z_get (ci := 0) (v := .ref br) (Cn := RX0) (T := TX0) (N := 2) C dX0_roomInBlock_12 (fun w h => List.mem_cons_of_mem _ (List.mem_append_left _ (List.mem_append_right _ h))) 0 rfl rfl 0 (by decide) (List.mem_of_getElem? (i := 1) rfl) rfl rfl ?_
  refine z_callVi (n := 0) (isC := [1, 2]) (isR := [0]) (isP := [0, 1, 2]) (As := []) (rest := [.int ((m - (zMod m z)) + z)]) (wr := [(b, .inr (0, [.ref br, .int z]))]) (ws2 := [(b, .inr (0, [.ref br, .int z])), (br, .inr (3, [.ref ba, .int m])), (ba, .inl (g.2.1, 4096, .inl F))]) C dX0_roomInBlock_15 (c_X3_many (zl X) g br ba 4096 F m) gX0_roomInBlock_X3_many rfl ⟨rfl, rfl⟩ (by decide +kernel) (by decide) (by decide) rfl rfl rfl rfl (Nat.le_of_ble_eq_true rfl) rfl rfl ⟨rfl, rfl, rfl⟩ (by decide) rfl ?_
  refine z_isub C dX0_roomInBlock_18 ?_
  exact hret _ _ _ _ dX0_roomInBlock_19 rfl rfl
def f_X0_kindOf (p : Int32) (q : Int32) : Int32 :=
  if p = 0 then
    if q = 0 then
      3
    else
      4
  else
    if q = 0 then
      2
    else
      1
set_option maxHeartbeats 4000000 in
set_option maxRecDepth 100000 in
theorem c_X0_kindOf (l : Launch) (g : zG) (p : Int32) (q : Int32) : zMI l yX0_kindOf wsX0_kindOf ({ frames := 0, cells := 0, slots := 0, locals := 0 }) g [.int p, .int q] [] (f_X0_kindOf p q) [] := by
  refine zMI_of (cc := cX0_kindOf) (nL := 2) (ty := .int) (by decide) rfl (Nat.le_of_ble_eq_true rfl) rfl ?_
  intro X C hret
  refine z_lv (lv' := [(0, .int p), (1, .int q)]) [0, 1] rfl ?_
  refine z_iload_n C dX0_kindOf_0 rfl 0 rfl ?_
  refine z_if_eq (tgt := 14) C dX0_kindOf_1 (by decide) (fun c_1 => ?_) (fun c_1 => ?_)
  · skip
    refine z_iload_n C dX0_kindOf_14 rfl 1 rfl ?_
    refine z_if_eq (tgt := 22) C dX0_kindOf_15 (by decide) (fun c_2 => ?_) (fun c_2 => ?_)
    · skip
      refine z_iconst (v := 3) C dX0_kindOf_22 (by decide) ?_
      have he : (f_X0_kindOf p q) = 3 := by simp only [f_X0_kindOf, if_pos c_1, if_pos c_2]
      exact hret _ _ _ _ dX0_kindOf_23 (by first | rw [he] | rfl) (by first | rw [he] | rfl)
    · skip
      refine z_iconst (v := 4) C dX0_kindOf_18 (by decide) ?_
      refine z_goto (tgt := 23) C dX0_kindOf_19 (by decide) ?_
      have he : (f_X0_kindOf p q) = 4 := by simp only [f_X0_kindOf, if_pos c_1, if_neg c_2]
      exact hret _ _ _ _ dX0_kindOf_23 (by first | rw [he] | rfl) (by first | rw [he] | rfl)
  · skip
    refine z_iload_n C dX0_kindOf_4 rfl 1 rfl ?_
    refine z_if_eq (tgt := 12) C dX0_kindOf_5 (by decide) (fun c_3 => ?_) (fun c_3 => ?_)
    · skip
      refine z_iconst (v := 2) C dX0_kindOf_12 (by decide) ?_
      have he : (f_X0_kindOf p q) = 2 := by simp only [f_X0_kindOf, if_neg c_1, if_pos c_3]
      exact hret _ _ _ _ dX0_kindOf_13 (by first | rw [he] | rfl) (by first | rw [he] | rfl)
    · skip
      refine z_iconst (v := 1) C dX0_kindOf_8 (by decide) ?_
      refine z_goto (tgt := 13) C dX0_kindOf_9 (by decide) ?_
      have he : (f_X0_kindOf p q) = 1 := by simp only [f_X0_kindOf, if_neg c_1, if_neg c_3]
      exact hret _ _ _ _ dX0_kindOf_13 (by first | rw [he] | rfl) (by first | rw [he] | rfl)
def f_X0_fillBlock (F : Nat → Int32) (z : Int32) (m : Int32) : Int32 × (Nat → Int32) × Int32 :=
  if (((m - (zMod m z)) + z) - m) < 7 then
    if (f_X3_hasRoomFor 4096 m (((m - (zMod m z)) + z) - m)) = 0 then
      (0, F, m)
    else
      match (f_X3_addLowestFirst 4096 F m 0 (((m - (zMod m z)) + z) - m)) with
      | (Fq5, mq5) =>
        (1, Fq5, mq5)
  else
    (1, F, m)
theorem zbool_X0_fillBlock (F : Nat → Int32) (z m : Int32) : narrow .boolean (.int (f_X0_fillBlock F z m).1) = .int (f_X0_fillBlock F z m).1 := by
  unfold f_X0_fillBlock
  repeat' split
  all_goals ((try dsimp only); rfl)
theorem zok_X0_fillBlock {F F1 : Nat → Int32} {m z r m1 : Int32} (_ : zsz z) (hm : zok 4096 m) (h : f_X0_fillBlock F z m = (r, F1, m1)) : zok 4096 m1 := by
  unfold f_X0_fillBlock at h
  split at h
  · split at h
    · cases h; exact hm
    · split at h
      next e1 =>
      cases h
      exact zok_X3_addLowestFirst hm e1
  · cases h; exact hm
set_option maxHeartbeats 4000000 in
set_option maxRecDepth 100000 in
theorem c_X0_fillBlock (l : Launch) (g : zG) (b br ba : Nat) (F : Nat → Int32) (z : Int32) (m : Int32) (hz : zsz z) (hm : zok 4096 m) : zMI l yX0_fillBlock wsX0_fillBlock ({ frames := 3, cells := 0, slots := 0, locals := 62 }) g [.ref b] [(b, .inr (0, [.ref br, .int z])), (br, .inr (3, [.ref ba, .int m])), (ba, .inl (g.2.1, 4096, .inl F))] ((f_X0_fillBlock F z m).1) [(b, .inr (0, [.ref br, .int z])), (br, .inr (3, [.ref ba, .int ((f_X0_fillBlock F z m).2.2)])), (ba, .inl (g.2.1, 4096, .inl ((f_X0_fillBlock F z m).2.1)))] := by
  refine zMI_of (cc := cX0_fillBlock) (nL := 2) (ty := .boolean) (by decide) rfl (Nat.le_of_ble_eq_true rfl) (zbool_X0_fillBlock _ _ _) ?_
  intro X C hret
  refine z_lv (lv' := [(0, .ref b)]) [0] rfl ?_
  refine z_aload_n C dX0_fillBlock_0 rfl 0 rfl ?_
  refine z_callVi (n := 0) (isC := [0, 1, 2]) (isR := []) (isP := [0, 1, 2]) (As := []) (rest := []) (wr := []) (ws2 := [(b, .inr (0, [.ref br, .int z])), (br, .inr (3, [.ref ba, .int m])), (ba, .inl (g.2.1, 4096, .inl F))]) C dX0_fillBlock_1 (c_X0_roomInBlock (zl X) g b br ba F z m hz) gX0_fillBlock_X0_roomInBlock rfl ⟨rfl, rfl⟩ (by decide +kernel) (by decide) (by decide) rfl rfl rfl rfl (Nat.le_of_ble_eq_true rfl) rfl rfl ⟨rfl, rfl, rfl⟩ (by decide) rfl ?_
  refine z_istore_n (lv' := [(1, .int (((m - (zMod m z)) + z) - m)), (0, .ref b)]) C dX0_fillBlock_4 rfl (by decide) rfl ?_
  refine z_iload_n C dX0_fillBlock_5 rfl 0 rfl ?_
  refine z_bipush (v := 7) C dX0_fillBlock_6 (by decide) ?_
  refine z_icmp_lt (tgt := 13) C dX0_fillBlock_8 (by decide) (fun c_2 => ?_) (fun c_2 => ?_)
  · skip
    refine z_aload_n C dX0_fillBlock_13 rfl 1 rfl ?_
    refine z_get (ci := 0) (v := .ref br) (Cn := RX0) (T := TX0) (N := 2) C dX0_fillBlock_14 (fun w h => List.mem_cons_of_mem _ (List.mem_append_left _ (List.mem_append_right _ h))) 0 rfl rfl 0 (by decide) (List.mem_of_getElem? (i := 1) rfl) rfl rfl ?_
    refine z_iload_n C dX0_fillBlock_17 rfl 0 rfl ?_
    refine z_callVi (n := 1) (isC := [1, 2]) (isR := [0]) (isP := [0, 1, 2]) (As := [.int (((m - (zMod m z)) + z) - m)]) (rest := []) (wr := [(b, .inr (0, [.ref br, .int z]))]) (ws2 := [(b, .inr (0, [.ref br, .int z])), (br, .inr (3, [.ref ba, .int m])), (ba, .inl (g.2.1, 4096, .inl F))]) C dX0_fillBlock_18 (c_X3_hasRoomFor (zl X) g br ba 4096 F m (((m - (zMod m z)) + z) - m)) gX0_fillBlock_X3_hasRoomFor rfl ⟨rfl, rfl⟩ (by decide +kernel) (by decide) (by decide) rfl rfl rfl rfl (Nat.le_of_ble_eq_true rfl) rfl rfl ⟨rfl, rfl, rfl⟩ (by decide) rfl ?_
    generalize hT3 : (f_X3_hasRoomFor 4096 m (((m - (zMod m z)) + z) - m)) = rq3
    refine z_if_ne (tgt := 26) C dX0_fillBlock_21 (by decide) (fun c_4 => ?_) (fun c_4 => ?_)
    · skip
      refine z_aload_n C dX0_fillBlock_26 rfl 1 rfl ?_
      refine z_get (ci := 0) (v := .ref br) (Cn := RX0) (T := TX0) (N := 2) C dX0_fillBlock_27 (fun w h => List.mem_cons_of_mem _ (List.mem_append_left _ (List.mem_append_right _ h))) 0 rfl rfl 0 (by decide) (List.mem_of_getElem? (i := 1) rfl) rfl rfl ?_
      refine z_iconst (v := 0) C dX0_fillBlock_30 (by decide) ?_
      refine z_iload_n C dX0_fillBlock_31 rfl 0 rfl ?_
      refine z_callVv (n := 2) (isC := [1, 2]) (isR := [0]) (isP := [0, 1, 2]) (As := [.int 0, .int (((m - (zMod m z)) + z) - m)]) (rest := []) (wr := [(b, .inr (0, [.ref br, .int z]))]) (ws2 := [(b, .inr (0, [.ref br, .int z])), (br, .inr (3, [.ref ba, .int ((f_X3_addLowestFirst 4096 F m 0 (((m - (zMod m z)) + z) - m)).2)])), (ba, .inl (g.2.1, 4096, .inl ((f_X3_addLowestFirst 4096 F m 0 (((m - (zMod m z)) + z) - m)).1)))]) C dX0_fillBlock_32 (c_X3_addLowestFirst (zl X) g br ba 4096 F m 0 (((m - (zMod m z)) + z) - m) hm) gX0_fillBlock_X3_addLowestFirst rfl ⟨rfl, rfl⟩ (by decide +kernel) (by decide) (by decide) rfl rfl rfl rfl (Nat.le_of_ble_eq_true rfl) rfl rfl ⟨rfl, rfl, rfl⟩ (by decide) rfl ?_
      generalize hT5 : (f_X3_addLowestFirst 4096 F m 0 (((m - (zMod m z)) + z) - m)) = T5
      obtain ⟨Fq5, mq5⟩ := T5
      have k5_m : zok 4096 mq5 := zok_X3_addLowestFirst hm hT5
      refine z_iconst (v := 1) C dX0_fillBlock_35 (by decide) ?_
      have he : (f_X0_fillBlock F z m) = (1, Fq5, mq5) := by simp only [f_X0_fillBlock, if_pos c_2, hT3, if_neg c_4, hT5]
      exact hret _ _ _ _ dX0_fillBlock_36 (by first | rw [he] | rfl) (by first | rw [he] | rfl)
    · skip
      refine z_iconst (v := 0) C dX0_fillBlock_24 (by decide) ?_
      have he : (f_X0_fillBlock F z m) = (0, F, m) := by simp only [f_X0_fillBlock, if_pos c_2, hT3, if_pos c_4]
      exact hret _ _ _ _ dX0_fillBlock_25 (by first | rw [he] | rfl) (by first | rw [he] | rfl)
  · skip
    refine z_iconst (v := 1) C dX0_fillBlock_11 (by decide) ?_
    have he : (f_X0_fillBlock F z m) = (1, F, m) := by simp only [f_X0_fillBlock, if_neg c_2]
    exact hret _ _ _ _ dX0_fillBlock_12 (by first | rw [he] | rfl) (by first | rw [he] | rfl)
def f_X0_addFragment (F : Nat → Int32) (F2 : Nat → Int32) (m : Int32) (m2 : Int32) (q : Int32) (x : Int32) (v : Int32) : Int32 × (Nat → Int32) × Int32 :=
  if (f_X3_hasRoomFor 4096 m (7 + v)) = 0 then
    (0, F, m)
  else
    match (f_X3_addLowestFirst 4096 F m (f_X4_of F2 m2 q x v) 4) with
    | (Fq4, mq4) =>
      match (f_X3_addLowestFirst 4096 Fq4 mq4 v 2) with
      | (Fq5, mq5) =>
        match (f_X3_add 4096 Fq5 mq5 q) with
        | (Fq6, mq6) =>
          match (f_X3_addPart 4096 Fq6 F2 mq6 m2 x v) with
          | (Fq7, mq7) =>
            (1, Fq7, mq7)
theorem zbool_X0_addFragment (F F2 : Nat → Int32) (m m2 q x v : Int32) : narrow .boolean (.int (f_X0_addFragment F F2 m m2 q x v).1) = .int (f_X0_addFragment F F2 m m2 q x v).1 := by
  unfold f_X0_addFragment
  repeat' split
  all_goals ((try dsimp only); rfl)
theorem zok_X0_addFragment {N2 : Nat} {F F1 F2 : Nat → Int32} {m m2 q x v r m1 : Int32} (hm : zok 4096 m) (hm2 : zok N2 m2) (h : f_X0_addFragment F F2 m m2 q x v = (r, F1, m1)) : zok 4096 m1 := by
  unfold f_X0_addFragment at h
  split at h
  · cases h; exact hm
  · split at h
    next e1 =>
    split at h
    next e2 =>
    split at h
    next e3 =>
    split at h
    next e4 =>
    cases h
    exact zok_X3_addPart (zok_X3_add (zok_X3_addLowestFirst (zok_X3_addLowestFirst hm e1) e2) e3) hm2 e4
set_option maxHeartbeats 4000000 in
set_option maxRecDepth 100000 in
theorem c_X0_addFragment (l : Launch) (g : zG) (b br ba h2 a2 : Nat) (N2 : Nat) (F : Nat → Int32) (F2 : Nat → Int32) (z : Int32) (m : Int32) (m2 : Int32) (q : Int32) (x : Int32) (v : Int32) (hm : zok 4096 m) (hm2 : zok N2 m2) : zMI l yX0_addFragment wsX0_addFragment ({ frames := 2, cells := 0, slots := 0, locals := 47 }) g [.ref b, .int q, .ref h2, .int x, .int v] [(b, .inr (0, [.ref br, .int z])), (br, .inr (3, [.ref ba, .int m])), (ba, .inl (g.2.1, 4096, .inl F)), (h2, .inr (3, [.ref a2, .int m2])), (a2, .inl (g.2.1, N2, .inl F2))] ((f_X0_addFragment F F2 m m2 q x v).1) [(b, .inr (0, [.ref br, .int z])), (br, .inr (3, [.ref ba, .int ((f_X0_addFragment F F2 m m2 q x v).2.2)])), (ba, .inl (g.2.1, 4096, .inl ((f_X0_addFragment F F2 m m2 q x v).2.1))), (h2, .inr (3, [.ref a2, .int m2])), (a2, .inl (g.2.1, N2, .inl F2))] := by
  refine zMI_of (cc := cX0_addFragment) (nL := 5) (ty := .boolean) (by decide) rfl (Nat.le_of_ble_eq_true rfl) (zbool_X0_addFragment _ _ _ _ _ _ _) ?_
  intro X C hret
  refine z_lv (lv' := [(0, .ref b), (1, .int q), (2, .ref h2), (3, .int x), (4, .int v)]) [0, 1, 2, 3, 4] rfl ?_
  refine z_aload_n C dX0_addFragment_0 rfl 0 rfl ?_
  refine z_get (ci := 0) (v := .ref br) (Cn := RX0) (T := TX0) (N := 2) C dX0_addFragment_1 (fun w h => List.mem_cons_of_mem _ (List.mem_append_left _ (List.mem_append_right _ h))) 0 rfl rfl 0 (by decide) (List.mem_of_getElem? (i := 1) rfl) rfl rfl ?_
  refine z_bipush (v := 7) C dX0_addFragment_4 (by decide) ?_
  refine z_iload C dX0_addFragment_6 4 rfl ?_
  refine z_iadd C dX0_addFragment_8 ?_
  refine z_callVi (n := 1) (isC := [1, 2]) (isR := [0, 3, 4]) (isP := [0, 3, 4, 1, 2]) (As := [.int (7 + v)]) (rest := []) (wr := [(b, .inr (0, [.ref br, .int z])), (h2, .inr (3, [.ref a2, .int m2])), (a2, .inl (g.2.1, N2, .inl F2))]) (ws2 := [(b, .inr (0, [.ref br, .int z])), (br, .inr (3, [.ref ba, .int m])), (ba, .inl (g.2.1, 4096, .inl F)), (h2, .inr (3, [.ref a2, .int m2])), (a2, .inl (g.2.1, N2, .inl F2))]) C dX0_addFragment_9 (c_X3_hasRoomFor (zl X) g br ba 4096 F m (7 + v)) gX0_addFragment_X3_hasRoomFor rfl ⟨rfl, rfl⟩ (by decide +kernel) (by decide) (by decide) rfl rfl rfl rfl (Nat.le_of_ble_eq_true rfl) rfl rfl ⟨rfl, rfl, rfl⟩ (by decide) rfl ?_
  generalize hT1 : (f_X3_hasRoomFor 4096 m (7 + v)) = rq1
  refine z_if_ne (tgt := 17) C dX0_addFragment_12 (by decide) (fun c_2 => ?_) (fun c_2 => ?_)
  · skip
    refine z_aload_n C dX0_addFragment_17 rfl 0 rfl ?_
    refine z_get (ci := 0) (v := .ref br) (Cn := RX0) (T := TX0) (N := 2) C dX0_addFragment_18 (fun w h => List.mem_cons_of_mem _ (List.mem_append_left _ (List.mem_append_right _ h))) 0 rfl rfl 0 (by decide) (List.mem_of_getElem? (i := 1) rfl) rfl rfl ?_
    refine z_iload_n C dX0_addFragment_21 rfl 1 rfl ?_
    refine z_aload_n C dX0_addFragment_22 rfl 2 rfl ?_
    refine z_iload_n C dX0_addFragment_23 rfl 3 rfl ?_
    refine z_iload C dX0_addFragment_24 4 rfl ?_
    refine z_callSi (n := 4) (isC := [3, 4]) (isR := [0, 1, 2]) (isP := [0, 1, 2, 3, 4]) (As := [.int q, .ref h2, .int x, .int v]) (rest := [.ref br]) (wr := [(b, .inr (0, [.ref br, .int z])), (br, .inr (3, [.ref ba, .int m])), (ba, .inl (g.2.1, 4096, .inl F))]) (ws2 := [(b, .inr (0, [.ref br, .int z])), (br, .inr (3, [.ref ba, .int m])), (ba, .inl (g.2.1, 4096, .inl F)), (h2, .inr (3, [.ref a2, .int m2])), (a2, .inl (g.2.1, N2, .inl F2))]) C dX0_addFragment_26 (c_X4_of (zl X) g h2 a2 N2 F2 m2 q x v hm2) gX0_addFragment_X4_of rfl ⟨rfl, rfl⟩ (by decide +kernel) (by decide) (by decide) rfl rfl (Nat.le_of_ble_eq_true rfl) rfl rfl ⟨rfl, rfl, rfl⟩ (by decide) rfl ?_
    generalize hT3 : (f_X4_of F2 m2 q x v) = rq3
    refine z_iconst (v := 4) C dX0_addFragment_29 (by decide) ?_
    refine z_callVv (n := 2) (isC := [1, 2]) (isR := [0, 3, 4]) (isP := [0, 3, 4, 1, 2]) (As := [.int rq3, .int 4]) (rest := []) (wr := [(b, .inr (0, [.ref br, .int z])), (h2, .inr (3, [.ref a2, .int m2])), (a2, .inl (g.2.1, N2, .inl F2))]) (ws2 := [(b, .inr (0, [.ref br, .int z])), (br, .inr (3, [.ref ba, .int ((f_X3_addLowestFirst 4096 F m rq3 4).2)])), (ba, .inl (g.2.1, 4096, .inl ((f_X3_addLowestFirst 4096 F m rq3 4).1))), (h2, .inr (3, [.ref a2, .int m2])), (a2, .inl (g.2.1, N2, .inl F2))]) C dX0_addFragment_30 (c_X3_addLowestFirst (zl X) g br ba 4096 F m rq3 4 hm) gX0_addFragment_X3_addLowestFirst rfl ⟨rfl, rfl⟩ (by decide +kernel) (by decide) (by decide) rfl rfl rfl rfl (Nat.le_of_ble_eq_true rfl) rfl rfl ⟨rfl, rfl, rfl⟩ (by decide) rfl ?_
    generalize hT4 : (f_X3_addLowestFirst 4096 F m rq3 4) = T4
    obtain ⟨Fq4, mq4⟩ := T4
    have k4_m : zok 4096 mq4 := zok_X3_addLowestFirst hm hT4
    refine z_aload_n C dX0_addFragment_33 rfl 0 rfl ?_
    refine z_get (ci := 0) (v := .ref br) (Cn := RX0) (T := TX0) (N := 2) C dX0_addFragment_34 (fun w h => List.mem_cons_of_mem _ (List.mem_append_left _ (List.mem_append_right _ h))) 0 rfl rfl 0 (by decide) (List.mem_of_getElem? (i := 1) rfl) rfl rfl ?_
    refine z_iload C dX0_addFragment_37 4 rfl ?_
    refine z_iconst (v := 2) C dX0_addFragment_39 (by decide) ?_
    refine z_callVv (n := 2) (isC := [1, 2]) (isR := [0, 3, 4]) (isP := [0, 3, 4, 1, 2]) (As := [.int v, .int 2]) (rest := []) (wr := [(b, .inr (0, [.ref br, .int z])), (h2, .inr (3, [.ref a2, .int m2])), (a2, .inl (g.2.1, N2, .inl F2))]) (ws2 := [(b, .inr (0, [.ref br, .int z])), (br, .inr (3, [.ref ba, .int ((f_X3_addLowestFirst 4096 Fq4 mq4 v 2).2)])), (ba, .inl (g.2.1, 4096, .inl ((f_X3_addLowestFirst 4096 Fq4 mq4 v 2).1))), (h2, .inr (3, [.ref a2, .int m2])), (a2, .inl (g.2.1, N2, .inl F2))]) C dX0_addFragment_40 (c_X3_addLowestFirst (zl X) g br ba 4096 Fq4 mq4 v 2 k4_m) gX0_addFragment_X3_addLowestFirst rfl ⟨rfl, rfl⟩ (by decide +kernel) (by decide) (by decide) rfl rfl rfl rfl (Nat.le_of_ble_eq_true rfl) rfl rfl ⟨rfl, rfl, rfl⟩ (by decide) rfl ?_
    generalize hT5 : (f_X3_addLowestFirst 4096 Fq4 mq4 v 2) = T5
    obtain ⟨Fq5, mq5⟩ := T5
    have k5_m : zok 4096 mq5 := zok_X3_addLowestFirst k4_m hT5
    refine z_aload_n C dX0_addFragment_43 rfl 0 rfl ?_
    refine z_get (ci := 0) (v := .ref br) (Cn := RX0) (T := TX0) (N := 2) C dX0_addFragment_44 (fun w h => List.mem_cons_of_mem _ (List.mem_append_left _ (List.mem_append_right _ h))) 0 rfl rfl 0 (by decide) (List.mem_of_getElem? (i := 1) rfl) rfl rfl ?_
    refine z_iload_n C dX0_addFragment_47 rfl 1 rfl ?_
    refine z_callVv (n := 1) (isC := [1, 2]) (isR := [0, 3, 4]) (isP := [0, 3, 4, 1, 2]) (As := [.int q]) (rest := []) (wr := [(b, .inr (0, [.ref br, .int z])), (h2, .inr (3, [.ref a2, .int m2])), (a2, .inl (g.2.1, N2, .inl F2))]) (ws2 := [(b, .inr (0, [.ref br, .int z])), (br, .inr (3, [.ref ba, .int ((f_X3_add 4096 Fq5 mq5 q).2)])), (ba, .inl (g.2.1, 4096, .inl ((f_X3_add 4096 Fq5 mq5 q).1))), (h2, .inr (3, [.ref a2, .int m2])), (a2, .inl (g.2.1, N2, .inl F2))]) C dX0_addFragment_48 (c_X3_add (zl X) g br ba 4096 Fq5 mq5 q k5_m) gX0_addFragment_X3_add rfl ⟨rfl, rfl⟩ (by decide +kernel) (by decide) (by decide) rfl rfl rfl rfl (Nat.le_of_ble_eq_true rfl) rfl rfl ⟨rfl, rfl, rfl⟩ (by decide) rfl ?_
    generalize hT6 : (f_X3_add 4096 Fq5 mq5 q) = T6
    obtain ⟨Fq6, mq6⟩ := T6
    have k6_m : zok 4096 mq6 := zok_X3_add k5_m hT6
    refine z_aload_n C dX0_addFragment_51 rfl 0 rfl ?_
    refine z_get (ci := 0) (v := .ref br) (Cn := RX0) (T := TX0) (N := 2) C dX0_addFragment_52 (fun w h => List.mem_cons_of_mem _ (List.mem_append_left _ (List.mem_append_right _ h))) 0 rfl rfl 0 (by decide) (List.mem_of_getElem? (i := 1) rfl) rfl rfl ?_
    refine z_aload_n C dX0_addFragment_55 rfl 2 rfl ?_
    refine z_iload_n C dX0_addFragment_56 rfl 3 rfl ?_
    refine z_iload C dX0_addFragment_57 4 rfl ?_
    refine z_callVv (n := 3) (isC := [1, 2, 3, 4]) (isR := [0]) (isP := [0, 1, 2, 3, 4]) (As := [.ref h2, .int x, .int v]) (rest := []) (wr := [(b, .inr (0, [.ref br, .int z]))]) (ws2 := [(b, .inr (0, [.ref br, .int z])), (br, .inr (3, [.ref ba, .int ((f_X3_addPart 4096 Fq6 F2 mq6 m2 x v).2)])), (ba, .inl (g.2.1, 4096, .inl ((f_X3_addPart 4096 Fq6 F2 mq6 m2 x v).1))), (h2, .inr (3, [.ref a2, .int m2])), (a2, .inl (g.2.1, N2, .inl F2))]) C dX0_addFragment_59 (c_X3_addPart (zl X) g br ba h2 a2 4096 N2 Fq6 F2 mq6 m2 x v k6_m hm2) gX0_addFragment_X3_addPart rfl ⟨rfl, rfl⟩ (by decide +kernel) (by decide) (by decide) rfl rfl rfl rfl (Nat.le_of_ble_eq_true rfl) rfl rfl ⟨rfl, rfl, rfl⟩ (by decide) rfl ?_
    generalize hT7 : (f_X3_addPart 4096 Fq6 F2 mq6 m2 x v) = T7
    obtain ⟨Fq7, mq7⟩ := T7
    have k7_m : zok 4096 mq7 := zok_X3_addPart k6_m hm2 hT7
    refine z_iconst (v := 1) C dX0_addFragment_62 (by decide) ?_
    have he : (f_X0_addFragment F F2 m m2 q x v) = (1, Fq7, mq7) := by simp only [f_X0_addFragment, hT1, if_neg c_2, hT3, hT4, hT5, hT6, hT7]
    exact hret _ _ _ _ dX0_addFragment_63 (by first | rw [he] | rfl) (by first | rw [he] | rfl)
  · skip
    refine z_iconst (v := 0) C dX0_addFragment_15 (by decide) ?_
    have he : (f_X0_addFragment F F2 m m2 q x v) = (0, F, m) := by simp only [f_X0_addFragment, hT1, if_pos c_2]
    exact hret _ _ _ _ dX0_addFragment_16 (by first | rw [he] | rfl) (by first | rw [he] | rfl)
