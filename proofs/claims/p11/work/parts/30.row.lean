set_option maxHeartbeats 4000000 in
set_option maxRecDepth 100000 in
theorem c_X3_many (l : Launch) (g : zG) (h a : Nat) (N : Nat) (F : Nat → Int32) (m : Int32) : zMI l yX3_many wsX3_many ({ frames := 0, cells := 0, slots := 0, locals := 0 }) g [.ref h] [(h, .inr (3, [.ref a, .int m])), (a, .inl (g.2.1, N, .inl F))] m [(h, .inr (3, [.ref a, .int m])), (a, .inl (g.2.1, N, .inl F))] := by
  refine zMI_of (cc := cX3_many) (nL := 1) (ty := .int) (by decide) rfl (Nat.le_of_ble_eq_true rfl) rfl ?_
  intro X C hret
  refine z_lv (lv' := [(0, .ref h)]) [0] rfl ?_
  refine z_aload_n C dX3_many_0 rfl 0 rfl ?_
  refine z_get (ci := 3) (v := .int m) (Cn := RX3) (T := TX3) (N := 2) C dX3_many_1 (fun w h => List.mem_cons_of_mem _ (List.mem_append_right _ h)) 0 rfl rfl 1 (by decide) (List.mem_of_getElem? (i := 1) rfl) rfl rfl ?_
  exact hret _ _ _ _ dX3_many_4 rfl rfl
def f_X3_hasRoomFor (N : Nat) (m : Int32) (v : Int32) : Int32 :=
  if ((nI N) - m) < v then
    0
  else
    1
theorem zbool_X3_hasRoomFor (N : Nat) (m v : Int32) : narrow .boolean (.int (f_X3_hasRoomFor N m v)) = .int (f_X3_hasRoomFor N m v) := by unfold f_X3_hasRoomFor; split <;> rfl
set_option maxHeartbeats 4000000 in
set_option maxRecDepth 100000 in
theorem c_X3_hasRoomFor (l : Launch) (g : zG) (h a : Nat) (N : Nat) (F : Nat → Int32) (m : Int32) (v : Int32) : zMI l yX3_hasRoomFor wsX3_hasRoomFor ({ frames := 0, cells := 0, slots := 0, locals := 0 }) g [.ref h, .int v] [(h, .inr (3, [.ref a, .int m])), (a, .inl (g.2.1, N, .inl F))] (f_X3_hasRoomFor N m v) [(h, .inr (3, [.ref a, .int m])), (a, .inl (g.2.1, N, .inl F))] := by
  refine zMI_of (cc := cX3_hasRoomFor) (nL := 2) (ty := .boolean) (by decide) rfl (Nat.le_of_ble_eq_true rfl) (zbool_X3_hasRoomFor _ _ _) ?_
  intro X C hret
  refine z_lv (lv' := [(0, .ref h), (1, .int v)]) [0, 1] rfl ?_
  refine z_iload_n C dX3_hasRoomFor_0 rfl 1 rfl ?_
  refine z_aload_n C dX3_hasRoomFor_1 rfl 0 rfl ?_
  refine z_get (ci := 3) (v := .ref a) (Cn := RX3) (T := TX3) (N := 2) C dX3_hasRoomFor_2 (fun w h => List.mem_cons_of_mem _ (List.mem_append_right _ h)) 0 rfl rfl 0 (by decide) (List.mem_of_getElem? (i := 1) rfl) rfl rfl ?_
  refine z_alenB C dX3_hasRoomFor_5 1 rfl ?_
  refine z_aload_n C dX3_hasRoomFor_6 rfl 0 rfl ?_
  refine z_get (ci := 3) (v := .int m) (Cn := RX3) (T := TX3) (N := 2) C dX3_hasRoomFor_7 (fun w h => List.mem_cons_of_mem _ (List.mem_append_right _ h)) 0 rfl rfl 1 (by decide) (List.mem_of_getElem? (i := 2) rfl) rfl rfl ?_
  refine z_isub C dX3_hasRoomFor_10 ?_
  refine z_icmp_gt (tgt := 18) C dX3_hasRoomFor_11 (by decide) (fun c_1 => ?_) (fun c_1 => ?_)
  · skip
    refine z_iconst (v := 0) C dX3_hasRoomFor_18 (by decide) ?_
    have he : (f_X3_hasRoomFor N m v) = 0 := by simp only [f_X3_hasRoomFor, if_pos c_1]
    exact hret _ _ _ _ dX3_hasRoomFor_19 (by first | rw [he] | rfl) (by first | rw [he] | rfl)
  · skip
    refine z_iconst (v := 1) C dX3_hasRoomFor_14 (by decide) ?_
    refine z_goto (tgt := 19) C dX3_hasRoomFor_15 (by decide) ?_
    have he : (f_X3_hasRoomFor N m v) = 1 := by simp only [f_X3_hasRoomFor, if_neg c_1]
    exact hret _ _ _ _ dX3_hasRoomFor_19 (by first | rw [he] | rfl) (by first | rw [he] | rfl)
def f_X3_has (m : Int32) (v : Int32) : Int32 :=
  if v < 0 then
    0
  else
    if m ≤ v then
      0
    else
      1
theorem zbool_X3_has (m v : Int32) : narrow .boolean (.int (f_X3_has m v)) = .int (f_X3_has m v) := by
  unfold f_X3_has
  repeat' split
  all_goals rfl
theorem zin_has {m v r : Int32} {N : Nat} (h : f_X3_has m v = r) (c : ¬ r = 0) (hm : zok N m) : vp_in v N := by
  unfold f_X3_has at h
  split at h
  · exact absurd h.symm c
  · split at h
    · exact absurd h.symm c
    · next c1 c2 => exact zin c1 c2 hm
set_option maxHeartbeats 4000000 in
set_option maxRecDepth 100000 in
theorem c_X3_has (l : Launch) (g : zG) (h a : Nat) (N : Nat) (F : Nat → Int32) (m : Int32) (v : Int32) : zMI l yX3_has wsX3_has ({ frames := 0, cells := 0, slots := 0, locals := 0 }) g [.ref h, .int v] [(h, .inr (3, [.ref a, .int m])), (a, .inl (g.2.1, N, .inl F))] (f_X3_has m v) [(h, .inr (3, [.ref a, .int m])), (a, .inl (g.2.1, N, .inl F))] := by
  refine zMI_of (cc := cX3_has) (nL := 2) (ty := .boolean) (by decide) rfl (Nat.le_of_ble_eq_true rfl) (zbool_X3_has _ _) ?_
  intro X C hret
  refine z_lv (lv' := [(0, .ref h), (1, .int v)]) [0, 1] rfl ?_
  refine z_iload_n C dX3_has_0 rfl 1 rfl ?_
  refine z_if_lt (tgt := 16) C dX3_has_1 (by decide) (fun c_1 => ?_) (fun c_1 => ?_)
  · skip
    refine z_iconst (v := 0) C dX3_has_16 (by decide) ?_
    have he : (f_X3_has m v) = 0 := by simp only [f_X3_has, if_pos c_1]
    exact hret _ _ _ _ dX3_has_17 (by first | rw [he] | rfl) (by first | rw [he] | rfl)
  · skip
    refine z_iload_n C dX3_has_4 rfl 1 rfl ?_
    refine z_aload_n C dX3_has_5 rfl 0 rfl ?_
    refine z_get (ci := 3) (v := .int m) (Cn := RX3) (T := TX3) (N := 2) C dX3_has_6 (fun w h => List.mem_cons_of_mem _ (List.mem_append_right _ h)) 0 rfl rfl 1 (by decide) (List.mem_of_getElem? (i := 1) rfl) rfl rfl ?_
    refine z_icmp_ge (tgt := 16) C dX3_has_9 (by decide) (fun c_2 => ?_) (fun c_2 => ?_)
    · skip
      refine z_iconst (v := 0) C dX3_has_16 (by decide) ?_
      have he : (f_X3_has m v) = 0 := by simp only [f_X3_has, if_neg c_1, if_pos c_2]
      exact hret _ _ _ _ dX3_has_17 (by first | rw [he] | rfl) (by first | rw [he] | rfl)
    · skip
      refine z_iconst (v := 1) C dX3_has_12 (by decide) ?_
      refine z_goto (tgt := 17) C dX3_has_13 (by decide) ?_
      have he : (f_X3_has m v) = 1 := by simp only [f_X3_has, if_neg c_1, if_neg c_2]
      exact hret _ _ _ _ dX3_has_17 (by first | rw [he] | rfl) (by first | rw [he] | rfl)
def f_X3_at (F : Nat → Int32) (m : Int32) (v : Int32) : Int32 :=
  if v < 0 then
    (-1)
  else
    if m ≤ v then
      (-1)
    else
      ((F (v).toNatClampNeg) &&& 255)
set_option maxHeartbeats 4000000 in
set_option maxRecDepth 100000 in
theorem c_X3_at (l : Launch) (g : zG) (h a : Nat) (N : Nat) (F : Nat → Int32) (m : Int32) (v : Int32) (hm : zok N m) : zMI l yX3_at wsX3_at ({ frames := 0, cells := 0, slots := 0, locals := 0 }) g [.ref h, .int v] [(h, .inr (3, [.ref a, .int m])), (a, .inl (g.2.1, N, .inl F))] (f_X3_at F m v) [(h, .inr (3, [.ref a, .int m])), (a, .inl (g.2.1, N, .inl F))] := by
  refine zMI_of (cc := cX3_at) (nL := 2) (ty := .int) (by decide) rfl (Nat.le_of_ble_eq_true rfl) rfl ?_
  intro X C hret
  refine z_lv (lv' := [(0, .ref h), (1, .int v)]) [0, 1] rfl ?_
  refine z_iload_n C dX3_at_0 rfl 1 rfl ?_
  refine z_if_lt (tgt := 25) C dX3_at_1 (by decide) (fun c_1 => ?_) (fun c_1 => ?_)
  · skip
    refine z_iconst (v := (-1)) C dX3_at_25 (by decide) ?_
    have he : (f_X3_at F m v) = (-1) := by simp only [f_X3_at, if_pos c_1]
    exact hret _ _ _ _ dX3_at_26 (by first | rw [he] | rfl) (by first | rw [he] | rfl)
  · skip
    refine z_iload_n C dX3_at_4 rfl 1 rfl ?_
    refine z_aload_n C dX3_at_5 rfl 0 rfl ?_
    refine z_get (ci := 3) (v := .int m) (Cn := RX3) (T := TX3) (N := 2) C dX3_at_6 (fun w h => List.mem_cons_of_mem _ (List.mem_append_right _ h)) 0 rfl rfl 1 (by decide) (List.mem_of_getElem? (i := 1) rfl) rfl rfl ?_
    refine z_icmp_ge (tgt := 25) C dX3_at_9 (by decide) (fun c_2 => ?_) (fun c_2 => ?_)
    · skip
      refine z_iconst (v := (-1)) C dX3_at_25 (by decide) ?_
      have he : (f_X3_at F m v) = (-1) := by simp only [f_X3_at, if_neg c_1, if_pos c_2]
      exact hret _ _ _ _ dX3_at_26 (by first | rw [he] | rfl) (by first | rw [he] | rfl)
    · skip
      refine z_aload_n C dX3_at_12 rfl 0 rfl ?_
      refine z_get (ci := 3) (v := .ref a) (Cn := RX3) (T := TX3) (N := 2) C dX3_at_13 (fun w h => List.mem_cons_of_mem _ (List.mem_append_right _ h)) 0 rfl rfl 0 (by decide) (List.mem_of_getElem? (i := 2) rfl) rfl rfl ?_
      refine z_iload_n C dX3_at_16 rfl 1 rfl ?_
      refine z_bald C dX3_at_17 1 rfl (zin c_1 c_2 hm) ?_
      refine z_sipush (v := 255) C dX3_at_18 (by decide) ?_
      refine z_iand C dX3_at_21 ?_
      refine z_goto (tgt := 26) C dX3_at_22 (by decide) ?_
      have he : (f_X3_at F m v) = ((F (v).toNatClampNeg) &&& 255) := by simp only [f_X3_at, if_neg c_1, if_neg c_2]
      exact hret _ _ _ _ dX3_at_26 (by first | rw [he] | rfl) (by first | rw [he] | rfl)
def f_X3_add (N : Nat) (F : Nat → Int32) (m : Int32) (v : Int32) : (Nat → Int32) × Int32 :=
  if (nI N) ≤ m then
    (F, m)
  else
    ((upd F (m).toNatClampNeg (vp_nar .byte (v.toInt8.toInt32))), (m + 1))
theorem zok_X3_add {N : Nat} {F F1 : Nat → Int32} {m v m1 : Int32} (hm : zok N m) (h : f_X3_add N F m v = (F1, m1)) : zok N m1 := by
  unfold f_X3_add at h
  split at h
  · cases h; exact hm
  · next c => cases h; exact zok_inc hm c
set_option maxHeartbeats 4000000 in
set_option maxRecDepth 100000 in
theorem c_X3_add (l : Launch) (g : zG) (h a : Nat) (N : Nat) (F : Nat → Int32) (m : Int32) (v : Int32) (hm : zok N m) : zMV l yX3_add wsX3_add ({ frames := 0, cells := 0, slots := 0, locals := 0 }) g [.ref h, .int v] [(h, .inr (3, [.ref a, .int m])), (a, .inl (g.2.1, N, .inl F))] [(h, .inr (3, [.ref a, .int ((f_X3_add N F m v).2)])), (a, .inl (g.2.1, N, .inl ((f_X3_add N F m v).1)))] := by
  refine zMV_of (cc := cX3_add) (nL := 2) (by decide) rfl (Nat.le_of_ble_eq_true rfl) ?_
  intro X C hret
  refine z_lv (lv' := [(0, .ref h), (1, .int v)]) [0, 1] rfl ?_
  refine z_aload_n C dX3_add_0 rfl 0 rfl ?_
  refine z_get (ci := 3) (v := .int m) (Cn := RX3) (T := TX3) (N := 2) C dX3_add_1 (fun w h => List.mem_cons_of_mem _ (List.mem_append_right _ h)) 0 rfl rfl 1 (by decide) (List.mem_of_getElem? (i := 1) rfl) rfl rfl ?_
  refine z_aload_n C dX3_add_4 rfl 0 rfl ?_
  refine z_get (ci := 3) (v := .ref a) (Cn := RX3) (T := TX3) (N := 2) C dX3_add_5 (fun w h => List.mem_cons_of_mem _ (List.mem_append_right _ h)) 0 rfl rfl 0 (by decide) (List.mem_of_getElem? (i := 2) rfl) rfl rfl ?_
  refine z_alenB C dX3_add_8 1 rfl ?_
  refine z_icmp_ge (tgt := 33) C dX3_add_9 (by decide) (fun c_1 => ?_) (fun c_1 => ?_)
  · skip
    have he : (f_X3_add N F m v) = (F, m) := by simp only [f_X3_add, if_pos c_1]
    exact hret _ _ _ dX3_add_33 (by first | rw [he] | rfl)
  · skip
    refine z_aload_n C dX3_add_12 rfl 0 rfl ?_
    refine z_get (ci := 3) (v := .ref a) (Cn := RX3) (T := TX3) (N := 2) C dX3_add_13 (fun w h => List.mem_cons_of_mem _ (List.mem_append_right _ h)) 0 rfl rfl 0 (by decide) (List.mem_of_getElem? (i := 2) rfl) rfl rfl ?_
    refine z_aload_n C dX3_add_16 rfl 0 rfl ?_
    refine z_get (ci := 3) (v := .int m) (Cn := RX3) (T := TX3) (N := 2) C dX3_add_17 (fun w h => List.mem_cons_of_mem _ (List.mem_append_right _ h)) 0 rfl rfl 1 (by decide) (List.mem_of_getElem? (i := 1) rfl) rfl rfl ?_
    refine z_iload_n C dX3_add_20 rfl 1 rfl ?_
    refine z_i2b C dX3_add_21 ?_
    refine z_bast (ws' := [(h, .inr (3, [.ref a, .int m])), (a, .inl (g.2.1, N, .inl (upd F (m).toNatClampNeg (vp_nar .byte (v.toInt8.toInt32)))))]) C dX3_add_22 1 rfl (zin2 c_1 hm) rfl ?_
    refine z_aload_n C dX3_add_23 rfl 0 rfl ?_
    refine z_dup C dX3_add_24 rfl ?_
    refine z_get (ci := 3) (v := .int m) (Cn := RX3) (T := TX3) (N := 2) C dX3_add_25 (fun w h => List.mem_cons_of_mem _ (List.mem_append_right _ h)) 0 rfl rfl 1 (by decide) (List.mem_of_getElem? (i := 1) rfl) rfl rfl ?_
    refine z_iconst (v := 1) C dX3_add_28 (by decide) ?_
    refine z_iadd C dX3_add_29 ?_
    refine z_put (ci := 3) (v := .int (m + 1)) (ty := .int) (Cn := RX3) (T := TX3) (N := 2) (ws' := [(h, .inr (3, [.ref a, .int (m + 1)])), (a, .inl (g.2.1, N, .inl (upd F (m).toNatClampNeg (vp_nar .byte (v.toInt8.toInt32)))))]) C dX3_add_30 (fun w h => List.mem_cons_of_mem _ (List.mem_append_right _ h)) tyX3 tyX3_ok nmX3 0 rfl rfl 1 (by decide) (List.mem_of_getElem? (i := 1) rfl) rfl rfl (by decide +kernel) rfl rfl (Nat.le_of_ble_eq_true rfl) rfl ?_
    have he : (f_X3_add N F m v) = ((upd F (m).toNatClampNeg (vp_nar .byte (v.toInt8.toInt32))), (m + 1)) := by simp only [f_X3_add, if_neg c_1]
    exact hret _ _ _ dX3_add_33 (by first | rw [he] | rfl)
def f_X3_shorten (m : Int32) (v : Int32) : Int32 :=
  if v < 0 then
    m
  else
    if m ≤ v then
      m
    else
      v
theorem zok_X3_shorten {N : Nat} {m v m1 : Int32} (hm : zok N m) (h : f_X3_shorten m v = m1) : zok N m1 := by
  unfold f_X3_shorten at h
  split at h
  · exact h ▸ hm
  · split at h
    · exact h ▸ hm
    · next c1 c2 => rw [← h]; exact zok_lt hm c1 c2
set_option maxHeartbeats 4000000 in
set_option maxRecDepth 100000 in
theorem c_X3_shorten (l : Launch) (g : zG) (h a : Nat) (N : Nat) (F : Nat → Int32) (m : Int32) (v : Int32) (hm : zok N m) : zMV l yX3_shorten wsX3_shorten ({ frames := 0, cells := 0, slots := 0, locals := 0 }) g [.ref h, .int v] [(h, .inr (3, [.ref a, .int m])), (a, .inl (g.2.1, N, .inl F))] [(h, .inr (3, [.ref a, .int (f_X3_shorten m v)])), (a, .inl (g.2.1, N, .inl F))] := by
  refine zMV_of (cc := cX3_shorten) (nL := 2) (by decide) rfl (Nat.le_of_ble_eq_true rfl) ?_
  intro X C hret
  refine z_lv (lv' := [(0, .ref h), (1, .int v)]) [0, 1] rfl ?_
  refine z_iload_n C dX3_shorten_0 rfl 1 rfl ?_
  refine z_if_lt (tgt := 17) C dX3_shorten_1 (by decide) (fun c_1 => ?_) (fun c_1 => ?_)
  · skip
    have he : (f_X3_shorten m v) = m := by simp only [f_X3_shorten, if_pos c_1]
    exact hret _ _ _ dX3_shorten_17 (by first | rw [he] | rfl)
  · skip
    refine z_iload_n C dX3_shorten_4 rfl 1 rfl ?_
    refine z_aload_n C dX3_shorten_5 rfl 0 rfl ?_
    refine z_get (ci := 3) (v := .int m) (Cn := RX3) (T := TX3) (N := 2) C dX3_shorten_6 (fun w h => List.mem_cons_of_mem _ (List.mem_append_right _ h)) 0 rfl rfl 1 (by decide) (List.mem_of_getElem? (i := 1) rfl) rfl rfl ?_
    refine z_icmp_ge (tgt := 17) C dX3_shorten_9 (by decide) (fun c_2 => ?_) (fun c_2 => ?_)
    · skip
      have he : (f_X3_shorten m v) = m := by simp only [f_X3_shorten, if_neg c_1, if_pos c_2]
      exact hret _ _ _ dX3_shorten_17 (by first | rw [he] | rfl)
    · skip
      refine z_aload_n C dX3_shorten_12 rfl 0 rfl ?_
      refine z_iload_n C dX3_shorten_13 rfl 1 rfl ?_
      refine z_put (ci := 3) (v := .int v) (ty := .int) (Cn := RX3) (T := TX3) (N := 2) (ws' := [(h, .inr (3, [.ref a, .int v])), (a, .inl (g.2.1, N, .inl F))]) C dX3_shorten_14 (fun w h => List.mem_cons_of_mem _ (List.mem_append_right _ h)) tyX3 tyX3_ok nmX3 0 rfl rfl 1 (by decide) (List.mem_of_getElem? (i := 1) rfl) rfl rfl (by decide +kernel) rfl rfl (Nat.le_of_ble_eq_true rfl) rfl ?_
      have he : (f_X3_shorten m v) = v := by simp only [f_X3_shorten, if_neg c_1, if_neg c_2]
      exact hret _ _ _ dX3_shorten_17 (by first | rw [he] | rfl)
def f_X3_replace (F : Nat → Int32) (m : Int32) (v : Int32) (x : Int32) : (Nat → Int32) :=
  if (f_X3_has m v) = 0 then
    F
  else
    (upd F (v).toNatClampNeg (vp_nar .byte (x.toInt8.toInt32)))
set_option maxHeartbeats 4000000 in
set_option maxRecDepth 100000 in
theorem c_X3_replace (l : Launch) (g : zG) (h a : Nat) (N : Nat) (F : Nat → Int32) (m : Int32) (v : Int32) (x : Int32) (hm : zok N m) : zMV l yX3_replace wsX3_replace ({ frames := 1, cells := 0, slots := 0, locals := 21 }) g [.ref h, .int v, .int x] [(h, .inr (3, [.ref a, .int m])), (a, .inl (g.2.1, N, .inl F))] [(h, .inr (3, [.ref a, .int m])), (a, .inl (g.2.1, N, .inl (f_X3_replace F m v x)))] := by
  refine zMV_of (cc := cX3_replace) (nL := 3) (by decide) rfl (Nat.le_of_ble_eq_true rfl) ?_
  intro X C hret
  refine z_lv (lv' := [(0, .ref h), (1, .int v), (2, .int x)]) [0, 1, 2] rfl ?_
  refine z_aload_n C dX3_replace_0 rfl 0 rfl ?_
  refine z_iload_n C dX3_replace_1 rfl 1 rfl ?_
  refine z_callVi (n := 1) (isC := [0, 1]) (isR := []) (isP := [0, 1]) (As := [.int v]) (rest := []) (wr := []) (ws2 := [(h, .inr (3, [.ref a, .int m])), (a, .inl (g.2.1, N, .inl F))]) C dX3_replace_2 (c_X3_has (zl X) g h a N F m v) gX3_replace_X3_has rfl ⟨rfl, rfl⟩ (by decide +kernel) (by decide) (by decide) rfl rfl rfl rfl (Nat.le_of_ble_eq_true rfl) rfl rfl ⟨rfl, rfl, rfl⟩ (by decide) rfl ?_
  generalize hT1 : (f_X3_has m v) = rq1
  refine z_if_eq (tgt := 16) C dX3_replace_5 (by decide) (fun c_2 => ?_) (fun c_2 => ?_)
  · skip
    have he : (f_X3_replace F m v x) = F := by simp only [f_X3_replace, hT1, if_pos c_2]
    exact hret _ _ _ dX3_replace_16 (by first | rw [he] | rfl)
  · skip
    refine z_aload_n C dX3_replace_8 rfl 0 rfl ?_
    refine z_get (ci := 3) (v := .ref a) (Cn := RX3) (T := TX3) (N := 2) C dX3_replace_9 (fun w h => List.mem_cons_of_mem _ (List.mem_append_right _ h)) 0 rfl rfl 0 (by decide) (List.mem_of_getElem? (i := 1) rfl) rfl rfl ?_
    refine z_iload_n C dX3_replace_12 rfl 1 rfl ?_
    refine z_iload_n C dX3_replace_13 rfl 2 rfl ?_
    refine z_i2b C dX3_replace_14 ?_
    refine z_bast (ws' := [(h, .inr (3, [.ref a, .int m])), (a, .inl (g.2.1, N, .inl (upd F (v).toNatClampNeg (vp_nar .byte (x.toInt8.toInt32)))))]) C dX3_replace_15 1 rfl (zin_has hT1 c_2 hm) rfl ?_
    have he : (f_X3_replace F m v x) = (upd F (v).toNatClampNeg (vp_nar .byte (x.toInt8.toInt32))) := by simp only [f_X3_replace, hT1, if_neg c_2]
    exact hret _ _ _ dX3_replace_16 (by first | rw [he] | rfl)
def b_X3_addLowestFirst (N : Nat) (x : Int32) (k : Int32) (z_ : (Nat → Int32) × Int32) : (Nat → Int32) × Int32 :=
  match z_ with
  | (F_, m_) =>
    match (f_X3_add N F_ m_ (zUshr x (8 * k))) with
    | (Fq3, mq3) =>
      (Fq3, mq3)
def lp_X3_addLowestFirst (N : Nat) (x : Int32) (z_ : (Nat → Int32) × Int32) : Nat → (Nat → Int32) × Int32
  | 0 => z_
  | i + 1 => b_X3_addLowestFirst N x (nI i) (lp_X3_addLowestFirst N x z_ i)
def f_X3_addLowestFirst (N : Nat) (F : Nat → Int32) (m : Int32) (x : Int32) (b : Int32) : (Nat → Int32) × Int32 :=
  match lp_X3_addLowestFirst N x (F, m) (b).toNatClampNeg with
  | (F_, m_) =>
    (F_, m_)
theorem zok_lp_X3_addLowestFirst {N : Nat} {x : Int32} {F : Nat → Int32} {m : Int32} (hm : zok N m) : ∀ i, zok N (lp_X3_addLowestFirst N x (F, m) i).2 := by
  intro i
  induction i with
  | zero => exact hm
  | succ i ih =>
    show zok N (b_X3_addLowestFirst N x (nI i) (lp_X3_addLowestFirst N x (F, m) i)).2
    generalize lp_X3_addLowestFirst N x (F, m) i = T at ih ⊢
    obtain ⟨F1, m1⟩ := T
    exact zok_X3_add ih rfl
theorem zok_X3_addLowestFirst {N : Nat} {F F1 : Nat → Int32} {m x b m1 : Int32} (hm : zok N m) (h : f_X3_addLowestFirst N F m x b = (F1, m1)) : zok N m1 := by
  have := zok_lp_X3_addLowestFirst (x := x) (F := F) hm b.toNatClampNeg
  have e : m1 = (lp_X3_addLowestFirst N x (F, m) b.toNatClampNeg).2 := (congrArg Prod.snd h).symm
  rw [e]; exact this
set_option maxHeartbeats 4000000 in
set_option maxRecDepth 100000 in
theorem c_X3_addLowestFirst (l : Launch) (g : zG) (h a : Nat) (N : Nat) (F : Nat → Int32) (m : Int32) (x : Int32) (b : Int32) (hm : zok N m) : zMV l yX3_addLowestFirst wsX3_addLowestFirst ({ frames := 1, cells := 0, slots := 0, locals := 21 }) g [.ref h, .int x, .int b] [(h, .inr (3, [.ref a, .int m])), (a, .inl (g.2.1, N, .inl F))] [(h, .inr (3, [.ref a, .int ((f_X3_addLowestFirst N F m x b).2)])), (a, .inl (g.2.1, N, .inl ((f_X3_addLowestFirst N F m x b).1)))] := by
  refine zMV_of (cc := cX3_addLowestFirst) (nL := 4) (by decide) rfl (Nat.le_of_ble_eq_true rfl) ?_
  intro X C hret
  refine z_lv (lv' := [(0, .ref h), (1, .int x), (2, .int b)]) [0, 1, 2] rfl ?_
  refine z_iconst (v := 0) C dX3_addLowestFirst_0 (by decide) ?_
  refine z_istore_n (lv' := [(3, .int 0), (0, .ref h), (1, .int x), (2, .int b)]) C dX3_addLowestFirst_1 rfl (by decide) rfl ?_
  have loop : ∀ (r i : Nat), i + r = (b).toNatClampNeg → ∀ (F_ : Nat → Int32) (m_ : Int32), lp_X3_addLowestFirst N x (F, m) i = (F_, m_) → zok N m_ → zV X g 4 0 0 2 [(0, .ref h), (1, .int x), (2, .int b), (3, .int (nI i))] [] [(h, .inr (3, [.ref a, .int m_])), (a, .inl (g.2.1, N, .inl F_))] := by
    intro r
    induction r with
    | zero =>
      intro i hi F_ m_ hv hm_
      have hi : i = (b).toNatClampNeg := hi
      refine z_iload_n C dX3_addLowestFirst_2 rfl 3 rfl ?_
      refine z_iload_n C dX3_addLowestFirst_3 rfl 2 rfl ?_
      refine z_icmp_ge (tgt := 23) C dX3_addLowestFirst_4 (by decide) (fun c_1 => ?_) (fun c_1 => absurd (zfor_out hi) c_1)
      have he : (f_X3_addLowestFirst N F m x b) = (F_, m_) := by simp only [f_X3_addLowestFirst, ← hi, hv]
      exact hret _ _ _ dX3_addLowestFirst_23 (by first | rw [he] | rfl)
    | succ r ih =>
      intro i hi F_ m_ hv hm_
      refine z_iload_n C dX3_addLowestFirst_2 rfl 3 rfl ?_
      refine z_iload_n C dX3_addLowestFirst_3 rfl 2 rfl ?_
      refine z_icmp_ge (tgt := 23) C dX3_addLowestFirst_4 (by decide) (fun c_2 => absurd c_2 (zfor_in hi)) (fun c_2 => ?_)
      refine z_aload_n C dX3_addLowestFirst_7 rfl 0 rfl ?_
      refine z_iload_n C dX3_addLowestFirst_8 rfl 1 rfl ?_
      refine z_bipush (v := 8) C dX3_addLowestFirst_9 (by decide) ?_
      refine z_iload_n C dX3_addLowestFirst_11 rfl 3 rfl ?_
      refine z_imul C dX3_addLowestFirst_12 ?_
      refine z_iushr C dX3_addLowestFirst_13 ?_
      refine z_callVv (n := 1) (isC := [0, 1]) (isR := []) (isP := [0, 1]) (As := [.int (zUshr x (8 * (nI i)))]) (rest := []) (wr := []) (ws2 := [(h, .inr (3, [.ref a, .int ((f_X3_add N F_ m_ (zUshr x (8 * (nI i)))).2)])), (a, .inl (g.2.1, N, .inl ((f_X3_add N F_ m_ (zUshr x (8 * (nI i)))).1)))]) C dX3_addLowestFirst_14 (c_X3_add (zl X) g h a N F_ m_ (zUshr x (8 * (nI i))) hm_) gX3_addLowestFirst_X3_add rfl ⟨rfl, rfl⟩ (by decide +kernel) (by decide) (by decide) rfl rfl rfl rfl (Nat.le_of_ble_eq_true rfl) rfl rfl ⟨rfl, rfl, rfl⟩ (by decide) rfl ?_
      generalize hT3 : (f_X3_add N F_ m_ (zUshr x (8 * (nI i)))) = T3
      obtain ⟨Fq3, mq3⟩ := T3
      have k3_m : zok N mq3 := zok_X3_add hm_ hT3
      refine z_iinc (v := (nI (i + 1))) (lv' := [(3, .int (nI (i + 1))), (0, .ref h), (1, .int x), (2, .int b)]) C dX3_addLowestFirst_17 3 rfl (nI_1 i) (by decide) rfl ?_
      refine z_goto (tgt := 2) C dX3_addLowestFirst_20 (by decide) ?_
      have hs : lp_X3_addLowestFirst N x (F, m) (i + 1) = (Fq3, mq3) := by
        show b_X3_addLowestFirst N x (nI i) (lp_X3_addLowestFirst N x (F, m) i) = _
        rw [hv]
        simp only [b_X3_addLowestFirst, hT3]
      exact z_lv [1, 2, 3, 0] rfl (ih (i + 1) (by omega) Fq3 mq3 hs k3_m)
  exact z_lv [1, 2, 3, 0] rfl (loop (b).toNatClampNeg 0 (Nat.zero_add _) F m rfl hm)
def b_X3_addPart (N : Nat) (F2 : Nat → Int32) (m2 : Int32) (x : Int32) (k : Int32) (z_ : (Nat → Int32) × Int32) : (Nat → Int32) × Int32 :=
  match z_ with
  | (F_, m_) =>
    match (f_X3_add N F_ m_ (f_X3_at F2 m2 (x + k))) with
    | (Fq4, mq4) =>
      (Fq4, mq4)
def lp_X3_addPart (N : Nat) (F2 : Nat → Int32) (m2 : Int32) (x : Int32) (z_ : (Nat → Int32) × Int32) : Nat → (Nat → Int32) × Int32
  | 0 => z_
  | i + 1 => b_X3_addPart N F2 m2 x (nI i) (lp_X3_addPart N F2 m2 x z_ i)
def f_X3_addPart (N : Nat) (F : Nat → Int32) (F2 : Nat → Int32) (m : Int32) (m2 : Int32) (x : Int32) (b : Int32) : (Nat → Int32) × Int32 :=
  match lp_X3_addPart N F2 m2 x (F, m) (b).toNatClampNeg with
  | (F_, m_) =>
    (F_, m_)
theorem zok_lp_X3_addPart {N : Nat} {F2 : Nat → Int32} {m2 x : Int32} {F : Nat → Int32} {m : Int32} (hm : zok N m) : ∀ i, zok N (lp_X3_addPart N F2 m2 x (F, m) i).2 := by
  intro i
  induction i with
  | zero => exact hm
  | succ i ih =>
    show zok N (b_X3_addPart N F2 m2 x (nI i) (lp_X3_addPart N F2 m2 x (F, m) i)).2
    generalize lp_X3_addPart N F2 m2 x (F, m) i = T at ih ⊢
    obtain ⟨F1, m1⟩ := T
    exact zok_X3_add ih rfl
theorem zok_X3_addPart {N N2 : Nat} {F F1 F2 : Nat → Int32} {m m2 x b m1 : Int32} (hm : zok N m) (_ : zok N2 m2) (h : f_X3_addPart N F F2 m m2 x b = (F1, m1)) : zok N m1 := by
  have := zok_lp_X3_addPart (F2 := F2) (m2 := m2) (x := x) (F := F) hm b.toNatClampNeg
  have e : m1 = (lp_X3_addPart N F2 m2 x (F, m) b.toNatClampNeg).2 := (congrArg Prod.snd h).symm
  rw [e]; exact this
set_option maxHeartbeats 4000000 in
set_option maxRecDepth 100000 in
theorem c_X3_addPart (l : Launch) (g : zG) (h a h2 a2 : Nat) (N : Nat) (N2 : Nat) (F : Nat → Int32) (F2 : Nat → Int32) (m : Int32) (m2 : Int32) (x : Int32) (b : Int32) (hm : zok N m) (hm2 : zok N2 m2) : zMV l yX3_addPart wsX3_addPart ({ frames := 1, cells := 0, slots := 0, locals := 21 }) g [.ref h, .ref h2, .int x, .int b] [(h, .inr (3, [.ref a, .int m])), (a, .inl (g.2.1, N, .inl F)), (h2, .inr (3, [.ref a2, .int m2])), (a2, .inl (g.2.1, N2, .inl F2))] [(h, .inr (3, [.ref a, .int ((f_X3_addPart N F F2 m m2 x b).2)])), (a, .inl (g.2.1, N, .inl ((f_X3_addPart N F F2 m m2 x b).1))), (h2, .inr (3, [.ref a2, .int m2])), (a2, .inl (g.2.1, N2, .inl F2))] := by
  refine zMV_of (cc := cX3_addPart) (nL := 5) (by decide) rfl (Nat.le_of_ble_eq_true rfl) ?_
  intro X C hret
  refine z_lv (lv' := [(0, .ref h), (1, .ref h2), (2, .int x), (3, .int b)]) [0, 1, 2, 3] rfl ?_
  refine z_iconst (v := 0) C dX3_addPart_0 (by decide) ?_
  refine z_istore (lv' := [(4, .int 0), (0, .ref h), (1, .ref h2), (2, .int x), (3, .int b)]) C dX3_addPart_1 (by decide) rfl ?_
  have loop : ∀ (r i : Nat), i + r = (b).toNatClampNeg → ∀ (F_ : Nat → Int32) (m_ : Int32), lp_X3_addPart N F2 m2 x (F, m) i = (F_, m_) → zok N m_ → zV X g 5 0 0 3 [(0, .ref h), (1, .ref h2), (2, .int x), (3, .int b), (4, .int (nI i))] [] [(h, .inr (3, [.ref a, .int m_])), (a, .inl (g.2.1, N, .inl F_)), (h2, .inr (3, [.ref a2, .int m2])), (a2, .inl (g.2.1, N2, .inl F2))] := by
    intro r
    induction r with
    | zero =>
      intro i hi F_ m_ hv hm_
      have hi : i = (b).toNatClampNeg := hi
      refine z_iload C dX3_addPart_3 4 rfl ?_
      refine z_iload_n C dX3_addPart_5 rfl 3 rfl ?_
      refine z_icmp_ge (tgt := 27) C dX3_addPart_6 (by decide) (fun c_1 => ?_) (fun c_1 => absurd (zfor_out hi) c_1)
      have he : (f_X3_addPart N F F2 m m2 x b) = (F_, m_) := by simp only [f_X3_addPart, ← hi, hv]
      exact hret _ _ _ dX3_addPart_27 (by first | rw [he] | rfl)
    | succ r ih =>
      intro i hi F_ m_ hv hm_
      refine z_iload C dX3_addPart_3 4 rfl ?_
      refine z_iload_n C dX3_addPart_5 rfl 3 rfl ?_
      refine z_icmp_ge (tgt := 27) C dX3_addPart_6 (by decide) (fun c_2 => absurd c_2 (zfor_in hi)) (fun c_2 => ?_)
      refine z_aload_n C dX3_addPart_9 rfl 0 rfl ?_
      refine z_aload_n C dX3_addPart_10 rfl 1 rfl ?_
      refine z_iload_n C dX3_addPart_11 rfl 2 rfl ?_
      refine z_iload C dX3_addPart_12 4 rfl ?_
      refine z_iadd C dX3_addPart_14 ?_
      refine z_callVi (n := 1) (isC := [2, 3]) (isR := [0, 1]) (isP := [0, 1, 2, 3]) (As := [.int (x + (nI i))]) (rest := [.ref h]) (wr := [(h, .inr (3, [.ref a, .int m_])), (a, .inl (g.2.1, N, .inl F_))]) (ws2 := [(h, .inr (3, [.ref a, .int m_])), (a, .inl (g.2.1, N, .inl F_)), (h2, .inr (3, [.ref a2, .int m2])), (a2, .inl (g.2.1, N2, .inl F2))]) C dX3_addPart_15 (c_X3_at (zl X) g h2 a2 N2 F2 m2 (x + (nI i)) hm2) gX3_addPart_X3_at rfl ⟨rfl, rfl⟩ (by decide +kernel) (by decide) (by decide) rfl rfl rfl rfl (Nat.le_of_ble_eq_true rfl) rfl rfl ⟨rfl, rfl, rfl⟩ (by decide) rfl ?_
      generalize hT3 : (f_X3_at F2 m2 (x + (nI i))) = rq3
      refine z_callVv (n := 1) (isC := [0, 1]) (isR := [2, 3]) (isP := [2, 3, 0, 1]) (As := [.int rq3]) (rest := []) (wr := [(h2, .inr (3, [.ref a2, .int m2])), (a2, .inl (g.2.1, N2, .inl F2))]) (ws2 := [(h, .inr (3, [.ref a, .int ((f_X3_add N F_ m_ rq3).2)])), (a, .inl (g.2.1, N, .inl ((f_X3_add N F_ m_ rq3).1))), (h2, .inr (3, [.ref a2, .int m2])), (a2, .inl (g.2.1, N2, .inl F2))]) C dX3_addPart_18 (c_X3_add (zl X) g h a N F_ m_ rq3 hm_) gX3_addPart_X3_add rfl ⟨rfl, rfl⟩ (by decide +kernel) (by decide) (by decide) rfl rfl rfl rfl (Nat.le_of_ble_eq_true rfl) rfl rfl ⟨rfl, rfl, rfl⟩ (by decide) rfl ?_
      generalize hT4 : (f_X3_add N F_ m_ rq3) = T4
      obtain ⟨Fq4, mq4⟩ := T4
      have k4_m : zok N mq4 := zok_X3_add hm_ hT4
      refine z_iinc (v := (nI (i + 1))) (lv' := [(4, .int (nI (i + 1))), (0, .ref h), (1, .ref h2), (2, .int x), (3, .int b)]) C dX3_addPart_21 4 rfl (nI_1 i) (by decide) rfl ?_
      refine z_goto (tgt := 3) C dX3_addPart_24 (by decide) ?_
      have hs : lp_X3_addPart N F2 m2 x (F, m) (i + 1) = (Fq4, mq4) := by
        show b_X3_addPart N F2 m2 x (nI i) (lp_X3_addPart N F2 m2 x (F, m) i) = _
        rw [hv]
        simp only [b_X3_addPart, hT3, hT4]
      exact z_lv [1, 2, 3, 4, 0] rfl (ih (i + 1) (by omega) Fq4 mq4 hs k4_m)
  exact z_lv [1, 2, 3, 4, 0] rfl (loop (b).toNatClampNeg 0 (Nat.zero_add _) F m rfl hm)
def b_X3_numberLowestFirst (F : Nat → Int32) (m : Int32) (x : Int32) (k : Int32) (z_ : Int32) : Int32 :=
  match z_ with
  | w =>
    (w ||| ((f_X3_at F m (x + k)) <<< (((8 * k) : Int32) &&& 31)))
def lp_X3_numberLowestFirst (F : Nat → Int32) (m : Int32) (x : Int32) (z_ : Int32) : Nat → Int32
  | 0 => z_
  | i + 1 => b_X3_numberLowestFirst F m x (nI i) (lp_X3_numberLowestFirst F m x z_ i)
def f_X3_numberLowestFirst (F : Nat → Int32) (m : Int32) (x : Int32) (b : Int32) : Int32 :=
  (lp_X3_numberLowestFirst F m x 0 (b).toNatClampNeg)
set_option maxHeartbeats 4000000 in
set_option maxRecDepth 100000 in
theorem c_X3_numberLowestFirst (l : Launch) (g : zG) (h a : Nat) (N : Nat) (F : Nat → Int32) (m : Int32) (x : Int32) (b : Int32) (hm : zok N m) : zMI l yX3_numberLowestFirst wsX3_numberLowestFirst ({ frames := 1, cells := 0, slots := 0, locals := 21 }) g [.ref h, .int x, .int b] [(h, .inr (3, [.ref a, .int m])), (a, .inl (g.2.1, N, .inl F))] (f_X3_numberLowestFirst F m x b) [(h, .inr (3, [.ref a, .int m])), (a, .inl (g.2.1, N, .inl F))] := by
  refine zMI_of (cc := cX3_numberLowestFirst) (nL := 5) (ty := .int) (by decide) rfl (Nat.le_of_ble_eq_true rfl) rfl ?_
  intro X C hret
  refine z_lv (lv' := [(0, .ref h), (1, .int x), (2, .int b)]) [0, 1, 2] rfl ?_
  refine z_iconst (v := 0) C dX3_numberLowestFirst_0 (by decide) ?_
  refine z_istore_n (lv' := [(3, .int 0), (0, .ref h), (1, .int x), (2, .int b)]) C dX3_numberLowestFirst_1 rfl (by decide) rfl ?_
  refine z_iconst (v := 0) C dX3_numberLowestFirst_2 (by decide) ?_
  refine z_istore (lv' := [(4, .int 0), (3, .int 0), (0, .ref h), (1, .int x), (2, .int b)]) C dX3_numberLowestFirst_3 (by decide) rfl ?_
  have loop : ∀ (r i : Nat), i + r = (b).toNatClampNeg → ∀ (w : Int32), lp_X3_numberLowestFirst F m x 0 i = w → zV X g 5 0 0 5 [(0, .ref h), (1, .int x), (2, .int b), (3, .int w), (4, .int (nI i))] [] [(h, .inr (3, [.ref a, .int m])), (a, .inl (g.2.1, N, .inl F))] := by
    intro r
    induction r with
    | zero =>
      intro i hi w hv 
      have hi : i = (b).toNatClampNeg := hi
      refine z_iload C dX3_numberLowestFirst_5 4 rfl ?_
      refine z_iload_n C dX3_numberLowestFirst_7 rfl 2 rfl ?_
      refine z_icmp_ge (tgt := 34) C dX3_numberLowestFirst_8 (by decide) (fun c_1 => ?_) (fun c_1 => absurd (zfor_out hi) c_1)
      refine z_iload_n C dX3_numberLowestFirst_34 rfl 3 rfl ?_
      have he : (f_X3_numberLowestFirst F m x b) = w := by simp only [f_X3_numberLowestFirst, ← hi, hv]
      exact hret _ _ _ _ dX3_numberLowestFirst_35 (by first | rw [he] | rfl) (by first | rw [he] | rfl)
    | succ r ih =>
      intro i hi w hv 
      refine z_iload C dX3_numberLowestFirst_5 4 rfl ?_
      refine z_iload_n C dX3_numberLowestFirst_7 rfl 2 rfl ?_
      refine z_icmp_ge (tgt := 34) C dX3_numberLowestFirst_8 (by decide) (fun c_2 => absurd c_2 (zfor_in hi)) (fun c_2 => ?_)
      refine z_iload_n C dX3_numberLowestFirst_11 rfl 3 rfl ?_
      refine z_aload_n C dX3_numberLowestFirst_12 rfl 0 rfl ?_
      refine z_iload_n C dX3_numberLowestFirst_13 rfl 1 rfl ?_
      refine z_iload C dX3_numberLowestFirst_14 4 rfl ?_
      refine z_iadd C dX3_numberLowestFirst_16 ?_
      refine z_callVi (n := 1) (isC := [0, 1]) (isR := []) (isP := [0, 1]) (As := [.int (x + (nI i))]) (rest := [.int w]) (wr := []) (ws2 := [(h, .inr (3, [.ref a, .int m])), (a, .inl (g.2.1, N, .inl F))]) C dX3_numberLowestFirst_17 (c_X3_at (zl X) g h a N F m (x + (nI i)) hm) gX3_numberLowestFirst_X3_at rfl ⟨rfl, rfl⟩ (by decide +kernel) (by decide) (by decide) rfl rfl rfl rfl (Nat.le_of_ble_eq_true rfl) rfl rfl ⟨rfl, rfl, rfl⟩ (by decide) rfl ?_
      generalize hT3 : (f_X3_at F m (x + (nI i))) = rq3
      refine z_bipush (v := 8) C dX3_numberLowestFirst_20 (by decide) ?_
      refine z_iload C dX3_numberLowestFirst_22 4 rfl ?_
      refine z_imul C dX3_numberLowestFirst_24 ?_
      refine z_ishl C dX3_numberLowestFirst_25 ?_
      refine z_ior C dX3_numberLowestFirst_26 ?_
      refine z_istore_n (lv' := [(3, .int (w ||| (rq3 <<< (((8 * (nI i)) : Int32) &&& 31)))), (0, .ref h), (1, .int x), (2, .int b), (4, .int (nI i))]) C dX3_numberLowestFirst_27 rfl (by decide) rfl ?_
      refine z_iinc (v := (nI (i + 1))) (lv' := [(4, .int (nI (i + 1))), (3, .int (w ||| (rq3 <<< (((8 * (nI i)) : Int32) &&& 31)))), (0, .ref h), (1, .int x), (2, .int b)]) C dX3_numberLowestFirst_28 4 rfl (nI_1 i) (by decide) rfl ?_
      refine z_goto (tgt := 5) C dX3_numberLowestFirst_31 (by decide) ?_
      have hs : lp_X3_numberLowestFirst F m x 0 (i + 1) = (w ||| (rq3 <<< (((8 * (nI i)) : Int32) &&& 31))) := by
        show b_X3_numberLowestFirst F m x (nI i) (lp_X3_numberLowestFirst F m x 0 i) = _
        rw [hv]
        simp only [b_X3_numberLowestFirst, hT3]
      exact z_lv [2, 3, 4, 1, 0] rfl (ih (i + 1) (by omega) (w ||| (rq3 <<< (((8 * (nI i)) : Int32) &&& 31))) hs )
  exact z_lv [2, 3, 4, 1, 0] rfl (loop (b).toNatClampNeg 0 (Nat.zero_add _) 0 rfl)
