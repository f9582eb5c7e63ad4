def f_X6_refused (v : Int32) : Int32 × Int32 :=
  if v ≤ 0 then
    (0, v)
  else
    (1, v)
theorem zbool_X6_refused (v : Int32) : narrow .boolean (.int (f_X6_refused v).1) = .int (f_X6_refused v).1 := by
  unfold f_X6_refused
  repeat' split
  all_goals ((try dsimp only); rfl)
set_option maxHeartbeats 4000000 in
set_option maxRecDepth 100000 in
theorem c_X6_refused (l : Launch) (g : zG) (M ab au ah ar aw ay : Nat) (MB : Nat → Int32) (MU : Nat → Int32) (MH : Nat → Int32) (MR : Nat → Int32) (MW : Nat → Int32) (MY : Nat → Int32) (Mft : Int32) (Msz : Int32) (Mal : Int32) (Mbs : Int32) (Mpl : Int32) (Mbg : Int32) (Mlo : Int32) (Mhs : Int32) (Mhf : Int32) (Mhp : Int32) (Mrs : Int32) (Mrf : Int32) (Mto : Int32) (Mtb : Int32) (Mfr : Int32) (Mln : Int32) (Mhb : Int32) (v : Int32) : zMI l yX6_refused wsX6_refused ({ frames := 0, cells := 0, slots := 0, locals := 0 }) g [.ref M, .int v] [(M, .inr (5, [.int Mft, .int Msz, .int Mal, .ref ab, .int Mbs, .ref au, .int Mpl, .int Mbg, .int Mlo, .int Mhs, .int Mhf, .ref ah, .int Mhp, .int Mrs, .int Mrf, .ref ar, .int Mto, .int Mtb, .ref aw, .ref ay, .int Mfr, .int Mln, .int Mhb])), (ab, .inl (g.2.2.1, 4096, .inl MB)), (au, .inl (g.2.2.1, 400, .inl MU)), (ah, .inl (g.2.2.1, 4096, .inl MH)), (ar, .inl (g.2.2.1, 4096, .inl MR)), (aw, .inl (g.2.2.1, 100, .inl MW)), (ay, .inl (g.2.2.1, 100, .inl MY))] ((f_X6_refused v).1) [(M, .inr (5, [.int ((f_X6_refused v).2), .int Msz, .int Mal, .ref ab, .int Mbs, .ref au, .int Mpl, .int Mbg, .int Mlo, .int Mhs, .int Mhf, .ref ah, .int Mhp, .int Mrs, .int Mrf, .ref ar, .int Mto, .int Mtb, .ref aw, .ref ay, .int Mfr, .int Mln, .int Mhb])), (ab, .inl (g.2.2.1, 4096, .inl MB)), (au, .inl (g.2.2.1, 400, .inl MU)), (ah, .inl (g.2.2.1, 4096, .inl MH)), (ar, .inl (g.2.2.1, 4096, .inl MR)), (aw, .inl (g.2.2.1, 100, .inl MW)), (ay, .inl (g.2.2.1, 100, .inl MY))] := by
  refine zMI_of (cc := cX6_refused) (nL := 2) (ty := .boolean) (by decide) rfl (Nat.le_of_ble_eq_true rfl) (zbool_X6_refused _) ?_
  intro X C hret
  refine z_lv (lv' := [(0, .ref M), (1, .int v)]) [0, 1] rfl ?_
  refine z_aload_n C dX6_refused_0 rfl 0 rfl ?_
  refine z_iload_n C dX6_refused_1 rfl 1 rfl ?_
  refine z_put (ci := 5) (v := .int v) (ty := .int) (Cn := RX6) (T := TX6) (N := 23) (ws' := [(M, .inr (5, [.int v, .int Msz, .int Mal, .ref ab, .int Mbs, .ref au, .int Mpl, .int Mbg, .int Mlo, .int Mhs, .int Mhf, .ref ah, .int Mhp, .int Mrs, .int Mrf, .ref ar, .int Mto, .int Mtb, .ref aw, .ref ay, .int Mfr, .int Mln, .int Mhb])), (ab, .inl (g.2.2.1, 4096, .inl MB)), (au, .inl (g.2.2.1, 400, .inl MU)), (ah, .inl (g.2.2.1, 4096, .inl MH)), (ar, .inl (g.2.2.1, 4096, .inl MR)), (aw, .inl (g.2.2.1, 100, .inl MW)), (ay, .inl (g.2.2.1, 100, .inl MY))]) C dX6_refused_2 (fun w h => List.mem_cons_of_mem _ (List.mem_append_right _ h)) tyX6 tyX6_ok nmX6 0 rfl rfl 0 (by decide) (List.mem_of_getElem? (i := 1) rfl) rfl rfl (by decide +kernel) rfl rfl (Nat.le_of_ble_eq_true rfl) rfl ?_
  refine z_iload_n C dX6_refused_5 rfl 1 rfl ?_
  refine z_if_le (tgt := 13) C dX6_refused_6 (by decide) (fun c_1 => ?_) (fun c_1 => ?_)
  · skip
    refine z_iconst (v := 0) C dX6_refused_13 (by decide) ?_
    have he : (f_X6_refused v) = (0, v) := by simp only [f_X6_refused, if_pos c_1]
    exact hret _ _ _ _ dX6_refused_14 (by first | rw [he] | rfl) (by first | rw [he] | rfl)
  · skip
    refine z_iconst (v := 1) C dX6_refused_9 (by decide) ?_
    refine z_goto (tgt := 14) C dX6_refused_10 (by decide) ?_
    have he : (f_X6_refused v) = (1, v) := by simp only [f_X6_refused, if_neg c_1]
    exact hret _ _ _ _ dX6_refused_14 (by first | rw [he] | rfl) (by first | rw [he] | rfl)
def f_X6_isIn (v : Int32) (x : Int32) (y : Int32) : Int32 :=
  if v < x then
    0
  else
    if y < v then
      0
    else
      1
theorem zbool_X6_isIn (v x y : Int32) : narrow .boolean (.int (f_X6_isIn v x y)) = .int (f_X6_isIn v x y) := by
  unfold f_X6_isIn
  repeat' split
  all_goals ((try dsimp only); rfl)
theorem zisIn {v x y r : Int32} (h : f_X6_isIn v x y = r) (c : ¬ r = 0) : x ≤ v ∧ v ≤ y := by
  unfold f_X6_isIn at h
  split at h
  · exact absurd h.symm c
  · split at h
    · exact absurd h.symm c
    · next c1 c2 =>
      simp only [Int32.lt_iff_toInt_lt] at c1 c2
      simp only [Int32.le_iff_toInt_le]
      omega
set_option maxHeartbeats 4000000 in
set_option maxRecDepth 100000 in
theorem c_X6_isIn (l : Launch) (g : zG) (v : Int32) (x : Int32) (y : Int32) : zMI l yX6_isIn wsX6_isIn ({ frames := 0, cells := 0, slots := 0, locals := 0 }) g [.int v, .int x, .int y] [] (f_X6_isIn v x y) [] := by
  refine zMI_of (cc := cX6_isIn) (nL := 3) (ty := .boolean) (by decide) rfl (Nat.le_of_ble_eq_true rfl) (zbool_X6_isIn _ _ _) ?_
  intro X C hret
  refine z_lv (lv' := [(0, .int v), (1, .int x), (2, .int y)]) [0, 1, 2] rfl ?_
  refine z_iload_n C dX6_isIn_0 rfl 0 rfl ?_
  refine z_iload_n C dX6_isIn_1 rfl 1 rfl ?_
  refine z_icmp_lt (tgt := 14) C dX6_isIn_2 (by decide) (fun c_1 => ?_) (fun c_1 => ?_)
  · skip
    refine z_iconst (v := 0) C dX6_isIn_14 (by decide) ?_
    have he : (f_X6_isIn v x y) = 0 := by simp only [f_X6_isIn, if_pos c_1]
    exact hret _ _ _ _ dX6_isIn_15 (by first | rw [he] | rfl) (by first | rw [he] | rfl)
  · skip
    refine z_iload_n C dX6_isIn_5 rfl 0 rfl ?_
    refine z_iload_n C dX6_isIn_6 rfl 2 rfl ?_
    refine z_icmp_gt (tgt := 14) C dX6_isIn_7 (by decide) (fun c_2 => ?_) (fun c_2 => ?_)
    · skip
      refine z_iconst (v := 0) C dX6_isIn_14 (by decide) ?_
      have he : (f_X6_isIn v x y) = 0 := by simp only [f_X6_isIn, if_neg c_1, if_pos c_2]
      exact hret _ _ _ _ dX6_isIn_15 (by first | rw [he] | rfl) (by first | rw [he] | rfl)
    · skip
      refine z_iconst (v := 1) C dX6_isIn_10 (by decide) ?_
      refine z_goto (tgt := 15) C dX6_isIn_11 (by decide) ?_
      have he : (f_X6_isIn v x y) = 1 := by simp only [f_X6_isIn, if_neg c_1, if_neg c_2]
      exact hret _ _ _ _ dX6_isIn_15 (by first | rw [he] | rfl) (by first | rw [he] | rfl)
def f_X6_beginAt (Msz : Int32) (v : Int32) : Int32 × Int32 × Int32 × Int32 × Int32 × Int32 × Int32 × Int32 × Int32 :=
  if 7 ≤ (Msz - (zMod v Msz)) then
    if v ≤ 0 then
      (((v / Msz) * Msz), v, 0, 0, 0, (-1), (-1), 0, 0)
    else
      (((v / Msz) * Msz), v, 1, 0, 0, (-1), (-1), 0, 0)
  else
    if v ≤ 0 then
      ((((v / Msz) + 1) * Msz), v, 0, 0, 0, (-1), (-1), 0, 0)
    else
      ((((v / Msz) + 1) * Msz), v, 1, 0, 0, (-1), (-1), 0, 0)
set_option maxHeartbeats 4000000 in
set_option maxRecDepth 100000 in
theorem c_X6_beginAt (l : Launch) (g : zG) (M ab au ah ar aw ay : Nat) (MB : Nat → Int32) (MU : Nat → Int32) (MH : Nat → Int32) (MR : Nat → Int32) (MW : Nat → Int32) (MY : Nat → Int32) (Mft : Int32) (Msz : Int32) (Mal : Int32) (Mbs : Int32) (Mpl : Int32) (Mbg : Int32) (Mlo : Int32) (Mhs : Int32) (Mhf : Int32) (Mhp : Int32) (Mrs : Int32) (Mrf : Int32) (Mto : Int32) (Mtb : Int32) (Mfr : Int32) (Mln : Int32) (Mhb : Int32) (v : Int32) (hz : zsz Msz) : zMV l yX6_beginAt wsX6_beginAt ({ frames := 0, cells := 0, slots := 0, locals := 0 }) g [.ref M, .int v] [(M, .inr (5, [.int Mft, .int Msz, .int Mal, .ref ab, .int Mbs, .ref au, .int Mpl, .int Mbg, .int Mlo, .int Mhs, .int Mhf, .ref ah, .int Mhp, .int Mrs, .int Mrf, .ref ar, .int Mto, .int Mtb, .ref aw, .ref ay, .int Mfr, .int Mln, .int Mhb])), (ab, .inl (g.2.2.1, 4096, .inl MB)), (au, .inl (g.2.2.1, 400, .inl MU)), (ah, .inl (g.2.2.1, 4096, .inl MH)), (ar, .inl (g.2.2.1, 4096, .inl MR)), (aw, .inl (g.2.2.1, 100, .inl MW)), (ay, .inl (g.2.2.1, 100, .inl MY))] [(M, .inr (5, [.int Mft, .int Msz, .int Mal, .ref ab, .int Mbs, .ref au, .int ((f_X6_beginAt Msz v).1), .int ((f_X6_beginAt Msz v).2.1), .int ((f_X6_beginAt Msz v).2.2.1), .int ((f_X6_beginAt Msz v).2.2.2.1), .int ((f_X6_beginAt Msz v).2.2.2.2.1), .ref ah, .int Mhp, .int ((f_X6_beginAt Msz v).2.2.2.2.2.1), .int ((f_X6_beginAt Msz v).2.2.2.2.2.2.1), .ref ar, .int ((f_X6_beginAt Msz v).2.2.2.2.2.2.2.1), .int ((f_X6_beginAt Msz v).2.2.2.2.2.2.2.2), .ref aw, .ref ay, .int Mfr, .int Mln, .int Mhb])), (ab, .inl (g.2.2.1, 4096, .inl MB)), (au, .inl (g.2.2.1, 400, .inl MU)), (ah, .inl (g.2.2.1, 4096, .inl MH)), (ar, .inl (g.2.2.1, 4096, .inl MR)), (aw, .inl (g.2.2.1, 100, .inl MW)), (ay, .inl (g.2.2.1, 100, .inl MY))] := by
  refine zMV_of (cc := cX6_beginAt) (nL := 2) (by decide) rfl (Nat.le_of_ble_eq_true rfl) ?_
  intro X C hret
  refine z_lv (lv' := [(0, .ref M), (1, .int v)]) [0, 1] rfl ?_
  refine z_aload_n C dX6_beginAt_0 rfl 0 rfl ?_
  refine z_iload_n C dX6_beginAt_1 rfl 1 rfl ?_
  refine z_put (ci := 5) (v := .int v) (ty := .int) (Cn := RX6) (T := TX6) (N := 23) (ws' := [(M, .inr (5, [.int Mft, .int Msz, .int Mal, .ref ab, .int Mbs, .ref au, .int Mpl, .int v, .int Mlo, .int Mhs, .int Mhf, .ref ah, .int Mhp, .int Mrs, .int Mrf, .ref ar, .int Mto, .int Mtb, .ref aw, .ref ay, .int Mfr, .int Mln, .int Mhb])), (ab, .inl (g.2.2.1, 4096, .inl MB)), (au, .inl (g.2.2.1, 400, .inl MU)), (ah, .inl (g.2.2.1, 4096, .inl MH)), (ar, .inl (g.2.2.1, 4096, .inl MR)), (aw, .inl (g.2.2.1, 100, .inl MW)), (ay, .inl (g.2.2.1, 100, .inl MY))]) C dX6_beginAt_2 (fun w h => List.mem_cons_of_mem _ (List.mem_append_right _ h)) tyX6 tyX6_ok nmX6 0 rfl rfl 7 (by decide) (List.mem_of_getElem? (i := 1) rfl) rfl rfl (by decide +kernel) rfl rfl (Nat.le_of_ble_eq_true rfl) rfl ?_
  refine z_aload_n C dX6_beginAt_5 rfl 0 rfl ?_
  refine z_aload_n C dX6_beginAt_6 rfl 0 rfl ?_
  refine z_get (ci := 5) (v := .int Msz) (Cn := RX6) (T := TX6) (N := 23) C dX6_beginAt_7 (fun w h => List.mem_cons_of_mem _ (List.mem_append_right _ h)) 0 rfl rfl 1 (by decide) (List.mem_of_getElem? (i := 2) rfl) rfl rfl ?_
  refine z_iload_n C dX6_beginAt_10 rfl 1 rfl ?_
  refine z_aload_n C dX6_beginAt_11 rfl 0 rfl ?_
  refine z_get (ci := 5) (v := .int Msz) (Cn := RX6) (T := TX6) (N := 23) C dX6_beginAt_12 (fun w h => List.mem_cons_of_mem _ (List.mem_append_right _ h)) 0 rfl rfl 1 (by decide) (List.mem_of_getElem? (i := 2) rfl) rfl rfl ?_
  refine z_irem C dX6_beginAt_15 (zsz_ne hz) ?_
  refine z_isub C dX6_beginAt_16 ?_
  refine z_bipush (v := 7) C dX6_beginAt_17 (by decide) ?_
  refine z_icmp_ge (tgt := 38) C dX6_beginAt_19 (by decide) (fun c_1 => ?_) (fun c_1 => ?_)
  · skip
    refine z_iload_n C dX6_beginAt_38 rfl 1 rfl ?_
    refine z_aload_n C dX6_beginAt_39 rfl 0 rfl ?_
    refine z_get (ci := 5) (v := .int Msz) (Cn := RX6) (T := TX6) (N := 23) C dX6_beginAt_40 (fun w h => List.mem_cons_of_mem _ (List.mem_append_right _ h)) 0 rfl rfl 1 (by decide) (List.mem_of_getElem? (i := 2) rfl) rfl rfl ?_
    refine z_idiv C dX6_beginAt_43 (zsz_ne hz) ?_
    refine z_aload_n C dX6_beginAt_44 rfl 0 rfl ?_
    refine z_get (ci := 5) (v := .int Msz) (Cn := RX6) (T := TX6) (N := 23) C dX6_beginAt_45 (fun w h => List.mem_cons_of_mem _ (List.mem_append_right _ h)) 0 rfl rfl 1 (by decide) (List.mem_of_getElem? (i := 2) rfl) rfl rfl ?_
    refine z_imul C dX6_beginAt_48 ?_
    refine z_put (ci := 5) (v := .int ((v / Msz) * Msz)) (ty := .int) (Cn := RX6) (T := TX6) (N := 23) (ws' := [(M, .inr (5, [.int Mft, .int Msz, .int Mal, .ref ab, .int Mbs, .ref au, .int ((v / Msz) * Msz), .int v, .int Mlo, .int Mhs, .int Mhf, .ref ah, .int Mhp, .int Mrs, .int Mrf, .ref ar, .int Mto, .int Mtb, .ref aw, .ref ay, .int Mfr, .int Mln, .int Mhb])), (ab, .inl (g.2.2.1, 4096, .inl MB)), (au, .inl (g.2.2.1, 400, .inl MU)), (ah, .inl (g.2.2.1, 4096, .inl MH)), (ar, .inl (g.2.2.1, 4096, .inl MR)), (aw, .inl (g.2.2.1, 100, .inl MW)), (ay, .inl (g.2.2.1, 100, .inl MY))]) C dX6_beginAt_49 (fun w h => List.mem_cons_of_mem _ (List.mem_append_right _ h)) tyX6 tyX6_ok nmX6 0 rfl rfl 6 (by decide) (List.mem_of_getElem? (i := 3) rfl) rfl rfl (by decide +kernel) rfl rfl (Nat.le_of_ble_eq_true rfl) rfl ?_
    refine z_aload_n C dX6_beginAt_52 rfl 0 rfl ?_
    refine z_iload_n C dX6_beginAt_53 rfl 1 rfl ?_
    refine z_if_le (tgt := 61) C dX6_beginAt_54 (by decide) (fun c_2 => ?_) (fun c_2 => ?_)
    · skip
      refine z_iconst (v := 0) C dX6_beginAt_61 (by decide) ?_
      refine z_put (ci := 5) (v := .int 0) (ty := .boolean) (Cn := RX6) (T := TX6) (N := 23) (ws' := [(M, .inr (5, [.int Mft, .int Msz, .int Mal, .ref ab, .int Mbs, .ref au, .int ((v / Msz) * Msz), .int v, .int 0, .int Mhs, .int Mhf, .ref ah, .int Mhp, .int Mrs, .int Mrf, .ref ar, .int Mto, .int Mtb, .ref aw, .ref ay, .int Mfr, .int Mln, .int Mhb])), (ab, .inl (g.2.2.1, 4096, .inl MB)), (au, .inl (g.2.2.1, 400, .inl MU)), (ah, .inl (g.2.2.1, 4096, .inl MH)), (ar, .inl (g.2.2.1, 4096, .inl MR)), (aw, .inl (g.2.2.1, 100, .inl MW)), (ay, .inl (g.2.2.1, 100, .inl MY))]) C dX6_beginAt_62 (fun w h => List.mem_cons_of_mem _ (List.mem_append_right _ h)) tyX6 tyX6_ok nmX6 0 rfl rfl 8 (by decide) (List.mem_of_getElem? (i := 4) rfl) rfl rfl (by decide +kernel) rfl rfl (Nat.le_of_ble_eq_true rfl) rfl ?_
      refine z_aload_n C dX6_beginAt_65 rfl 0 rfl ?_
      refine z_iconst (v := 0) C dX6_beginAt_66 (by decide) ?_
      refine z_put (ci := 5) (v := .int 0) (ty := .boolean) (Cn := RX6) (T := TX6) (N := 23) (ws' := [(M, .inr (5, [.int Mft, .int Msz, .int Mal, .ref ab, .int Mbs, .ref au, .int ((v / Msz) * Msz), .int v, .int 0, .int Mhs, .int 0, .ref ah, .int Mhp, .int Mrs, .int Mrf, .ref ar, .int Mto, .int Mtb, .ref aw, .ref ay, .int Mfr, .int Mln, .int Mhb])), (ab, .inl (g.2.2.1, 4096, .inl MB)), (au, .inl (g.2.2.1, 400, .inl MU)), (ah, .inl (g.2.2.1, 4096, .inl MH)), (ar, .inl (g.2.2.1, 4096, .inl MR)), (aw, .inl (g.2.2.1, 100, .inl MW)), (ay, .inl (g.2.2.1, 100, .inl MY))]) C dX6_beginAt_67 (fun w h => List.mem_cons_of_mem _ (List.mem_append_right _ h)) tyX6 tyX6_ok nmX6 0 rfl rfl 10 (by decide) (List.mem_of_getElem? (i := 5) rfl) rfl rfl (by decide +kernel) rfl rfl (Nat.le_of_ble_eq_true rfl) rfl ?_
      refine z_aload_n C dX6_beginAt_70 rfl 0 rfl ?_
      refine z_iconst (v := 0) C dX6_beginAt_71 (by decide) ?_
      refine z_put (ci := 5) (v := .int 0) (ty := .int) (Cn := RX6) (T := TX6) (N := 23) (ws' := [(M, .inr (5, [.int Mft, .int Msz, .int Mal, .ref ab, .int Mbs, .ref au, .int ((v / Msz) * Msz), .int v, .int 0, .int 0, .int 0, .ref ah, .int Mhp, .int Mrs, .int Mrf, .ref ar, .int Mto, .int Mtb, .ref aw, .ref ay, .int Mfr, .int Mln, .int Mhb])), (ab, .inl (g.2.2.1, 4096, .inl MB)), (au, .inl (g.2.2.1, 400, .inl MU)), (ah, .inl (g.2.2.1, 4096, .inl MH)), (ar, .inl (g.2.2.1, 4096, .inl MR)), (aw, .inl (g.2.2.1, 100, .inl MW)), (ay, .inl (g.2.2.1, 100, .inl MY))]) C dX6_beginAt_72 (fun w h => List.mem_cons_of_mem _ (List.mem_append_right _ h)) tyX6 tyX6_ok nmX6 0 rfl rfl 9 (by decide) (List.mem_of_getElem? (i := 6) rfl) rfl rfl (by decide +kernel) rfl rfl (Nat.le_of_ble_eq_true rfl) rfl ?_
      refine z_aload_n C dX6_beginAt_75 rfl 0 rfl ?_
      refine z_iconst (v := 0) C dX6_beginAt_76 (by decide) ?_
      refine z_put (ci := 5) (v := .int 0) (ty := .int) (Cn := RX6) (T := TX6) (N := 23) (ws' := [(M, .inr (5, [.int Mft, .int Msz, .int Mal, .ref ab, .int Mbs, .ref au, .int ((v / Msz) * Msz), .int v, .int 0, .int 0, .int 0, .ref ah, .int Mhp, .int Mrs, .int Mrf, .ref ar, .int 0, .int Mtb, .ref aw, .ref ay, .int Mfr, .int Mln, .int Mhb])), (ab, .inl (g.2.2.1, 4096, .inl MB)), (au, .inl (g.2.2.1, 400, .inl MU)), (ah, .inl (g.2.2.1, 4096, .inl MH)), (ar, .inl (g.2.2.1, 4096, .inl MR)), (aw, .inl (g.2.2.1, 100, .inl MW)), (ay, .inl (g.2.2.1, 100, .inl MY))]) C dX6_beginAt_77 (fun w h => List.mem_cons_of_mem _ (List.mem_append_right _ h)) tyX6 tyX6_ok nmX6 0 rfl rfl 16 (by decide) (List.mem_of_getElem? (i := 7) rfl) rfl rfl (by decide +kernel) rfl rfl (Nat.le_of_ble_eq_true rfl) rfl ?_
      refine z_aload_n C dX6_beginAt_80 rfl 0 rfl ?_
      refine z_iconst (v := 0) C dX6_beginAt_81 (by decide) ?_
      refine z_put (ci := 5) (v := .int 0) (ty := .int) (Cn := RX6) (T := TX6) (N := 23) (ws' := [(M, .inr (5, [.int Mft, .int Msz, .int Mal, .ref ab, .int Mbs, .ref au, .int ((v / Msz) * Msz), .int v, .int 0, .int 0, .int 0, .ref ah, .int Mhp, .int Mrs, .int Mrf, .ref ar, .int 0, .int 0, .ref aw, .ref ay, .int Mfr, .int Mln, .int Mhb])), (ab, .inl (g.2.2.1, 4096, .inl MB)), (au, .inl (g.2.2.1, 400, .inl MU)), (ah, .inl (g.2.2.1, 4096, .inl MH)), (ar, .inl (g.2.2.1, 4096, .inl MR)), (aw, .inl (g.2.2.1, 100, .inl MW)), (ay, .inl (g.2.2.1, 100, .inl MY))]) C dX6_beginAt_82 (fun w h => List.mem_cons_of_mem _ (List.mem_append_right _ h)) tyX6 tyX6_ok nmX6 0 rfl rfl 17 (by decide) (List.mem_of_getElem? (i := 8) rfl) rfl rfl (by decide +kernel) rfl rfl (Nat.le_of_ble_eq_true rfl) rfl ?_
      refine z_aload_n C dX6_beginAt_85 rfl 0 rfl ?_
      refine z_iconst (v := (-1)) C dX6_beginAt_86 (by decide) ?_
      refine z_put (ci := 5) (v := .int (-1)) (ty := .int) (Cn := RX6) (T := TX6) (N := 23) (ws' := [(M, .inr (5, [.int Mft, .int Msz, .int Mal, .ref ab, .int Mbs, .ref au, .int ((v / Msz) * Msz), .int v, .int 0, .int 0, .int 0, .ref ah, .int Mhp, .int (-1), .int Mrf, .ref ar, .int 0, .int 0, .ref aw, .ref ay, .int Mfr, .int Mln, .int Mhb])), (ab, .inl (g.2.2.1, 4096, .inl MB)), (au, .inl (g.2.2.1, 400, .inl MU)), (ah, .inl (g.2.2.1, 4096, .inl MH)), (ar, .inl (g.2.2.1, 4096, .inl MR)), (aw, .inl (g.2.2.1, 100, .inl MW)), (ay, .inl (g.2.2.1, 100, .inl MY))]) C dX6_beginAt_87 (fun w h => List.mem_cons_of_mem _ (List.mem_append_right _ h)) tyX6 tyX6_ok nmX6 0 rfl rfl 13 (by decide) (List.mem_of_getElem? (i := 9) rfl) rfl rfl (by decide +kernel) rfl rfl (Nat.le_of_ble_eq_true rfl) rfl ?_
      refine z_aload_n C dX6_beginAt_90 rfl 0 rfl ?_
      refine z_iconst (v := (-1)) C dX6_beginAt_91 (by decide) ?_
      refine z_put (ci := 5) (v := .int (-1)) (ty := .int) (Cn := RX6) (T := TX6) (N := 23) (ws' := [(M, .inr (5, [.int Mft, .int Msz, .int Mal, .ref ab, .int Mbs, .ref au, .int ((v / Msz) * Msz), .int v, .int 0, .int 0, .int 0, .ref ah, .int Mhp, .int (-1), .int (-1), .ref ar, .int 0, .int 0, .ref aw, .ref ay, .int Mfr, .int Mln, .int Mhb])), (ab, .inl (g.2.2.1, 4096, .inl MB)), (au, .inl (g.2.2.1, 400, .inl MU)), (ah, .inl (g.2.2.1, 4096, .inl MH)), (ar, .inl (g.2.2.1, 4096, .inl MR)), (aw, .inl (g.2.2.1, 100, .inl MW)), (ay, .inl (g.2.2.1, 100, .inl MY))]) C dX6_beginAt_92 (fun w h => List.mem_cons_of_mem _ (List.mem_append_right _ h)) tyX6 tyX6_ok nmX6 0 rfl rfl 14 (by decide) (List.mem_of_getElem? (i := 10) rfl) rfl rfl (by decide +kernel) rfl rfl (Nat.le_of_ble_eq_true rfl) rfl ?_
      have he : (f_X6_beginAt Msz v) = (((v / Msz) * Msz), v, 0, 0, 0, (-1), (-1), 0, 0) := by simp only [f_X6_beginAt, if_pos c_1, if_pos c_2]
      exact hret _ _ _ dX6_beginAt_95 (by first | rw [he] | rfl)
    · skip
      refine z_iconst (v := 1) C dX6_beginAt_57 (by decide) ?_
      refine z_goto (tgt := 62) C dX6_beginAt_58 (by decide) ?_
      refine z_put (ci := 5) (v := .int 1) (ty := .boolean) (Cn := RX6) (T := TX6) (N := 23) (ws' := [(M, .inr (5, [.int Mft, .int Msz, .int Mal, .ref ab, .int Mbs, .ref au, .int ((v / Msz) * Msz), .int v, .int 1, .int Mhs, .int Mhf, .ref ah, .int Mhp, .int Mrs, .int Mrf, .ref ar, .int Mto, .int Mtb, .ref aw, .ref ay, .int Mfr, .int Mln, .int Mhb])), (ab, .inl (g.2.2.1, 4096, .inl MB)), (au, .inl (g.2.2.1, 400, .inl MU)), (ah, .inl (g.2.2.1, 4096, .inl MH)), (ar, .inl (g.2.2.1, 4096, .inl MR)), (aw, .inl (g.2.2.1, 100, .inl MW)), (ay, .inl (g.2.2.1, 100, .inl MY))]) C dX6_beginAt_62 (fun w h => List.mem_cons_of_mem _ (List.mem_append_right _ h)) tyX6 tyX6_ok nmX6 0 rfl rfl 8 (by decide) (List.mem_of_getElem? (i := 4) rfl) rfl rfl (by decide +kernel) rfl rfl (Nat.le_of_ble_eq_true rfl) rfl ?_
      refine z_aload_n C dX6_beginAt_65 rfl 0 rfl ?_
      refine z_iconst (v := 0) C dX6_beginAt_66 (by decide) ?_
      refine z_put (ci := 5) (v := .int 0) (ty := .boolean) (Cn := RX6) (T := TX6) (N := 23) (ws' := [(M, .inr (5, [.int Mft, .int Msz, .int Mal, .ref ab, .int Mbs, .ref au, .int ((v / Msz) * Msz), .int v, .int 1, .int Mhs, .int 0, .ref ah, .int Mhp, .int Mrs, .int Mrf, .ref ar, .int Mto, .int Mtb, .ref aw, .ref ay, .int Mfr, .int Mln, .int Mhb])), (ab, .inl (g.2.2.1, 4096, .inl MB)), (au, .inl (g.2.2.1, 400, .inl MU)), (ah, .inl (g.2.2.1, 4096, .inl MH)), (ar, .inl (g.2.2.1, 4096, .inl MR)), (aw, .inl (g.2.2.1, 100, .inl MW)), (ay, .inl (g.2.2.1, 100, .inl MY))]) C dX6_beginAt_67 (fun w h => List.mem_cons_of_mem _ (List.mem_append_right _ h)) tyX6 tyX6_ok nmX6 0 rfl rfl 10 (by decide) (List.mem_of_getElem? (i := 5) rfl) rfl rfl (by decide +kernel) rfl rfl (Nat.le_of_ble_eq_true rfl) rfl ?_
      refine z_aload_n C dX6_beginAt_70 rfl 0 rfl ?_
      refine z_iconst (v := 0) C dX6_beginAt_71 (by decide) ?_
      refine z_put (ci := 5) (v := .int 0) (ty := .int) (Cn := RX6) (T := TX6) (N := 23) (ws' := [(M, .inr (5, [.int Mft, .int Msz, .int Mal, .ref ab, .int Mbs, .ref au, .int ((v / Msz) * Msz), .int v, .int 1, .int 0, .int 0, .ref ah, .int Mhp, .int Mrs, .int Mrf, .ref ar, .int Mto, .int Mtb, .ref aw, .ref ay, .int Mfr, .int Mln, .int Mhb])), (ab, .inl (g.2.2.1, 4096, .inl MB)), (au, .inl (g.2.2.1, 400, .inl MU)), (ah, .inl (g.2.2.1, 4096, .inl MH)), (ar, .inl (g.2.2.1, 4096, .inl MR)), (aw, .inl (g.2.2.1, 100, .inl MW)), (ay, .inl (g.2.2.1, 100, .inl MY))]) C dX6_beginAt_72 (fun w h => List.mem_cons_of_mem _ (List.mem_append_right _ h)) tyX6 tyX6_ok nmX6 0 rfl rfl 9 (by decide) (List.mem_of_getElem? (i := 6) rfl) rfl rfl (by decide +kernel) rfl rfl (Nat.le_of_ble_eq_true rfl) rfl ?_
      refine z_aload_n C dX6_beginAt_75 rfl 0 rfl ?_
      refine z_iconst (v := 0) C dX6_beginAt_76 (by decide) ?_
      refine z_put (ci := 5) (v := .int 0) (ty := .int) (Cn := RX6) (T := TX6) (N := 23) (ws' := [(M, .inr (5, [.int Mft, .int Msz, .int Mal, .ref ab, .int Mbs, .ref au, .int ((v / Msz) * Msz), .int v, .int 1, .int 0, .int 0, .ref ah, .int Mhp, .int Mrs, .int Mrf, .ref ar, .int 0, .int Mtb, .ref aw, .ref ay, .int Mfr, .int Mln, .int Mhb])), (ab, .inl (g.2.2.1, 4096, .inl MB)), (au, .inl (g.2.2.1, 400, .inl MU)), (ah, .inl (g.2.2.1, 4096, .inl MH)), (ar, .inl (g.2.2.1, 4096, .inl MR)), (aw, .inl (g.2.2.1, 100, .inl MW)), (ay, .inl (g.2.2.1, 100, .inl MY))]) C dX6_beginAt_77 (fun w h => List.mem_cons_of_mem _ (List.mem_append_right _ h)) tyX6 tyX6_ok nmX6 0 rfl rfl 16 (by decide) (List.mem_of_getElem? (i := 7) rfl) rfl rfl (by decide +kernel) rfl rfl (Nat.le_of_ble_eq_true rfl) rfl ?_
      refine z_aload_n C dX6_beginAt_80 rfl 0 rfl ?_
      refine z_iconst (v := 0) C dX6_beginAt_81 (by decide) ?_
      refine z_put (ci := 5) (v := .int 0) (ty := .int) (Cn := RX6) (T := TX6) (N := 23) (ws' := [(M, .inr (5, [.int Mft, .int Msz, .int Mal, .ref ab, .int Mbs, .ref au, .int ((v / Msz) * Msz), .int v, .int 1, .int 0, .int 0, .ref ah, .int Mhp, .int Mrs, .int Mrf, .ref ar, .int 0, .int 0, .ref aw, .ref ay, .int Mfr, .int Mln, .int Mhb])), (ab, .inl (g.2.2.1, 4096, .inl MB)), (au, .inl (g.2.2.1, 400, .inl MU)), (ah, .inl (g.2.2.1, 4096, .inl MH)), (ar, .inl (g.2.2.1, 4096, .inl MR)), (aw, .inl (g.2.2.1, 100, .inl MW)), (ay, .inl (g.2.2.1, 100, .inl MY))]) C dX6_beginAt_82 (fun w h => List.mem_cons_of_mem _ (List.mem_append_right _ h)) tyX6 tyX6_ok nmX6 0 rfl rfl 17 (by decide) (List.mem_of_getElem? (i := 8) rfl) rfl rfl (by decide +kernel) rfl rfl (Nat.le_of_ble_eq_true rfl) rfl ?_
      refine z_aload_n C dX6_beginAt_85 rfl 0 rfl ?_
      refine z_iconst (v := (-1)) C dX6_beginAt_86 (by decide) ?_
      refine z_put (ci := 5) (v := .int (-1)) (ty := .int) (Cn := RX6) (T := TX6) (N := 23) (ws' := [(M, .inr (5, [.int Mft, .int Msz, .int Mal, .ref ab, .int Mbs, .ref au, .int ((v / Msz) * Msz), .int v, .int 1, .int 0, .int 0, .ref ah, .int Mhp, .int (-1), .int Mrf, .ref ar, .int 0, .int 0, .ref aw, .ref ay, .int Mfr, .int Mln, .int Mhb])), (ab, .inl (g.2.2.1, 4096, .inl MB)), (au, .inl (g.2.2.1, 400, .inl MU)), (ah, .inl (g.2.2.1, 4096, .inl MH)), (ar, .inl (g.2.2.1, 4096, .inl MR)), (aw, .inl (g.2.2.1, 100, .inl MW)), (ay, .inl (g.2.2.1, 100, .inl MY))]) C dX6_beginAt_87 (fun w h => List.mem_cons_of_mem _ (List.mem_append_right _ h)) tyX6 tyX6_ok nmX6 0 rfl rfl 13 (by decide) (List.mem_of_getElem? (i := 9) rfl) rfl rfl (by decide +kernel) rfl rfl (Nat.le_of_ble_eq_true rfl) rfl ?_
      refine z_aload_n C dX6_beginAt_90 rfl 0 rfl ?_
      refine z_iconst (v := (-1)) C dX6_beginAt_91 (by decide) ?_
      refine z_put (ci := 5) (v := .int (-1)) (ty := .int) (Cn := RX6) (T := TX6) (N := 23) (ws' := [(M, .inr (5, [.int Mft, .int Msz, .int Mal, .ref ab, .int Mbs, .ref au, .int ((v / Msz) * Msz), .int v, .int 1, .int 0, .int 0, .ref ah, .int Mhp, .int (-1), .int (-1), .ref ar, .int 0, .int 0, .ref aw, .ref ay, .int Mfr, .int Mln, .int Mhb])), (ab, .inl (g.2.2.1, 4096, .inl MB)), (au, .inl (g.2.2.1, 400, .inl MU)), (ah, .inl (g.2.2.1, 4096, .inl MH)), (ar, .inl (g.2.2.1, 4096, .inl MR)), (aw, .inl (g.2.2.1, 100, .inl MW)), (ay, .inl (g.2.2.1, 100, .inl MY))]) C dX6_beginAt_92 (fun w h => List.mem_cons_of_mem _ (List.mem_append_right _ h)) tyX6 tyX6_ok nmX6 0 rfl rfl 14 (by decide) (List.mem_of_getElem? (i := 10) rfl) rfl rfl (by decide +kernel) rfl rfl (Nat.le_of_ble_eq_true rfl) rfl ?_
      have he : (f_X6_beginAt Msz v) = (((v / Msz) * Msz), v, 1, 0, 0, (-1), (-1), 0, 0) := by simp only [f_X6_beginAt, if_pos c_1, if_neg c_2]
      exact hret _ _ _ dX6_beginAt_95 (by first | rw [he] | rfl)
  · skip
    refine z_iload_n C dX6_beginAt_22 rfl 1 rfl ?_
    refine z_aload_n C dX6_beginAt_23 rfl 0 rfl ?_
    refine z_get (ci := 5) (v := .int Msz) (Cn := RX6) (T := TX6) (N := 23) C dX6_beginAt_24 (fun w h => List.mem_cons_of_mem _ (List.mem_append_right _ h)) 0 rfl rfl 1 (by decide) (List.mem_of_getElem? (i := 2) rfl) rfl rfl ?_
    refine z_idiv C dX6_beginAt_27 (zsz_ne hz) ?_
    refine z_iconst (v := 1) C dX6_beginAt_28 (by decide) ?_
    refine z_iadd C dX6_beginAt_29 ?_
    refine z_aload_n C dX6_beginAt_30 rfl 0 rfl ?_
    refine z_get (ci := 5) (v := .int Msz) (Cn := RX6) (T := TX6) (N := 23) C dX6_beginAt_31 (fun w h => List.mem_cons_of_mem _ (List.mem_append_right _ h)) 0 rfl rfl 1 (by decide) (List.mem_of_getElem? (i := 2) rfl) rfl rfl ?_
    refine z_imul C dX6_beginAt_34 ?_
    refine z_goto (tgt := 49) C dX6_beginAt_35 (by decide) ?_
    refine z_put (ci := 5) (v := .int (((v / Msz) + 1) * Msz)) (ty := .int) (Cn := RX6) (T := TX6) (N := 23) (ws' := [(M, .inr (5, [.int Mft, .int Msz, .int Mal, .ref ab, .int Mbs, .ref au, .int (((v / Msz) + 1) * Msz), .int v, .int Mlo, .int Mhs, .int Mhf, .ref ah, .int Mhp, .int Mrs, .int Mrf, .ref ar, .int Mto, .int Mtb, .ref aw, .ref ay, .int Mfr, .int Mln, .int Mhb])), (ab, .inl (g.2.2.1, 4096, .inl MB)), (au, .inl (g.2.2.1, 400, .inl MU)), (ah, .inl (g.2.2.1, 4096, .inl MH)), (ar, .inl (g.2.2.1, 4096, .inl MR)), (aw, .inl (g.2.2.1, 100, .inl MW)), (ay, .inl (g.2.2.1, 100, .inl MY))]) C dX6_beginAt_49 (fun w h => List.mem_cons_of_mem _ (List.mem_append_right _ h)) tyX6 tyX6_ok nmX6 0 rfl rfl 6 (by decide) (List.mem_of_getElem? (i := 3) rfl) rfl rfl (by decide +kernel) rfl rfl (Nat.le_of_ble_eq_true rfl) rfl ?_
    refine z_aload_n C dX6_beginAt_52 rfl 0 rfl ?_
    refine z_iload_n C dX6_beginAt_53 rfl 1 rfl ?_
    refine z_if_le (tgt := 61) C dX6_beginAt_54 (by decide) (fun c_3 => ?_) (fun c_3 => ?_)
    · skip
      refine z_iconst (v := 0) C dX6_beginAt_61 (by decide) ?_
      refine z_put (ci := 5) (v := .int 0) (ty := .boolean) (Cn := RX6) (T := TX6) (N := 23) (ws' := [(M, .inr (5, [.int Mft, .int Msz, .int Mal, .ref ab, .int Mbs, .ref au, .int (((v / Msz) + 1) * Msz), .int v, .int 0, .int Mhs, .int Mhf, .ref ah, .int Mhp, .int Mrs, .int Mrf, .ref ar, .int Mto, .int Mtb, .ref aw, .ref ay, .int Mfr, .int Mln, .int Mhb])), (ab, .inl (g.2.2.1, 4096, .inl MB)), (au, .inl (g.2.2.1, 400, .inl MU)), (ah, .inl (g.2.2.1, 4096, .inl MH)), (ar, .inl (g.2.2.1, 4096, .inl MR)), (aw, .inl (g.2.2.1, 100, .inl MW)), (ay, .inl (g.2.2.1, 100, .inl MY))]) C dX6_beginAt_62 (fun w h => List.mem_cons_of_mem _ (List.mem_append_right _ h)) tyX6 tyX6_ok nmX6 0 rfl rfl 8 (by decide) (List.mem_of_getElem? (i := 4) rfl) rfl rfl (by decide +kernel) rfl rfl (Nat.le_of_ble_eq_true rfl) rfl ?_
      refine z_aload_n C dX6_beginAt_65 rfl 0 rfl ?_
      refine z_iconst (v := 0) C dX6_beginAt_66 (by decide) ?_
      refine z_put (ci := 5) (v := .int 0) (ty := .boolean) (Cn := RX6) (T := TX6) (N := 23) (ws' := [(M, .inr (5, [.int Mft, .int Msz, .int Mal, .ref ab, .int Mbs, .ref au, .int (((v / Msz) + 1) * Msz), .int v, .int 0, .int Mhs, .int 0, .ref ah, .int Mhp, .int Mrs, .int Mrf, .ref ar, .int Mto, .int Mtb, .ref aw, .ref ay, .int Mfr, .int Mln, .int Mhb])), (ab, .inl (g.2.2.1, 4096, .inl MB)), (au, .inl (g.2.2.1, 400, .inl MU)), (ah, .inl (g.2.2.1, 4096, .inl MH)), (ar, .inl (g.2.2.1, 4096, .inl MR)), (aw, .inl (g.2.2.1, 100, .inl MW)), (ay, .inl (g.2.2.1, 100, .inl MY))]) C dX6_beginAt_67 (fun w h => List.mem_cons_of_mem _ (List.mem_append_right _ h)) tyX6 tyX6_ok nmX6 0 rfl rfl 10 (by decide) (List.mem_of_getElem? (i := 5) rfl) rfl rfl (by decide +kernel) rfl rfl (Nat.le_of_ble_eq_true rfl) rfl ?_
      refine z_aload_n C dX6_beginAt_70 rfl 0 rfl ?_
      refine z_iconst (v := 0) C dX6_beginAt_71 (by decide) ?_
      refine z_put (ci := 5) (v := .int 0) (ty := .int) (Cn := RX6) (T := TX6) (N := 23) (ws' := [(M, .inr (5, [.int Mft, .int Msz, .int Mal, .ref ab, .int Mbs, .ref au, .int (((v / Msz) + 1) * Msz), .int v, .int 0, .int 0, .int 0, .ref ah, .int Mhp, .int Mrs, .int Mrf, .ref ar, .int Mto, .int Mtb, .ref aw, .ref ay, .int Mfr, .int Mln, .int Mhb])), (ab, .inl (g.2.2.1, 4096, .inl MB)), (au, .inl (g.2.2.1, 400, .inl MU)), (ah, .inl (g.2.2.1, 4096, .inl MH)), (ar, .inl (g.2.2.1, 4096, .inl MR)), (aw, .inl (g.2.2.1, 100, .inl MW)), (ay, .inl (g.2.2.1, 100, .inl MY))]) C dX6_beginAt_72 (fun w h => List.mem_cons_of_mem _ (List.mem_append_right _ h)) tyX6 tyX6_ok nmX6 0 rfl rfl 9 (by decide) (List.mem_of_getElem? (i := 6) rfl) rfl rfl (by decide +kernel) rfl rfl (Nat.le_of_ble_eq_true rfl) rfl ?_
      refine z_aload_n C dX6_beginAt_75 rfl 0 rfl ?_
      refine z_iconst (v := 0) C dX6_beginAt_76 (by decide) ?_
      refine z_put (ci := 5) (v := .int 0) (ty := .int) (Cn := RX6) (T := TX6) (N := 23) (ws' := [(M, .inr (5, [.int Mft, .int Msz, .int Mal, .ref ab, .int Mbs, .ref au, .int (((v / Msz) + 1) * Msz), .int v, .int 0, .int 0, .int 0, .ref ah, .int Mhp, .int Mrs, .int Mrf, .ref ar, .int 0, .int Mtb, .ref aw, .ref ay, .int Mfr, .int Mln, .int Mhb])), (ab, .inl (g.2.2.1, 4096, .inl MB)), (au, .inl (g.2.2.1, 400, .inl MU)), (ah, .inl (g.2.2.1, 4096, .inl MH)), (ar, .inl (g.2.2.1, 4096, .inl MR)), (aw, .inl (g.2.2.1, 100, .inl MW)), (ay, .inl (g.2.2.1, 100, .inl MY))]) C dX6_beginAt_77 (fun w h => List.mem_cons_of_mem _ (List.mem_append_right _ h)) tyX6 tyX6_ok nmX6 0 rfl rfl 16 (by decide) (List.mem_of_getElem? (i := 7) rfl) rfl rfl (by decide +kernel) rfl rfl (Nat.le_of_ble_eq_true rfl) rfl ?_
      refine z_aload_n C dX6_beginAt_80 rfl 0 rfl ?_
      refine z_iconst (v := 0) C dX6_beginAt_81 (by decide) ?_
      refine z_put (ci := 5) (v := .int 0) (ty := .int) (Cn := RX6) (T := TX6) (N := 23) (ws' := [(M, .inr (5, [.int Mft, .int Msz, .int Mal, .ref ab, .int Mbs, .ref au, .int (((v / Msz) + 1) * Msz), .int v, .int 0, .int 0, .int 0, .ref ah, .int Mhp, .int Mrs, .int Mrf, .ref ar, .int 0, .int 0, .ref aw, .ref ay, .int Mfr, .int Mln, .int Mhb])), (ab, .inl (g.2.2.1, 4096, .inl MB)), (au, .inl (g.2.2.1, 400, .inl MU)), (ah, .inl (g.2.2.1, 4096, .inl MH)), (ar, .inl (g.2.2.1, 4096, .inl MR)), (aw, .inl (g.2.2.1, 100, .inl MW)), (ay, .inl (g.2.2.1, 100, .inl MY))]) C dX6_beginAt_82 (fun w h => List.mem_cons_of_mem _ (List.mem_append_right _ h)) tyX6 tyX6_ok nmX6 0 rfl rfl 17 (by decide) (List.mem_of_getElem? (i := 8) rfl) rfl rfl (by decide +kernel) rfl rfl (Nat.le_of_ble_eq_true rfl) rfl ?_
      refine z_aload_n C dX6_beginAt_85 rfl 0 rfl ?_
      refine z_iconst (v := (-1)) C dX6_beginAt_86 (by decide) ?_
      refine z_put (ci := 5) (v := .int (-1)) (ty := .int) (Cn := RX6) (T := TX6) (N := 23) (ws' := [(M, .inr (5, [.int Mft, .int Msz, .int Mal, .ref ab, .int Mbs, .ref au, .int (((v / Msz) + 1) * Msz), .int v, .int 0, .int 0, .int 0, .ref ah, .int Mhp, .int (-1), .int Mrf, .ref ar, .int 0, .int 0, .ref aw, .ref ay, .int Mfr, .int Mln, .int Mhb])), (ab, .inl (g.2.2.1, 4096, .inl MB)), (au, .inl (g.2.2.1, 400, .inl MU)), (ah, .inl (g.2.2.1, 4096, .inl MH)), (ar, .inl (g.2.2.1, 4096, .inl MR)), (aw, .inl (g.2.2.1, 100, .inl MW)), (ay, .inl (g.2.2.1, 100, .inl MY))]) C dX6_beginAt_87 (fun w h => List.mem_cons_of_mem _ (List.mem_append_right _ h)) tyX6 tyX6_ok nmX6 0 rfl rfl 13 (by decide) (List.mem_of_getElem? (i := 9) rfl) rfl rfl (by decide +kernel) rfl rfl (Nat.le_of_ble_eq_true rfl) rfl ?_
      refine z_aload_n C dX6_beginAt_90 rfl 0 rfl ?_
      refine z_iconst (v := (-1)) C dX6_beginAt_91 (by decide) ?_
      refine z_put (ci := 5) (v := .int (-1)) (ty := .int) (Cn := RX6) (T := TX6) (N := 23) (ws' := [(M, .inr (5, [.int Mft, .int Msz, .int Mal, .ref ab, .int Mbs, .ref au, .int (((v / Msz) + 1) * Msz), .int v, .int 0, .int 0, .int 0, .ref ah, .int Mhp, .int (-1), .int (-1), .ref ar, .int 0, .int 0, .ref aw, .ref ay, .int Mfr, .int Mln, .int Mhb])), (ab, .inl (g.2.2.1, 4096, .inl MB)), (au, .inl (g.2.2.1, 400, .inl MU)), (ah, .inl (g.2.2.1, 4096, .inl MH)), (ar, .inl (g.2.2.1, 4096, .inl MR)), (aw, .inl (g.2.2.1, 100, .inl MW)), (ay, .inl (g.2.2.1, 100, .inl MY))]) C dX6_beginAt_92 (fun w h => List.mem_cons_of_mem _ (List.mem_append_right _ h)) tyX6 tyX6_ok nmX6 0 rfl rfl 14 (by decide) (List.mem_of_getElem? (i := 10) rfl) rfl rfl (by decide +kernel) rfl rfl (Nat.le_of_ble_eq_true rfl) rfl ?_
      have he : (f_X6_beginAt Msz v) = ((((v / Msz) + 1) * Msz), v, 0, 0, 0, (-1), (-1), 0, 0) := by simp only [f_X6_beginAt, if_neg c_1, if_pos c_3]
      exact hret _ _ _ dX6_beginAt_95 (by first | rw [he] | rfl)
    · skip
      refine z_iconst (v := 1) C dX6_beginAt_57 (by decide) ?_
      refine z_goto (tgt := 62) C dX6_beginAt_58 (by decide) ?_
      refine z_put (ci := 5) (v := .int 1) (ty := .boolean) (Cn := RX6) (T := TX6) (N := 23) (ws' := [(M, .inr (5, [.int Mft, .int Msz, .int Mal, .ref ab, .int Mbs, .ref au, .int (((v / Msz) + 1) * Msz), .int v, .int 1, .int Mhs, .int Mhf, .ref ah, .int Mhp, .int Mrs, .int Mrf, .ref ar, .int Mto, .int Mtb, .ref aw, .ref ay, .int Mfr, .int Mln, .int Mhb])), (ab, .inl (g.2.2.1, 4096, .inl MB)), (au, .inl (g.2.2.1, 400, .inl MU)), (ah, .inl (g.2.2.1, 4096, .inl MH)), (ar, .inl (g.2.2.1, 4096, .inl MR)), (aw, .inl (g.2.2.1, 100, .inl MW)), (ay, .inl (g.2.2.1, 100, .inl MY))]) C dX6_beginAt_62 (fun w h => List.mem_cons_of_mem _ (List.mem_append_right _ h)) tyX6 tyX6_ok nmX6 0 rfl rfl 8 (by decide) (List.mem_of_getElem? (i := 4) rfl) rfl rfl (by decide +kernel) rfl rfl (Nat.le_of_ble_eq_true rfl) rfl ?_
      refine z_aload_n C dX6_beginAt_65 rfl 0 rfl ?_
      refine z_iconst (v := 0) C dX6_beginAt_66 (by decide) ?_
      refine z_put (ci := 5) (v := .int 0) (ty := .boolean) (Cn := RX6) (T := TX6) (N := 23) (ws' := [(M, .inr (5, [.int Mft, .int Msz, .int Mal, .ref ab, .int Mbs, .ref au, .int (((v / Msz) + 1) * Msz), .int v, .int 1, .int Mhs, .int 0, .ref ah, .int Mhp, .int Mrs, .int Mrf, .ref ar, .int Mto, .int Mtb, .ref aw, .ref ay, .int Mfr, .int Mln, .int Mhb])), (ab, .inl (g.2.2.1, 4096, .inl MB)), (au, .inl (g.2.2.1, 400, .inl MU)), (ah, .inl (g.2.2.1, 4096, .inl MH)), (ar, .inl (g.2.2.1, 4096, .inl MR)), (aw, .inl (g.2.2.1, 100, .inl MW)), (ay, .inl (g.2.2.1, 100, .inl MY))]) C dX6_beginAt_67 (fun w h => List.mem_cons_of_mem _ (List.mem_append_right _ h)) tyX6 tyX6_ok nmX6 0 rfl rfl 10 (by decide) (List.mem_of_getElem? (i := 5) rfl) rfl rfl (by decide +kernel) rfl rfl (Nat.le_of_ble_eq_true rfl) rfl ?_
      refine z_aload_n C dX6_beginAt_70 rfl 0 rfl ?_
      refine z_iconst (v := 0) C dX6_beginAt_71 (by decide) ?_
      refine z_put (ci := 5) (v := .int 0) (ty := .int) (Cn := RX6) (T := TX6) (N := 23) (ws' := [(M, .inr (5, [.int Mft, .int Msz, .int Mal, .ref ab, .int Mbs, .ref au, .int (((v / Msz) + 1) * Msz), .int v, .int 1, .int 0, .int 0, .ref ah, .int Mhp, .int Mrs, .int Mrf, .ref ar, .int Mto, .int Mtb, .ref aw, .ref ay, .int Mfr, .int Mln, .int Mhb])), (ab, .inl (g.2.2.1, 4096, .inl MB)), (au, .inl (g.2.2.1, 400, .inl MU)), (ah, .inl (g.2.2.1, 4096, .inl MH)), (ar, .inl (g.2.2.1, 4096, .inl MR)), (aw, .inl (g.2.2.1, 100, .inl MW)), (ay, .inl (g.2.2.1, 100, .inl MY))]) C dX6_beginAt_72 (fun w h => List.mem_cons_of_mem _ (List.mem_append_right _ h)) tyX6 tyX6_ok nmX6 0 rfl rfl 9 (by decide) (List.mem_of_getElem? (i := 6) rfl) rfl rfl (by decide +kernel) rfl rfl (Nat.le_of_ble_eq_true rfl) rfl ?_
      refine z_aload_n C dX6_beginAt_75 rfl 0 rfl ?_
      refine z_iconst (v := 0) C dX6_beginAt_76 (by decide) ?_
      refine z_put (ci := 5) (v := .int 0) (ty := .int) (Cn := RX6) (T := TX6) (N := 23) (ws' := [(M, .inr (5, [.int Mft, .int Msz, .int Mal, .ref ab, .int Mbs, .ref au, .int (((v / Msz) + 1) * Msz), .int v, .int 1, .int 0, .int 0, .ref ah, .int Mhp, .int Mrs, .int Mrf, .ref ar, .int 0, .int Mtb, .ref aw, .ref ay, .int Mfr, .int Mln, .int Mhb])), (ab, .inl (g.2.2.1, 4096, .inl MB)), (au, .inl (g.2.2.1, 400, .inl MU)), (ah, .inl (g.2.2.1, 4096, .inl MH)), (ar, .inl (g.2.2.1, 4096, .inl MR)), (aw, .inl (g.2.2.1, 100, .inl MW)), (ay, .inl (g.2.2.1, 100, .inl MY))]) C dX6_beginAt_77 (fun w h => List.mem_cons_of_mem _ (List.mem_append_right _ h)) tyX6 tyX6_ok nmX6 0 rfl rfl 16 (by decide) (List.mem_of_getElem? (i := 7) rfl) rfl rfl (by decide +kernel) rfl rfl (Nat.le_of_ble_eq_true rfl) rfl ?_
      refine z_aload_n C dX6_beginAt_80 rfl 0 rfl ?_
      refine z_iconst (v := 0) C dX6_beginAt_81 (by decide) ?_
      refine z_put (ci := 5) (v := .int 0) (ty := .int) (Cn := RX6) (T := TX6) (N := 23) (ws' := [(M, .inr (5, [.int Mft, .int Msz, .int Mal, .ref ab, .int Mbs, .ref au, .int (((v / Msz) + 1) * Msz), .int v, .int 1, .int 0, .int 0, .ref ah, .int Mhp, .int Mrs, .int Mrf, .ref ar, .int 0, .int 0, .ref aw, .ref ay, .int Mfr, .int Mln, .int Mhb])), (ab, .inl (g.2.2.1, 4096, .inl MB)), (au, .inl (g.2.2.1, 400, .inl MU)), (ah, .inl (g.2.2.1, 4096, .inl MH)), (ar, .inl (g.2.2.1, 4096, .inl MR)), (aw, .inl (g.2.2.1, 100, .inl MW)), (ay, .inl (g.2.2.1, 100, .inl MY))]) C dX6_beginAt_82 (fun w h => List.mem_cons_of_mem _ (List.mem_append_right _ h)) tyX6 tyX6_ok nmX6 0 rfl rfl 17 (by decide) (List.mem_of_getElem? (i := 8) rfl) rfl rfl (by decide +kernel) rfl rfl (Nat.le_of_ble_eq_true rfl) rfl ?_
      refine z_aload_n C dX6_beginAt_85 rfl 0 rfl ?_
      refine z_iconst (v := (-1)) C dX6_beginAt_86 (by decide) ?_
      refine z_put (ci := 5) (v := .int (-1)) (ty := .int) (Cn := RX6) (T := TX6) (N := 23) (ws' := [(M, .inr (5, [.int Mft, .int Msz, .int Mal, .ref ab, .int Mbs, .ref au, .int (((v / Msz) + 1) * Msz), .int v, .int 1, .int 0, .int 0, .ref ah, .int Mhp, .int (-1), .int Mrf, .ref ar, .int 0, .int 0, .ref aw, .ref ay, .int Mfr, .int Mln, .int Mhb])), (ab, .inl (g.2.2.1, 4096, .inl MB)), (au, .inl (g.2.2.1, 400, .inl MU)), (ah, .inl (g.2.2.1, 4096, .inl MH)), (ar, .inl (g.2.2.1, 4096, .inl MR)), (aw, .inl (g.2.2.1, 100, .inl MW)), (ay, .inl (g.2.2.1, 100, .inl MY))]) C dX6_beginAt_87 (fun w h => List.mem_cons_of_mem _ (List.mem_append_right _ h)) tyX6 tyX6_ok nmX6 0 rfl rfl 13 (by decide) (List.mem_of_getElem? (i := 9) rfl) rfl rfl (by decide +kernel) rfl rfl (Nat.le_of_ble_eq_true rfl) rfl ?_
      refine z_aload_n C dX6_beginAt_90 rfl 0 rfl ?_
      refine z_iconst (v := (-1)) C dX6_beginAt_91 (by decide) ?_
      refine z_put (ci := 5) (v := .int (-1)) (ty := .int) (Cn := RX6) (T := TX6) (N := 23) (ws' := [(M, .inr (5, [.int Mft, .int Msz, .int Mal, .ref ab, .int Mbs, .ref au, .int (((v / Msz) + 1) * Msz), .int v, .int 1, .int 0, .int 0, .ref ah, .int Mhp, .int (-1), .int (-1), .ref ar, .int 0, .int 0, .ref aw, .ref ay, .int Mfr, .int Mln, .int Mhb])), (ab, .inl (g.2.2.1, 4096, .inl MB)), (au, .inl (g.2.2.1, 400, .inl MU)), (ah, .inl (g.2.2.1, 4096, .inl MH)), (ar, .inl (g.2.2.1, 4096, .inl MR)), (aw, .inl (g.2.2.1, 100, .inl MW)), (ay, .inl (g.2.2.1, 100, .inl MY))]) C dX6_beginAt_92 (fun w h => List.mem_cons_of_mem _ (List.mem_append_right _ h)) tyX6 tyX6_ok nmX6 0 rfl rfl 14 (by decide) (List.mem_of_getElem? (i := 10) rfl) rfl rfl (by decide +kernel) rfl rfl (Nat.le_of_ble_eq_true rfl) rfl ?_
      have he : (f_X6_beginAt Msz v) = ((((v / Msz) + 1) * Msz), v, 1, 0, 0, (-1), (-1), 0, 0) := by simp only [f_X6_beginAt, if_neg c_1, if_neg c_3]
      exact hret _ _ _ dX6_beginAt_95 (by first | rw [he] | rfl)
def f_X6_clear (Msz : Int32) (Mal : Int32) (Mpl : Int32) (Mbg : Int32) (Mlo : Int32) (Mhs : Int32) (Mhf : Int32) (Mrs : Int32) (Mrf : Int32) (Mto : Int32) (Mtb : Int32) (v : Int32) : Int32 × Int32 × Int32 × Int32 × Int32 × Int32 × Int32 × Int32 × Int32 × Int32 × Int32 × Int32 :=
  if (f_X6_isIn v 16 512) = 0 then
    (1, Msz, Mal, Mpl, Mbg, Mlo, Mhs, Mhf, Mrs, Mrf, Mto, Mtb)
  else
    match (f_X6_beginAt v 0) with
    | (Mplq7, Mbgq7, Mloq7, Mhsq7, Mhfq7, Mrsq7, Mrfq7, Mtoq7, Mtbq7) =>
      (0, v, 0, Mplq7, Mbgq7, Mloq7, Mhsq7, Mhfq7, Mrsq7, Mrfq7, Mtoq7, Mtbq7)
set_option maxHeartbeats 4000000 in
set_option maxRecDepth 100000 in
theorem c_X6_clear (l : Launch) (g : zG) (M ab au ah ar aw ay : Nat) (MB : Nat → Int32) (MU : Nat → Int32) (MH : Nat → Int32) (MR : Nat → Int32) (MW : Nat → Int32) (MY : Nat → Int32) (Mft : Int32) (Msz : Int32) (Mal : Int32) (Mbs : Int32) (Mpl : Int32) (Mbg : Int32) (Mlo : Int32) (Mhs : Int32) (Mhf : Int32) (Mhp : Int32) (Mrs : Int32) (Mrf : Int32) (Mto : Int32) (Mtb : Int32) (Mfr : Int32) (Mln : Int32) (Mhb : Int32) (v : Int32) : zMV l yX6_clear wsX6_clear ({ frames := 1, cells := 0, slots := 0, locals := 22 }) g [.ref M, .int v] [(M, .inr (5, [.int Mft, .int Msz, .int Mal, .ref ab, .int Mbs, .ref au, .int Mpl, .int Mbg, .int Mlo, .int Mhs, .int Mhf, .ref ah, .int Mhp, .int Mrs, .int Mrf, .ref ar, .int Mto, .int Mtb, .ref aw, .ref ay, .int Mfr, .int Mln, .int Mhb])), (ab, .inl (g.2.2.1, 4096, .inl MB)), (au, .inl (g.2.2.1, 400, .inl MU)), (ah, .inl (g.2.2.1, 4096, .inl MH)), (ar, .inl (g.2.2.1, 4096, .inl MR)), (aw, .inl (g.2.2.1, 100, .inl MW)), (ay, .inl (g.2.2.1, 100, .inl MY))] [(M, .inr (5, [.int ((f_X6_clear Msz Mal Mpl Mbg Mlo Mhs Mhf Mrs Mrf Mto Mtb v).1), .int ((f_X6_clear Msz Mal Mpl Mbg Mlo Mhs Mhf Mrs Mrf Mto Mtb v).2.1), .int ((f_X6_clear Msz Mal Mpl Mbg Mlo Mhs Mhf Mrs Mrf Mto Mtb v).2.2.1), .ref ab, .int Mbs, .ref au, .int ((f_X6_clear Msz Mal Mpl Mbg Mlo Mhs Mhf Mrs Mrf Mto Mtb v).2.2.2.1), .int ((f_X6_clear Msz Mal Mpl Mbg Mlo Mhs Mhf Mrs Mrf Mto Mtb v).2.2.2.2.1), .int ((f_X6_clear Msz Mal Mpl Mbg Mlo Mhs Mhf Mrs Mrf Mto Mtb v).2.2.2.2.2.1), .int ((f_X6_clear Msz Mal Mpl Mbg Mlo Mhs Mhf Mrs Mrf Mto Mtb v).2.2.2.2.2.2.1), .int ((f_X6_clear Msz Mal Mpl Mbg Mlo Mhs Mhf Mrs Mrf Mto Mtb v).2.2.2.2.2.2.2.1), .ref ah, .int Mhp, .int ((f_X6_clear Msz Mal Mpl Mbg Mlo Mhs Mhf Mrs Mrf Mto Mtb v).2.2.2.2.2.2.2.2.1), .int ((f_X6_clear Msz Mal Mpl Mbg Mlo Mhs Mhf Mrs Mrf Mto Mtb v).2.2.2.2.2.2.2.2.2.1), .ref ar, .int ((f_X6_clear Msz Mal Mpl Mbg Mlo Mhs Mhf Mrs Mrf Mto Mtb v).2.2.2.2.2.2.2.2.2.2.1), .int ((f_X6_clear Msz Mal Mpl Mbg Mlo Mhs Mhf Mrs Mrf Mto Mtb v).2.2.2.2.2.2.2.2.2.2.2), .ref aw, .ref ay, .int Mfr, .int Mln, .int Mhb])), (ab, .inl (g.2.2.1, 4096, .inl MB)), (au, .inl (g.2.2.1, 400, .inl MU)), (ah, .inl (g.2.2.1, 4096, .inl MH)), (ar, .inl (g.2.2.1, 4096, .inl MR)), (aw, .inl (g.2.2.1, 100, .inl MW)), (ay, .inl (g.2.2.1, 100, .inl MY))] := by
  refine zMV_of (cc := cX6_clear) (nL := 2) (by decide) rfl (Nat.le_of_ble_eq_true rfl) ?_
  intro X C hret
  refine z_lv (lv' := [(0, .ref M), (1, .int v)]) [0, 1] rfl ?_
  refine z_aload_n C dX6_clear_0 rfl 0 rfl ?_
  refine z_iload_n C dX6_clear_1 rfl 1 rfl ?_
  refine z_bipush (v := 16) C dX6_clear_2 (by decide) ?_
  refine z_sipush (v := 512) C dX6_clear_4 (by decide) ?_
  refine z_callSi (n := 3) (isC := []) (isR := [0, 1, 2, 3, 4, 5, 6]) (isP := [0, 1, 2, 3, 4, 5, 6]) (As := [.int v, .int 16, .int 512]) (rest := [.ref M]) (wr := [(M, .inr (5, [.int Mft, .int Msz, .int Mal, .ref ab, .int Mbs, .ref au, .int Mpl, .int Mbg, .int Mlo, .int Mhs, .int Mhf, .ref ah, .int Mhp, .int Mrs, .int Mrf, .ref ar, .int Mto, .int Mtb, .ref aw, .ref ay, .int Mfr, .int Mln, .int Mhb])), (ab, .inl (g.2.2.1, 4096, .inl MB)), (au, .inl (g.2.2.1, 400, .inl MU)), (ah, .inl (g.2.2.1, 4096, .inl MH)), (ar, .inl (g.2.2.1, 4096, .inl MR)), (aw, .inl (g.2.2.1, 100, .inl MW)), (ay, .inl (g.2.2.1, 100, .inl MY))]) (ws2 := [(M, .inr (5, [.int Mft, .int Msz, .int Mal, .ref ab, .int Mbs, .ref au, .int Mpl, .int Mbg, .int Mlo, .int Mhs, .int Mhf, .ref ah, .int Mhp, .int Mrs, .int Mrf, .ref ar, .int Mto, .int Mtb, .ref aw, .ref ay, .int Mfr, .int Mln, .int Mhb])), (ab, .inl (g.2.2.1, 4096, .inl MB)), (au, .inl (g.2.2.1, 400, .inl MU)), (ah, .inl (g.2.2.1, 4096, .inl MH)), (ar, .inl (g.2.2.1, 4096, .inl MR)), (aw, .inl (g.2.2.1, 100, .inl MW)), (ay, .inl (g.2.2.1, 100, .inl MY))]) C dX6_clear_7 (c_X6_isIn (zl X) g v 16 512) gX6_clear_X6_isIn rfl ⟨rfl, rfl⟩ (by decide +kernel) (by decide) (by decide) rfl rfl (Nat.le_of_ble_eq_true rfl) rfl rfl ⟨rfl, rfl, rfl⟩ (by decide) rfl ?_
  generalize hT1 : (f_X6_isIn v 16 512) = rq1
  refine z_if_eq (tgt := 17) C dX6_clear_10 (by decide) (fun c_2 => ?_) (fun c_2 => ?_)
  · skip
    refine z_iconst (v := 1) C dX6_clear_17 (by decide) ?_
    refine z_callVi (n := 1) (isC := [0, 1, 2, 3, 4, 5, 6]) (isR := []) (isP := [0, 1, 2, 3, 4, 5, 6]) (As := [.int 1]) (rest := []) (wr := []) (ws2 := [(M, .inr (5, [.int ((f_X6_refused 1).2), .int Msz, .int Mal, .ref ab, .int Mbs, .ref au, .int Mpl, .int Mbg, .int Mlo, .int Mhs, .int Mhf, .ref ah, .int Mhp, .int Mrs, .int Mrf, .ref ar, .int Mto, .int Mtb, .ref aw, .ref ay, .int Mfr, .int Mln, .int Mhb])), (ab, .inl (g.2.2.1, 4096, .inl MB)), (au, .inl (g.2.2.1, 400, .inl MU)), (ah, .inl (g.2.2.1, 4096, .inl MH)), (ar, .inl (g.2.2.1, 4096, .inl MR)), (aw, .inl (g.2.2.1, 100, .inl MW)), (ay, .inl (g.2.2.1, 100, .inl MY))]) C dX6_clear_18 (c_X6_refused (zl X) g M ab au ah ar aw ay MB MU MH MR MW MY Mft Msz Mal Mbs Mpl Mbg Mlo Mhs Mhf Mhp Mrs Mrf Mto Mtb Mfr Mln Mhb 1) gX6_clear_X6_refused rfl ⟨rfl, rfl⟩ (by decide +kernel) (by decide) (by decide) rfl rfl rfl rfl (Nat.le_of_ble_eq_true rfl) rfl rfl ⟨rfl, rfl, rfl⟩ (by decide) rfl ?_
    have hT3 : (f_X6_refused 1) = (1, 1) := by decide
    rw [hT3]
    refine z_if_eq (tgt := 25) C dX6_clear_21 (by decide) (fun c_4 => absurd c_4 (by decide)) (fun c_4 => ?_)
    have he : (f_X6_clear Msz Mal Mpl Mbg Mlo Mhs Mhf Mrs Mrf Mto Mtb v) = (1, Msz, Mal, Mpl, Mbg, Mlo, Mhs, Mhf, Mrs, Mrf, Mto, Mtb) := by simp only [f_X6_clear, hT1, if_pos c_2]
    exact hret _ _ _ dX6_clear_24 (by first | rw [he] | rfl)
  · skip
    refine z_iconst (v := 0) C dX6_clear_13 (by decide) ?_
    refine z_goto (tgt := 18) C dX6_clear_14 (by decide) ?_
    refine z_callVi (n := 1) (isC := [0, 1, 2, 3, 4, 5, 6]) (isR := []) (isP := [0, 1, 2, 3, 4, 5, 6]) (As := [.int 0]) (rest := []) (wr := []) (ws2 := [(M, .inr (5, [.int ((f_X6_refused 0).2), .int Msz, .int Mal, .ref ab, .int Mbs, .ref au, .int Mpl, .int Mbg, .int Mlo, .int Mhs, .int Mhf, .ref ah, .int Mhp, .int Mrs, .int Mrf, .ref ar, .int Mto, .int Mtb, .ref aw, .ref ay, .int Mfr, .int Mln, .int Mhb])), (ab, .inl (g.2.2.1, 4096, .inl MB)), (au, .inl (g.2.2.1, 400, .inl MU)), (ah, .inl (g.2.2.1, 4096, .inl MH)), (ar, .inl (g.2.2.1, 4096, .inl MR)), (aw, .inl (g.2.2.1, 100, .inl MW)), (ay, .inl (g.2.2.1, 100, .inl MY))]) C dX6_clear_18 (c_X6_refused (zl X) g M ab au ah ar aw ay MB MU MH MR MW MY Mft Msz Mal Mbs Mpl Mbg Mlo Mhs Mhf Mhp Mrs Mrf Mto Mtb Mfr Mln Mhb 0) gX6_clear_X6_refused rfl ⟨rfl, rfl⟩ (by decide +kernel) (by decide) (by decide) rfl rfl rfl rfl (Nat.le_of_ble_eq_true rfl) rfl rfl ⟨rfl, rfl, rfl⟩ (by decide) rfl ?_
    have hT5 : (f_X6_refused 0) = (0, 0) := by decide
    rw [hT5]
    refine z_if_eq (tgt := 25) C dX6_clear_21 (by decide) (fun c_6 => ?_) (fun c_6 => absurd (by decide) c_6)
    refine z_aload_n C dX6_clear_25 rfl 0 rfl ?_
    refine z_iload_n C dX6_clear_26 rfl 1 rfl ?_
    refine z_put (ci := 5) (v := .int v) (ty := .int) (Cn := RX6) (T := TX6) (N := 23) (ws' := [(M, .inr (5, [.int 0, .int v, .int Mal, .ref ab, .int Mbs, .ref au, .int Mpl, .int Mbg, .int Mlo, .int Mhs, .int Mhf, .ref ah, .int Mhp, .int Mrs, .int Mrf, .ref ar, .int Mto, .int Mtb, .ref aw, .ref ay, .int Mfr, .int Mln, .int Mhb])), (ab, .inl (g.2.2.1, 4096, .inl MB)), (au, .inl (g.2.2.1, 400, .inl MU)), (ah, .inl (g.2.2.1, 4096, .inl MH)), (ar, .inl (g.2.2.1, 4096, .inl MR)), (aw, .inl (g.2.2.1, 100, .inl MW)), (ay, .inl (g.2.2.1, 100, .inl MY))]) C dX6_clear_27 (fun w h => List.mem_cons_of_mem _ (List.mem_append_right _ h)) tyX6 tyX6_ok nmX6 0 rfl rfl 1 (by decide) (List.mem_of_getElem? (i := 1) rfl) rfl rfl (by decide +kernel) rfl rfl (Nat.le_of_ble_eq_true rfl) rfl ?_
    refine z_aload_n C dX6_clear_30 rfl 0 rfl ?_
    refine z_iconst (v := 0) C dX6_clear_31 (by decide) ?_
    refine z_put (ci := 5) (v := .int 0) (ty := .int) (Cn := RX6) (T := TX6) (N := 23) (ws' := [(M, .inr (5, [.int 0, .int v, .int 0, .ref ab, .int Mbs, .ref au, .int Mpl, .int Mbg, .int Mlo, .int Mhs, .int Mhf, .ref ah, .int Mhp, .int Mrs, .int Mrf, .ref ar, .int Mto, .int Mtb, .ref aw, .ref ay, .int Mfr, .int Mln, .int Mhb])), (ab, .inl (g.2.2.1, 4096, .inl MB)), (au, .inl (g.2.2.1, 400, .inl MU)), (ah, .inl (g.2.2.1, 4096, .inl MH)), (ar, .inl (g.2.2.1, 4096, .inl MR)), (aw, .inl (g.2.2.1, 100, .inl MW)), (ay, .inl (g.2.2.1, 100, .inl MY))]) C dX6_clear_32 (fun w h => List.mem_cons_of_mem _ (List.mem_append_right _ h)) tyX6 tyX6_ok nmX6 0 rfl rfl 2 (by decide) (List.mem_of_getElem? (i := 2) rfl) rfl rfl (by decide +kernel) rfl rfl (Nat.le_of_ble_eq_true rfl) rfl ?_
    refine z_aload_n C dX6_clear_35 rfl 0 rfl ?_
    refine z_iconst (v := 0) C dX6_clear_36 (by decide) ?_
    refine z_callVv (n := 1) (isC := [0, 1, 2, 3, 4, 5, 6]) (isR := []) (isP := [0, 1, 2, 3, 4, 5, 6]) (As := [.int 0]) (rest := []) (wr := []) (ws2 := [(M, .inr (5, [.int 0, .int v, .int 0, .ref ab, .int Mbs, .ref au, .int ((f_X6_beginAt v 0).1), .int ((f_X6_beginAt v 0).2.1), .int ((f_X6_beginAt v 0).2.2.1), .int ((f_X6_beginAt v 0).2.2.2.1), .int ((f_X6_beginAt v 0).2.2.2.2.1), .ref ah, .int Mhp, .int ((f_X6_beginAt v 0).2.2.2.2.2.1), .int ((f_X6_beginAt v 0).2.2.2.2.2.2.1), .ref ar, .int ((f_X6_beginAt v 0).2.2.2.2.2.2.2.1), .int ((f_X6_beginAt v 0).2.2.2.2.2.2.2.2), .ref aw, .ref ay, .int Mfr, .int Mln, .int Mhb])), (ab, .inl (g.2.2.1, 4096, .inl MB)), (au, .inl (g.2.2.1, 400, .inl MU)), (ah, .inl (g.2.2.1, 4096, .inl MH)), (ar, .inl (g.2.2.1, 4096, .inl MR)), (aw, .inl (g.2.2.1, 100, .inl MW)), (ay, .inl (g.2.2.1, 100, .inl MY))]) C dX6_clear_37 (c_X6_beginAt (zl X) g M ab au ah ar aw ay MB MU MH MR MW MY 0 v 0 Mbs Mpl Mbg Mlo Mhs Mhf Mhp Mrs Mrf Mto Mtb Mfr Mln Mhb 0 (zsz_of (zisIn hT1 c_2).1 (zisIn hT1 c_2).2)) gX6_clear_X6_beginAt rfl ⟨rfl, rfl⟩ (by decide +kernel) (by decide) (by decide) rfl rfl rfl rfl (Nat.le_of_ble_eq_true rfl) rfl rfl ⟨rfl, rfl, rfl⟩ (by decide) rfl ?_
    generalize hT7 : (f_X6_beginAt v 0) = T7
    obtain ⟨Mplq7, Mbgq7, Mloq7, Mhsq7, Mhfq7, Mrsq7, Mrfq7, Mtoq7, Mtbq7⟩ := T7
    have he : (f_X6_clear Msz Mal Mpl Mbg Mlo Mhs Mhf Mrs Mrf Mto Mtb v) = (0, v, 0, Mplq7, Mbgq7, Mloq7, Mhsq7, Mhfq7, Mrsq7, Mrfq7, Mtoq7, Mtbq7) := by simp only [f_X6_clear, hT1, if_neg c_2, hT7]
    exact hret _ _ _ dX6_clear_40 (by first | rw [he] | rfl)
def b_X6_feed (pa : Int32) (pb : Int32) (pc : Int32) (pd : Int32) (k : Int32) (z_ : (Nat → Int32) × Int32) : (Nat → Int32) × Int32 :=
  match z_ with
  | (MU_, Mbs_) =>
    if 4 ≤ k then
      if 8 ≤ k then
        if 12 ≤ k then
          ((upd MU_ (Mbs_).toNatClampNeg ((pd >>> (((24 - (8 * (zMod k 4))) : Int32) &&& 31)) &&& 255)), (Mbs_ + 1))
        else
          ((upd MU_ (Mbs_).toNatClampNeg ((pc >>> (((24 - (8 * (zMod k 4))) : Int32) &&& 31)) &&& 255)), (Mbs_ + 1))
      else
        ((upd MU_ (Mbs_).toNatClampNeg ((pb >>> (((24 - (8 * (zMod k 4))) : Int32) &&& 31)) &&& 255)), (Mbs_ + 1))
    else
      ((upd MU_ (Mbs_).toNatClampNeg ((pa >>> (((24 - (8 * (zMod k 4))) : Int32) &&& 31)) &&& 255)), (Mbs_ + 1))
def lp_X6_feed (pa : Int32) (pb : Int32) (pc : Int32) (pd : Int32) (z_ : (Nat → Int32) × Int32) : Nat → (Nat → Int32) × Int32
  | 0 => z_
  | i + 1 => b_X6_feed pa pb pc pd (nI i) (lp_X6_feed pa pb pc pd z_ i)
def f_X6_feed (MU : Nat → Int32) (Mbs : Int32) (v : Int32) (pa : Int32) (pb : Int32) (pc : Int32) (pd : Int32) : Int32 × (Nat → Int32) × Int32 × Int32 :=
  if (f_X6_isIn v 0 16) = 0 then
    (0, MU, 1, Mbs)
  else
    if (Mbs + v) ≤ 400 then
      match lp_X6_feed pa pb pc pd (MU, Mbs) (v).toNatClampNeg with
      | (MU_, Mbs_) =>
        (Mbs_, MU_, 0, Mbs_)
    else
      (0, MU, 2, Mbs)
theorem zfeed_room {v b r : Int32} (hu : zok 400 b) (h : f_X6_isIn v 0 16 = r) (c : ¬ r = 0) (c2 : b + v ≤ 400) : zroom 400 v.toNatClampNeg b := by
  obtain ⟨h1, h2⟩ := zisIn h c
  obtain ⟨a1, a2, a3⟩ := hu
  simp only [Int32.le_iff_toInt_le] at h1 h2 c2
  have o0 : (0 : Int32).toInt = 0 := rfl
  have o16 : (16 : Int32).toInt = 16 := rfl
  have o4 : (400 : Int32).toInt = 400 := rfl
  rw [zadd (by omega) (by omega)] at c2
  have := zclamp (x := v) (by omega)
  exact ⟨a1, by omega, by omega⟩
set_option maxHeartbeats 4000000 in
set_option maxRecDepth 100000 in
theorem c_X6_feed (l : Launch) (g : zG) (M ab au ah ar aw ay : Nat) (MB : Nat → Int32) (MU : Nat → Int32) (MH : Nat → Int32) (MR : Nat → Int32) (MW : Nat → Int32) (MY : Nat → Int32) (Mft : Int32) (Msz : Int32) (Mal : Int32) (Mbs : Int32) (Mpl : Int32) (Mbg : Int32) (Mlo : Int32) (Mhs : Int32) (Mhf : Int32) (Mhp : Int32) (Mrs : Int32) (Mrf : Int32) (Mto : Int32) (Mtb : Int32) (Mfr : Int32) (Mln : Int32) (Mhb : Int32) (v : Int32) (pa : Int32) (pb : Int32) (pc : Int32) (pd : Int32) (hu : zok 400 Mbs) : zMI l yX6_feed wsX6_feed ({ frames := 1, cells := 0, slots := 0, locals := 22 }) g [.ref M, .int v, .int pa, .int pb, .int pc, .int pd] [(M, .inr (5, [.int Mft, .int Msz, .int Mal, .ref ab, .int Mbs, .ref au, .int Mpl, .int Mbg, .int Mlo, .int Mhs, .int Mhf, .ref ah, .int Mhp, .int Mrs, .int Mrf, .ref ar, .int Mto, .int Mtb, .ref aw, .ref ay, .int Mfr, .int Mln, .int Mhb])), (ab, .inl (g.2.2.1, 4096, .inl MB)), (au, .inl (g.2.2.1, 400, .inl MU)), (ah, .inl (g.2.2.1, 4096, .inl MH)), (ar, .inl (g.2.2.1, 4096, .inl MR)), (aw, .inl (g.2.2.1, 100, .inl MW)), (ay, .inl (g.2.2.1, 100, .inl MY))] ((f_X6_feed MU Mbs v pa pb pc pd).1) [(M, .inr (5, [.int ((f_X6_feed MU Mbs v pa pb pc pd).2.2.1), .int Msz, .int Mal, .ref ab, .int ((f_X6_feed MU Mbs v pa pb pc pd).2.2.2), .ref au, .int Mpl, .int Mbg, .int Mlo, .int Mhs, .int Mhf, .ref ah, .int Mhp, .int Mrs, .int Mrf, .ref ar, .int Mto, .int Mtb, .ref aw, .ref ay, .int Mfr, .int Mln, .int Mhb])), (ab, .inl (g.2.2.1, 4096, .inl MB)), (au, .inl (g.2.2.1, 400, .inl ((f_X6_feed MU Mbs v pa pb pc pd).2.1))), (ah, .inl (g.2.2.1, 4096, .inl MH)), (ar, .inl (g.2.2.1, 4096, .inl MR)), (aw, .inl (g.2.2.1, 100, .inl MW)), (ay, .inl (g.2.2.1, 100, .inl MY))] := by
  refine zMI_of (cc := cX6_feed) (nL := 8) (ty := .int) (by decide) rfl (Nat.le_of_ble_eq_true rfl) rfl ?_
  intro X C hret
  refine z_lv (lv' := [(0, .ref M), (1, .int v), (2, .int pa), (3, .int pb), (4, .int pc), (5, .int pd)]) [0, 1, 2, 3, 4, 5] rfl ?_
  refine z_aload_n C dX6_feed_0 rfl 0 rfl ?_
  refine z_iload_n C dX6_feed_1 rfl 1 rfl ?_
  refine z_iconst (v := 0) C dX6_feed_2 (by decide) ?_
  refine z_bipush (v := 16) C dX6_feed_3 (by decide) ?_
  refine z_callSi (n := 3) (isC := []) (isR := [0, 1, 2, 3, 4, 5, 6]) (isP := [0, 1, 2, 3, 4, 5, 6]) (As := [.int v, .int 0, .int 16]) (rest := [.ref M]) (wr := [(M, .inr (5, [.int Mft, .int Msz, .int Mal, .ref ab, .int Mbs, .ref au, .int Mpl, .int Mbg, .int Mlo, .int Mhs, .int Mhf, .ref ah, .int Mhp, .int Mrs, .int Mrf, .ref ar, .int Mto, .int Mtb, .ref aw, .ref ay, .int Mfr, .int Mln, .int Mhb])), (ab, .inl (g.2.2.1, 4096, .inl MB)), (au, .inl (g.2.2.1, 400, .inl MU)), (ah, .inl (g.2.2.1, 4096, .inl MH)), (ar, .inl (g.2.2.1, 4096, .inl MR)), (aw, .inl (g.2.2.1, 100, .inl MW)), (ay, .inl (g.2.2.1, 100, .inl MY))]) (ws2 := [(M, .inr (5, [.int Mft, .int Msz, .int Mal, .ref ab, .int Mbs, .ref au, .int Mpl, .int Mbg, .int Mlo, .int Mhs, .int Mhf, .ref ah, .int Mhp, .int Mrs, .int Mrf, .ref ar, .int Mto, .int Mtb, .ref aw, .ref ay, .int Mfr, .int Mln, .int Mhb])), (ab, .inl (g.2.2.1, 4096, .inl MB)), (au, .inl (g.2.2.1, 400, .inl MU)), (ah, .inl (g.2.2.1, 4096, .inl MH)), (ar, .inl (g.2.2.1, 4096, .inl MR)), (aw, .inl (g.2.2.1, 100, .inl MW)), (ay, .inl (g.2.2.1, 100, .inl MY))]) C dX6_feed_5 (c_X6_isIn (zl X) g v 0 16) gX6_feed_X6_isIn rfl ⟨rfl, rfl⟩ (by decide +kernel) (by decide) (by decide) rfl rfl (Nat.le_of_ble_eq_true rfl) rfl rfl ⟨rfl, rfl, rfl⟩ (by decide) rfl ?_
  generalize hT1 : (f_X6_isIn v 0 16) = rq1
  refine z_if_ne (tgt := 15) C dX6_feed_8 (by decide) (fun c_2 => ?_) (fun c_2 => ?_)
  · skip
    refine z_aload_n C dX6_feed_15 rfl 0 rfl ?_
    refine z_get (ci := 5) (v := .int Mbs) (Cn := RX6) (T := TX6) (N := 23) C dX6_feed_16 (fun w h => List.mem_cons_of_mem _ (List.mem_append_right _ h)) 0 rfl rfl 4 (by decide) (List.mem_of_getElem? (i := 1) rfl) rfl rfl ?_
    refine z_iload_n C dX6_feed_19 rfl 1 rfl ?_
    refine z_iadd C dX6_feed_20 ?_
    refine z_sipush (v := 400) C dX6_feed_21 (by decide) ?_
    refine z_icmp_le (tgt := 31) C dX6_feed_24 (by decide) (fun c_3 => ?_) (fun c_3 => ?_)
    · skip
      refine z_iconst (v := 0) C dX6_feed_31 (by decide) ?_
      refine z_callVi (n := 1) (isC := [0, 1, 2, 3, 4, 5, 6]) (isR := []) (isP := [0, 1, 2, 3, 4, 5, 6]) (As := [.int 0]) (rest := []) (wr := []) (ws2 := [(M, .inr (5, [.int ((f_X6_refused 0).2), .int Msz, .int Mal, .ref ab, .int Mbs, .ref au, .int Mpl, .int Mbg, .int Mlo, .int Mhs, .int Mhf, .ref ah, .int Mhp, .int Mrs, .int Mrf, .ref ar, .int Mto, .int Mtb, .ref aw, .ref ay, .int Mfr, .int Mln, .int Mhb])), (ab, .inl (g.2.2.1, 4096, .inl MB)), (au, .inl (g.2.2.1, 400, .inl MU)), (ah, .inl (g.2.2.1, 4096, .inl MH)), (ar, .inl (g.2.2.1, 4096, .inl MR)), (aw, .inl (g.2.2.1, 100, .inl MW)), (ay, .inl (g.2.2.1, 100, .inl MY))]) C dX6_feed_32 (c_X6_refused (zl X) g M ab au ah ar aw ay MB MU MH MR MW MY Mft Msz Mal Mbs Mpl Mbg Mlo Mhs Mhf Mhp Mrs Mrf Mto Mtb Mfr Mln Mhb 0) gX6_feed_X6_refused rfl ⟨rfl, rfl⟩ (by decide +kernel) (by decide) (by decide) rfl rfl rfl rfl (Nat.le_of_ble_eq_true rfl) rfl rfl ⟨rfl, rfl, rfl⟩ (by decide) rfl ?_
      have hT4 : (f_X6_refused 0) = (0, 0) := by decide
      rw [hT4]
      refine z_if_eq (tgt := 40) C dX6_feed_35 (by decide) (fun c_5 => ?_) (fun c_5 => absurd (by decide) c_5)
      refine z_iconst (v := 0) C dX6_feed_40 (by decide) ?_
      refine z_istore (lv' := [(6, .int 0), (0, .ref M), (1, .int v), (2, .int pa), (3, .int pb), (4, .int pc), (5, .int pd)]) C dX6_feed_41 (by decide) rfl ?_
      have loop : ∀ (r i : Nat), i + r = (v).toNatClampNeg → ∀ (MU_ : Nat → Int32) (Mbs_ : Int32), lp_X6_feed pa pb pc pd (MU, Mbs) i = (MU_, Mbs_) → zroom 400 r Mbs_ → zV X g 8 0 0 43 [(0, .ref M), (1, .int v), (2, .int pa), (3, .int pb), (4, .int pc), (5, .int pd), (6, .int (nI i))] [] [(M, .inr (5, [.int 0, .int Msz, .int Mal, .ref ab, .int Mbs_, .ref au, .int Mpl, .int Mbg, .int Mlo, .int Mhs, .int Mhf, .ref ah, .int Mhp, .int Mrs, .int Mrf, .ref ar, .int Mto, .int Mtb, .ref aw, .ref ay, .int Mfr, .int Mln, .int Mhb])), (ab, .inl (g.2.2.1, 4096, .inl MB)), (au, .inl (g.2.2.1, 400, .inl MU_)), (ah, .inl (g.2.2.1, 4096, .inl MH)), (ar, .inl (g.2.2.1, 4096, .inl MR)), (aw, .inl (g.2.2.1, 100, .inl MW)), (ay, .inl (g.2.2.1, 100, .inl MY))] := by
        intro r
        induction r with
        | zero =>
          intro i hi MU_ Mbs_ hv hb_
          have hi : i = (v).toNatClampNeg := hi
          refine z_iload C dX6_feed_43 6 rfl ?_
          refine z_iload_n C dX6_feed_45 rfl 1 rfl ?_
          refine z_icmp_ge (tgt := 128) C dX6_feed_46 (by decide) (fun c_6 => ?_) (fun c_6 => absurd (zfor_out hi) c_6)
          refine z_aload_n C dX6_feed_128 rfl 0 rfl ?_
          refine z_get (ci := 5) (v := .int Mbs_) (Cn := RX6) (T := TX6) (N := 23) C dX6_feed_129 (fun w h => List.mem_cons_of_mem _ (List.mem_append_right _ h)) 0 rfl rfl 4 (by decide) (List.mem_of_getElem? (i := 1) rfl) rfl rfl ?_
          have he : (f_X6_feed MU Mbs v pa pb pc pd) = (Mbs_, MU_, 0, Mbs_) := by simp only [f_X6_feed, hT1, if_neg c_2, if_pos c_3, ← hi, hv]
          exact hret _ _ _ _ dX6_feed_132 (by first | rw [he] | rfl) (by first | rw [he] | rfl)
        | succ r ih =>
          intro i hi MU_ Mbs_ hv hb_
          refine z_iload C dX6_feed_43 6 rfl ?_
          refine z_iload_n C dX6_feed_45 rfl 1 rfl ?_
          refine z_icmp_ge (tgt := 128) C dX6_feed_46 (by decide) (fun c_7 => absurd c_7 (zfor_in hi)) (fun c_7 => ?_)
          refine z_iload C dX6_feed_49 6 rfl ?_
          refine z_iconst (v := 4) C dX6_feed_51 (by decide) ?_
          refine z_icmp_ge (tgt := 59) C dX6_feed_52 (by decide) (fun c_8 => ?_) (fun c_8 => ?_)
          · skip
            refine z_iload C dX6_feed_59 6 rfl ?_
            refine z_bipush (v := 8) C dX6_feed_61 (by decide) ?_
            refine z_icmp_ge (tgt := 70) C dX6_feed_63 (by decide) (fun c_9 => ?_) (fun c_9 => ?_)
            · skip
              refine z_iload C dX6_feed_70 6 rfl ?_
              refine z_bipush (v := 12) C dX6_feed_72 (by decide) ?_
              refine z_icmp_ge (tgt := 82) C dX6_feed_74 (by decide) (fun c_10 => ?_) (fun c_10 => ?_)
              · skip
                refine z_iload C dX6_feed_82 5 rfl ?_
                refine z_istore (lv' := [(7, .int pd), (0, .ref M), (1, .int v), (2, .int pa), (3, .int pb), (4, .int pc), (5, .int pd), (6, .int (nI i))]) C dX6_feed_84 (by decide) rfl ?_
                refine z_aload_n C dX6_feed_86 rfl 1 rfl ?_
                refine z_get (ci := 5) (v := .ref au) (Cn := RX6) (T := TX6) (N := 23) C dX6_feed_87 (fun w h => List.mem_cons_of_mem _ (List.mem_append_right _ h)) 0 rfl rfl 5 (by decide) (List.mem_of_getElem? (i := 2) rfl) rfl rfl ?_
                refine z_aload_n C dX6_feed_90 rfl 1 rfl ?_
                refine z_get (ci := 5) (v := .int Mbs_) (Cn := RX6) (T := TX6) (N := 23) C dX6_feed_91 (fun w h => List.mem_cons_of_mem _ (List.mem_append_right _ h)) 0 rfl rfl 4 (by decide) (List.mem_of_getElem? (i := 1) rfl) rfl rfl ?_
                refine z_iload C dX6_feed_94 0 rfl ?_
                refine z_bipush (v := 24) C dX6_feed_96 (by decide) ?_
                refine z_bipush (v := 8) C dX6_feed_98 (by decide) ?_
                refine z_iload C dX6_feed_100 7 rfl ?_
                refine z_iconst (v := 4) C dX6_feed_102 (by decide) ?_
                refine z_irem C dX6_feed_103 (by decide) ?_
                refine z_imul C dX6_feed_104 ?_
                refine z_isub C dX6_feed_105 ?_
                refine z_ishr C dX6_feed_106 ?_
                refine z_sipush (v := 255) C dX6_feed_107 (by decide) ?_
                refine z_iand C dX6_feed_110 ?_
                refine z_iast (ws' := [(M, .inr (5, [.int 0, .int Msz, .int Mal, .ref ab, .int Mbs_, .ref au, .int Mpl, .int Mbg, .int Mlo, .int Mhs, .int Mhf, .ref ah, .int Mhp, .int Mrs, .int Mrf, .ref ar, .int Mto, .int Mtb, .ref aw, .ref ay, .int Mfr, .int Mln, .int Mhb])), (ab, .inl (g.2.2.1, 4096, .inl MB)), (au, .inl (g.2.2.1, 400, .inl (upd MU_ (Mbs_).toNatClampNeg ((pd >>> (((24 - (8 * (zMod (nI i) 4))) : Int32) &&& 31)) &&& 255)))), (ah, .inl (g.2.2.1, 4096, .inl MH)), (ar, .inl (g.2.2.1, 4096, .inl MR)), (aw, .inl (g.2.2.1, 100, .inl MW)), (ay, .inl (g.2.2.1, 100, .inl MY))]) C dX6_feed_111 2 rfl (zroom_in hb_) rfl ?_
                refine z_aload_n C dX6_feed_112 rfl 1 rfl ?_
                refine z_dup C dX6_feed_113 rfl ?_
                refine z_get (ci := 5) (v := .int Mbs_) (Cn := RX6) (T := TX6) (N := 23) C dX6_feed_114 (fun w h => List.mem_cons_of_mem _ (List.mem_append_right _ h)) 0 rfl rfl 4 (by decide) (List.mem_of_getElem? (i := 1) rfl) rfl rfl ?_
                refine z_iconst (v := 1) C dX6_feed_117 (by decide) ?_
                refine z_iadd C dX6_feed_118 ?_
                refine z_put (ci := 5) (v := .int (Mbs_ + 1)) (ty := .int) (Cn := RX6) (T := TX6) (N := 23) (ws' := [(M, .inr (5, [.int 0, .int Msz, .int Mal, .ref ab, .int (Mbs_ + 1), .ref au, .int Mpl, .int Mbg, .int Mlo, .int Mhs, .int Mhf, .ref ah, .int Mhp, .int Mrs, .int Mrf, .ref ar, .int Mto, .int Mtb, .ref aw, .ref ay, .int Mfr, .int Mln, .int Mhb])), (ab, .inl (g.2.2.1, 4096, .inl MB)), (au, .inl (g.2.2.1, 400, .inl (upd MU_ (Mbs_).toNatClampNeg ((pd >>> (((24 - (8 * (zMod (nI i) 4))) : Int32) &&& 31)) &&& 255)))), (ah, .inl (g.2.2.1, 4096, .inl MH)), (ar, .inl (g.2.2.1, 4096, .inl MR)), (aw, .inl (g.2.2.1, 100, .inl MW)), (ay, .inl (g.2.2.1, 100, .inl MY))]) C dX6_feed_119 (fun w h => List.mem_cons_of_mem _ (List.mem_append_right _ h)) tyX6 tyX6_ok nmX6 0 rfl rfl 4 (by decide) (List.mem_of_getElem? (i := 1) rfl) rfl rfl (by decide +kernel) rfl rfl (Nat.le_of_ble_eq_true rfl) rfl ?_
                refine z_iinc (v := (nI (i + 1))) (lv' := [(6, .int (nI (i + 1))), (7, .int pd), (0, .ref M), (1, .int v), (2, .int pa), (3, .int pb), (4, .int pc), (5, .int pd)]) C dX6_feed_122 7 rfl (nI_1 i) (by decide) rfl ?_
                refine z_goto (tgt := 43) C dX6_feed_125 (by decide) ?_
                have hs : lp_X6_feed pa pb pc pd (MU, Mbs) (i + 1) = ((upd MU_ (Mbs_).toNatClampNeg ((pd >>> (((24 - (8 * (zMod (nI i) 4))) : Int32) &&& 31)) &&& 255)), (Mbs_ + 1)) := by
                  show b_X6_feed pa pb pc pd (nI i) (lp_X6_feed pa pb pc pd (MU, Mbs) i) = _
                  rw [hv]
                  simp only [b_X6_feed, if_pos c_8, if_pos c_9, if_pos c_10]
                exact z_lv [2, 3, 4, 5, 6, 7, 0] rfl (ih (i + 1) (by omega) (upd MU_ (Mbs_).toNatClampNeg ((pd >>> (((24 - (8 * (zMod (nI i) 4))) : Int32) &&& 31)) &&& 255)) (Mbs_ + 1) hs (zroom_s hb_))
              · skip
                refine z_iload C dX6_feed_77 4 rfl ?_
                refine z_goto (tgt := 84) C dX6_feed_79 (by decide) ?_
                refine z_istore (lv' := [(7, .int pc), (0, .ref M), (1, .int v), (2, .int pa), (3, .int pb), (4, .int pc), (5, .int pd), (6, .int (nI i))]) C dX6_feed_84 (by decide) rfl ?_
                refine z_aload_n C dX6_feed_86 rfl 1 rfl ?_
                refine z_get (ci := 5) (v := .ref au) (Cn := RX6) (T := TX6) (N := 23) C dX6_feed_87 (fun w h => List.mem_cons_of_mem _ (List.mem_append_right _ h)) 0 rfl rfl 5 (by decide) (List.mem_of_getElem? (i := 2) rfl) rfl rfl ?_
                refine z_aload_n C dX6_feed_90 rfl 1 rfl ?_
                refine z_get (ci := 5) (v := .int Mbs_) (Cn := RX6) (T := TX6) (N := 23) C dX6_feed_91 (fun w h => List.mem_cons_of_mem _ (List.mem_append_right _ h)) 0 rfl rfl 4 (by decide) (List.mem_of_getElem? (i := 1) rfl) rfl rfl ?_
                refine z_iload C dX6_feed_94 0 rfl ?_
                refine z_bipush (v := 24) C dX6_feed_96 (by decide) ?_
                refine z_bipush (v := 8) C dX6_feed_98 (by decide) ?_
                refine z_iload C dX6_feed_100 7 rfl ?_
                refine z_iconst (v := 4) C dX6_feed_102 (by decide) ?_
                refine z_irem C dX6_feed_103 (by decide) ?_
                refine z_imul C dX6_feed_104 ?_
                refine z_isub C dX6_feed_105 ?_
                refine z_ishr C dX6_feed_106 ?_
                refine z_sipush (v := 255) C dX6_feed_107 (by decide) ?_
                refine z_iand C dX6_feed_110 ?_
                refine z_iast (ws' := [(M, .inr (5, [.int 0, .int Msz, .int Mal, .ref ab, .int Mbs_, .ref au, .int Mpl, .int Mbg, .int Mlo, .int Mhs, .int Mhf, .ref ah, .int Mhp, .int Mrs, .int Mrf, .ref ar, .int Mto, .int Mtb, .ref aw, .ref ay, .int Mfr, .int Mln, .int Mhb])), (ab, .inl (g.2.2.1, 4096, .inl MB)), (au, .inl (g.2.2.1, 400, .inl (upd MU_ (Mbs_).toNatClampNeg ((pc >>> (((24 - (8 * (zMod (nI i) 4))) : Int32) &&& 31)) &&& 255)))), (ah, .inl (g.2.2.1, 4096, .inl MH)), (ar, .inl (g.2.2.1, 4096, .inl MR)), (aw, .inl (g.2.2.1, 100, .inl MW)), (ay, .inl (g.2.2.1, 100, .inl MY))]) C dX6_feed_111 2 rfl (zroom_in hb_) rfl ?_
                refine z_aload_n C dX6_feed_112 rfl 1 rfl ?_
                refine z_dup C dX6_feed_113 rfl ?_
                refine z_get (ci := 5) (v := .int Mbs_) (Cn := RX6) (T := TX6) (N := 23) C dX6_feed_114 (fun w h => List.mem_cons_of_mem _ (List.mem_append_right _ h)) 0 rfl rfl 4 (by decide) (List.mem_of_getElem? (i := 1) rfl) rfl rfl ?_
                refine z_iconst (v := 1) C dX6_feed_117 (by decide) ?_
                refine z_iadd C dX6_feed_118 ?_
                refine z_put (ci := 5) (v := .int (Mbs_ + 1)) (ty := .int) (Cn := RX6) (T := TX6) (N := 23) (ws' := [(M, .inr (5, [.int 0, .int Msz, .int Mal, .ref ab, .int (Mbs_ + 1), .ref au, .int Mpl, .int Mbg, .int Mlo, .int Mhs, .int Mhf, .ref ah, .int Mhp, .int Mrs, .int Mrf, .ref ar, .int Mto, .int Mtb, .ref aw, .ref ay, .int Mfr, .int Mln, .int Mhb])), (ab, .inl (g.2.2.1, 4096, .inl MB)), (au, .inl (g.2.2.1, 400, .inl (upd MU_ (Mbs_).toNatClampNeg ((pc >>> (((24 - (8 * (zMod (nI i) 4))) : Int32) &&& 31)) &&& 255)))), (ah, .inl (g.2.2.1, 4096, .inl MH)), (ar, .inl (g.2.2.1, 4096, .inl MR)), (aw, .inl (g.2.2.1, 100, .inl MW)), (ay, .inl (g.2.2.1, 100, .inl MY))]) C dX6_feed_119 (fun w h => List.mem_cons_of_mem _ (List.mem_append_right _ h)) tyX6 tyX6_ok nmX6 0 rfl rfl 4 (by decide) (List.mem_of_getElem? (i := 1) rfl) rfl rfl (by decide +kernel) rfl rfl (Nat.le_of_ble_eq_true rfl) rfl ?_
                refine z_iinc (v := (nI (i + 1))) (lv' := [(6, .int (nI (i + 1))), (7, .int pc), (0, .ref M), (1, .int v), (2, .int pa), (3, .int pb), (4, .int pc), (5, .int pd)]) C dX6_feed_122 7 rfl (nI_1 i) (by decide) rfl ?_
                refine z_goto (tgt := 43) C dX6_feed_125 (by decide) ?_
                have hs : lp_X6_feed pa pb pc pd (MU, Mbs) (i + 1) = ((upd MU_ (Mbs_).toNatClampNeg ((pc >>> (((24 - (8 * (zMod (nI i) 4))) : Int32) &&& 31)) &&& 255)), (Mbs_ + 1)) := by
                  show b_X6_feed pa pb pc pd (nI i) (lp_X6_feed pa pb pc pd (MU, Mbs) i) = _
                  rw [hv]
                  simp only [b_X6_feed, if_pos c_8, if_pos c_9, if_neg c_10]
                exact z_lv [2, 3, 4, 5, 6, 7, 0] rfl (ih (i + 1) (by omega) (upd MU_ (Mbs_).toNatClampNeg ((pc >>> (((24 - (8 * (zMod (nI i) 4))) : Int32) &&& 31)) &&& 255)) (Mbs_ + 1) hs (zroom_s hb_))
            · skip
              refine z_iload_n C dX6_feed_66 rfl 3 rfl ?_
              refine z_goto (tgt := 84) C dX6_feed_67 (by decide) ?_
              refine z_istore (lv' := [(7, .int pb), (0, .ref M), (1, .int v), (2, .int pa), (3, .int pb), (4, .int pc), (5, .int pd), (6, .int (nI i))]) C dX6_feed_84 (by decide) rfl ?_
              refine z_aload_n C dX6_feed_86 rfl 1 rfl ?_
              refine z_get (ci := 5) (v := .ref au) (Cn := RX6) (T := TX6) (N := 23) C dX6_feed_87 (fun w h => List.mem_cons_of_mem _ (List.mem_append_right _ h)) 0 rfl rfl 5 (by decide) (List.mem_of_getElem? (i := 2) rfl) rfl rfl ?_
              refine z_aload_n C dX6_feed_90 rfl 1 rfl ?_
              refine z_get (ci := 5) (v := .int Mbs_) (Cn := RX6) (T := TX6) (N := 23) C dX6_feed_91 (fun w h => List.mem_cons_of_mem _ (List.mem_append_right _ h)) 0 rfl rfl 4 (by decide) (List.mem_of_getElem? (i := 1) rfl) rfl rfl ?_
              refine z_iload C dX6_feed_94 0 rfl ?_
              refine z_bipush (v := 24) C dX6_feed_96 (by decide) ?_
              refine z_bipush (v := 8) C dX6_feed_98 (by decide) ?_
              refine z_iload C dX6_feed_100 7 rfl ?_
              refine z_iconst (v := 4) C dX6_feed_102 (by decide) ?_
              refine z_irem C dX6_feed_103 (by decide) ?_
              refine z_imul C dX6_feed_104 ?_
              refine z_isub C dX6_feed_105 ?_
              refine z_ishr C dX6_feed_106 ?_
              refine z_sipush (v := 255) C dX6_feed_107 (by decide) ?_
              refine z_iand C dX6_feed_110 ?_
              refine z_iast (ws' := [(M, .inr (5, [.int 0, .int Msz, .int Mal, .ref ab, .int Mbs_, .ref au, .int Mpl, .int Mbg, .int Mlo, .int Mhs, .int Mhf, .ref ah, .int Mhp, .int Mrs, .int Mrf, .ref ar, .int Mto, .int Mtb, .ref aw, .ref ay, .int Mfr, .int Mln, .int Mhb])), (ab, .inl (g.2.2.1, 4096, .inl MB)), (au, .inl (g.2.2.1, 400, .inl (upd MU_ (Mbs_).toNatClampNeg ((pb >>> (((24 - (8 * (zMod (nI i) 4))) : Int32) &&& 31)) &&& 255)))), (ah, .inl (g.2.2.1, 4096, .inl MH)), (ar, .inl (g.2.2.1, 4096, .inl MR)), (aw, .inl (g.2.2.1, 100, .inl MW)), (ay, .inl (g.2.2.1, 100, .inl MY))]) C dX6_feed_111 2 rfl (zroom_in hb_) rfl ?_
              refine z_aload_n C dX6_feed_112 rfl 1 rfl ?_
              refine z_dup C dX6_feed_113 rfl ?_
              refine z_get (ci := 5) (v := .int Mbs_) (Cn := RX6) (T := TX6) (N := 23) C dX6_feed_114 (fun w h => List.mem_cons_of_mem _ (List.mem_append_right _ h)) 0 rfl rfl 4 (by decide) (List.mem_of_getElem? (i := 1) rfl) rfl rfl ?_
              refine z_iconst (v := 1) C dX6_feed_117 (by decide) ?_
              refine z_iadd C dX6_feed_118 ?_
              refine z_put (ci := 5) (v := .int (Mbs_ + 1)) (ty := .int) (Cn := RX6) (T := TX6) (N := 23) (ws' := [(M, .inr (5, [.int 0, .int Msz, .int Mal, .ref ab, .int (Mbs_ + 1), .ref au, .int Mpl, .int Mbg, .int Mlo, .int Mhs, .int Mhf, .ref ah, .int Mhp, .int Mrs, .int Mrf, .ref ar, .int Mto, .int Mtb, .ref aw, .ref ay, .int Mfr, .int Mln, .int Mhb])), (ab, .inl (g.2.2.1, 4096, .inl MB)), (au, .inl (g.2.2.1, 400, .inl (upd MU_ (Mbs_).toNatClampNeg ((pb >>> (((24 - (8 * (zMod (nI i) 4))) : Int32) &&& 31)) &&& 255)))), (ah, .inl (g.2.2.1, 4096, .inl MH)), (ar, .inl (g.2.2.1, 4096, .inl MR)), (aw, .inl (g.2.2.1, 100, .inl MW)), (ay, .inl (g.2.2.1, 100, .inl MY))]) C dX6_feed_119 (fun w h => List.mem_cons_of_mem _ (List.mem_append_right _ h)) tyX6 tyX6_ok nmX6 0 rfl rfl 4 (by decide) (List.mem_of_getElem? (i := 1) rfl) rfl rfl (by decide +kernel) rfl rfl (Nat.le_of_ble_eq_true rfl) rfl ?_
              refine z_iinc (v := (nI (i + 1))) (lv' := [(6, .int (nI (i + 1))), (7, .int pb), (0, .ref M), (1, .int v), (2, .int pa), (3, .int pb), (4, .int pc), (5, .int pd)]) C dX6_feed_122 7 rfl (nI_1 i) (by decide) rfl ?_
              refine z_goto (tgt := 43) C dX6_feed_125 (by decide) ?_
              have hs : lp_X6_feed pa pb pc pd (MU, Mbs) (i + 1) = ((upd MU_ (Mbs_).toNatClampNeg ((pb >>> (((24 - (8 * (zMod (nI i) 4))) : Int32) &&& 31)) &&& 255)), (Mbs_ + 1)) := by
                show b_X6_feed pa pb pc pd (nI i) (lp_X6_feed pa pb pc pd (MU, Mbs) i) = _
                rw [hv]
                simp only [b_X6_feed, if_pos c_8, if_neg c_9]
              exact z_lv [2, 3, 4, 5, 6, 7, 0] rfl (ih (i + 1) (by omega) (upd MU_ (Mbs_).toNatClampNeg ((pb >>> (((24 - (8 * (zMod (nI i) 4))) : Int32) &&& 31)) &&& 255)) (Mbs_ + 1) hs (zroom_s hb_))
          · skip
            refine z_iload_n C dX6_feed_55 rfl 2 rfl ?_
            refine z_goto (tgt := 84) C dX6_feed_56 (by decide) ?_
            refine z_istore (lv' := [(7, .int pa), (0, .ref M), (1, .int v), (2, .int pa), (3, .int pb), (4, .int pc), (5, .int pd), (6, .int (nI i))]) C dX6_feed_84 (by decide) rfl ?_
            refine z_aload_n C dX6_feed_86 rfl 1 rfl ?_
            refine z_get (ci := 5) (v := .ref au) (Cn := RX6) (T := TX6) (N := 23) C dX6_feed_87 (fun w h => List.mem_cons_of_mem _ (List.mem_append_right _ h)) 0 rfl rfl 5 (by decide) (List.mem_of_getElem? (i := 2) rfl) rfl rfl ?_
            refine z_aload_n C dX6_feed_90 rfl 1 rfl ?_
            refine z_get (ci := 5) (v := .int Mbs_) (Cn := RX6) (T := TX6) (N := 23) C dX6_feed_91 (fun w h => List.mem_cons_of_mem _ (List.mem_append_right _ h)) 0 rfl rfl 4 (by decide) (List.mem_of_getElem? (i := 1) rfl) rfl rfl ?_
            refine z_iload C dX6_feed_94 0 rfl ?_
            refine z_bipush (v := 24) C dX6_feed_96 (by decide) ?_
            refine z_bipush (v := 8) C dX6_feed_98 (by decide) ?_
            refine z_iload C dX6_feed_100 7 rfl ?_
            refine z_iconst (v := 4) C dX6_feed_102 (by decide) ?_
            refine z_irem C dX6_feed_103 (by decide) ?_
            refine z_imul C dX6_feed_104 ?_
            refine z_isub C dX6_feed_105 ?_
            refine z_ishr C dX6_feed_106 ?_
            refine z_sipush (v := 255) C dX6_feed_107 (by decide) ?_
            refine z_iand C dX6_feed_110 ?_
            refine z_iast (ws' := [(M, .inr (5, [.int 0, .int Msz, .int Mal, .ref ab, .int Mbs_, .ref au, .int Mpl, .int Mbg, .int Mlo, .int Mhs, .int Mhf, .ref ah, .int Mhp, .int Mrs, .int Mrf, .ref ar, .int Mto, .int Mtb, .ref aw, .ref ay, .int Mfr, .int Mln, .int Mhb])), (ab, .inl (g.2.2.1, 4096, .inl MB)), (au, .inl (g.2.2.1, 400, .inl (upd MU_ (Mbs_).toNatClampNeg ((pa >>> (((24 - (8 * (zMod (nI i) 4))) : Int32) &&& 31)) &&& 255)))), (ah, .inl (g.2.2.1, 4096, .inl MH)), (ar, .inl (g.2.2.1, 4096, .inl MR)), (aw, .inl (g.2.2.1, 100, .inl MW)), (ay, .inl (g.2.2.1, 100, .inl MY))]) C dX6_feed_111 2 rfl (zroom_in hb_) rfl ?_
            refine z_aload_n C dX6_feed_112 rfl 1 rfl ?_
            refine z_dup C dX6_feed_113 rfl ?_
            refine z_get (ci := 5) (v := .int Mbs_) (Cn := RX6) (T := TX6) (N := 23) C dX6_feed_114 (fun w h => List.mem_cons_of_mem _ (List.mem_append_right _ h)) 0 rfl rfl 4 (by decide) (List.mem_of_getElem? (i := 1) rfl) rfl rfl ?_
            refine z_iconst (v := 1) C dX6_feed_117 (by decide) ?_
            refine z_iadd C dX6_feed_118 ?_
            refine z_put (ci := 5) (v := .int (Mbs_ + 1)) (ty := .int) (Cn := RX6) (T := TX6) (N := 23) (ws' := [(M, .inr (5, [.int 0, .int Msz, .int Mal, .ref ab, .int (Mbs_ + 1), .ref au, .int Mpl, .int Mbg, .int Mlo, .int Mhs, .int Mhf, .ref ah, .int Mhp, .int Mrs, .int Mrf, .ref ar, .int Mto, .int Mtb, .ref aw, .ref ay, .int Mfr, .int Mln, .int Mhb])), (ab, .inl (g.2.2.1, 4096, .inl MB)), (au, .inl (g.2.2.1, 400, .inl (upd MU_ (Mbs_).toNatClampNeg ((pa >>> (((24 - (8 * (zMod (nI i) 4))) : Int32) &&& 31)) &&& 255)))), (ah, .inl (g.2.2.1, 4096, .inl MH)), (ar, .inl (g.2.2.1, 4096, .inl MR)), (aw, .inl (g.2.2.1, 100, .inl MW)), (ay, .inl (g.2.2.1, 100, .inl MY))]) C dX6_feed_119 (fun w h => List.mem_cons_of_mem _ (List.mem_append_right _ h)) tyX6 tyX6_ok nmX6 0 rfl rfl 4 (by decide) (List.mem_of_getElem? (i := 1) rfl) rfl rfl (by decide +kernel) rfl rfl (Nat.le_of_ble_eq_true rfl) rfl ?_
            refine z_iinc (v := (nI (i + 1))) (lv' := [(6, .int (nI (i + 1))), (7, .int pa), (0, .ref M), (1, .int v), (2, .int pa), (3, .int pb), (4, .int pc), (5, .int pd)]) C dX6_feed_122 7 rfl (nI_1 i) (by decide) rfl ?_
            refine z_goto (tgt := 43) C dX6_feed_125 (by decide) ?_
            have hs : lp_X6_feed pa pb pc pd (MU, Mbs) (i + 1) = ((upd MU_ (Mbs_).toNatClampNeg ((pa >>> (((24 - (8 * (zMod (nI i) 4))) : Int32) &&& 31)) &&& 255)), (Mbs_ + 1)) := by
              show b_X6_feed pa pb pc pd (nI i) (lp_X6_feed pa pb pc pd (MU, Mbs) i) = _
              rw [hv]
              simp only [b_X6_feed, if_neg c_8]
            exact z_lv [2, 3, 4, 5, 6, 7, 0] rfl (ih (i + 1) (by omega) (upd MU_ (Mbs_).toNatClampNeg ((pa >>> (((24 - (8 * (zMod (nI i) 4))) : Int32) &&& 31)) &&& 255)) (Mbs_ + 1) hs (zroom_s hb_))
      exact z_lv [1, 2, 3, 4, 5, 6, 0] rfl (loop (v).toNatClampNeg 0 (Nat.zero_add _) MU Mbs rfl (zfeed_room hu hT1 c_2 c_3))
    · skip
      refine z_iconst (v := 2) C dX6_feed_27 (by decide) ?_
      refine z_goto (tgt := 32) C dX6_feed_28 (by decide) ?_
      refine z_callVi (n := 1) (isC := [0, 1, 2, 3, 4, 5, 6]) (isR := []) (isP := [0, 1, 2, 3, 4, 5, 6]) (As := [.int 2]) (rest := []) (wr := []) (ws2 := [(M, .inr (5, [.int ((f_X6_refused 2).2), .int Msz, .int Mal, .ref ab, .int Mbs, .ref au, .int Mpl, .int Mbg, .int Mlo, .int Mhs, .int Mhf, .ref ah, .int Mhp, .int Mrs, .int Mrf, .ref ar, .int Mto, .int Mtb, .ref aw, .ref ay, .int Mfr, .int Mln, .int Mhb])), (ab, .inl (g.2.2.1, 4096, .inl MB)), (au, .inl (g.2.2.1, 400, .inl MU)), (ah, .inl (g.2.2.1, 4096, .inl MH)), (ar, .inl (g.2.2.1, 4096, .inl MR)), (aw, .inl (g.2.2.1, 100, .inl MW)), (ay, .inl (g.2.2.1, 100, .inl MY))]) C dX6_feed_32 (c_X6_refused (zl X) g M ab au ah ar aw ay MB MU MH MR MW MY Mft Msz Mal Mbs Mpl Mbg Mlo Mhs Mhf Mhp Mrs Mrf Mto Mtb Mfr Mln Mhb 2) gX6_feed_X6_refused rfl ⟨rfl, rfl⟩ (by decide +kernel) (by decide) (by decide) rfl rfl rfl rfl (Nat.le_of_ble_eq_true rfl) rfl rfl ⟨rfl, rfl, rfl⟩ (by decide) rfl ?_
      have hT11 : (f_X6_refused 2) = (1, 2) := by decide
      rw [hT11]
      refine z_if_eq (tgt := 40) C dX6_feed_35 (by decide) (fun c_12 => absurd c_12 (by decide)) (fun c_12 => ?_)
      refine z_iconst (v := 0) C dX6_feed_38 (by decide) ?_
      have he : (f_X6_feed MU Mbs v pa pb pc pd) = (0, MU, 2, Mbs) := by simp only [f_X6_feed, hT1, if_neg c_2, if_neg c_3]
      exact hret _ _ _ _ dX6_feed_39 (by first | rw [he] | rfl) (by first | rw [he] | rfl)
  · skip
    refine z_iconst (v := 1) C dX6_feed_11 (by decide) ?_
    refine z_goto (tgt := 32) C dX6_feed_12 (by decide) ?_
    refine z_callVi (n := 1) (isC := [0, 1, 2, 3, 4, 5, 6]) (isR := []) (isP := [0, 1, 2, 3, 4, 5, 6]) (As := [.int 1]) (rest := []) (wr := []) (ws2 := [(M, .inr (5, [.int ((f_X6_refused 1).2), .int Msz, .int Mal, .ref ab, .int Mbs, .ref au, .int Mpl, .int Mbg, .int Mlo, .int Mhs, .int Mhf, .ref ah, .int Mhp, .int Mrs, .int Mrf, .ref ar, .int Mto, .int Mtb, .ref aw, .ref ay, .int Mfr, .int Mln, .int Mhb])), (ab, .inl (g.2.2.1, 4096, .inl MB)), (au, .inl (g.2.2.1, 400, .inl MU)), (ah, .inl (g.2.2.1, 4096, .inl MH)), (ar, .inl (g.2.2.1, 4096, .inl MR)), (aw, .inl (g.2.2.1, 100, .inl MW)), (ay, .inl (g.2.2.1, 100, .inl MY))]) C dX6_feed_32 (c_X6_refused (zl X) g M ab au ah ar aw ay MB MU MH MR MW MY Mft Msz Mal Mbs Mpl Mbg Mlo Mhs Mhf Mhp Mrs Mrf Mto Mtb Mfr Mln Mhb 1) gX6_feed_X6_refused rfl ⟨rfl, rfl⟩ (by decide +kernel) (by decide) (by decide) rfl rfl rfl rfl (Nat.le_of_ble_eq_true rfl) rfl rfl ⟨rfl, rfl, rfl⟩ (by decide) rfl ?_
    have hT13 : (f_X6_refused 1) = (1, 1) := by decide
    rw [hT13]
    refine z_if_eq (tgt := 40) C dX6_feed_35 (by decide) (fun c_14 => absurd c_14 (by decide)) (fun c_14 => ?_)
    refine z_iconst (v := 0) C dX6_feed_38 (by decide) ?_
    have he : (f_X6_feed MU Mbs v pa pb pc pd) = (0, MU, 1, Mbs) := by simp only [f_X6_feed, hT1, if_pos c_2]
    exact hret _ _ _ _ dX6_feed_39 (by first | rw [he] | rfl) (by first | rw [he] | rfl)
set_option maxHeartbeats 4000000 in
set_option maxRecDepth 100000 in
theorem c_X6_erase (l : Launch) (g : zG) (M ab au ah ar aw ay : Nat) (MB : Nat → Int32) (MU : Nat → Int32) (MH : Nat → Int32) (MR : Nat → Int32) (MW : Nat → Int32) (MY : Nat → Int32) (Mft : Int32) (Msz : Int32) (Mal : Int32) (Mbs : Int32) (Mpl : Int32) (Mbg : Int32) (Mlo : Int32) (Mhs : Int32) (Mhf : Int32) (Mhp : Int32) (Mrs : Int32) (Mrf : Int32) (Mto : Int32) (Mtb : Int32) (Mfr : Int32) (Mln : Int32) (Mhb : Int32) : zMI l yX6_erase wsX6_erase ({ frames := 0, cells := 0, slots := 0, locals := 0 }) g [.ref M] [(M, .inr (5, [.int Mft, .int Msz, .int Mal, .ref ab, .int Mbs, .ref au, .int Mpl, .int Mbg, .int Mlo, .int Mhs, .int Mhf, .ref ah, .int Mhp, .int Mrs, .int Mrf, .ref ar, .int Mto, .int Mtb, .ref aw, .ref ay, .int Mfr, .int Mln, .int Mhb])), (ab, .inl (g.2.2.1, 4096, .inl MB)), (au, .inl (g.2.2.1, 400, .inl MU)), (ah, .inl (g.2.2.1, 4096, .inl MH)), (ar, .inl (g.2.2.1, 4096, .inl MR)), (aw, .inl (g.2.2.1, 100, .inl MW)), (ay, .inl (g.2.2.1, 100, .inl MY))] Mbs [(M, .inr (5, [.int 0, .int Msz, .int Mal, .ref ab, .int 0, .ref au, .int Mpl, .int Mbg, .int Mlo, .int Mhs, .int Mhf, .ref ah, .int Mhp, .int Mrs, .int Mrf, .ref ar, .int Mto, .int Mtb, .ref aw, .ref ay, .int Mfr, .int Mln, .int Mhb])), (ab, .inl (g.2.2.1, 4096, .inl MB)), (au, .inl (g.2.2.1, 400, .inl MU)), (ah, .inl (g.2.2.1, 4096, .inl MH)), (ar, .inl (g.2.2.1, 4096, .inl MR)), (aw, .inl (g.2.2.1, 100, .inl MW)), (ay, .inl (g.2.2.1, 100, .inl MY))] := by
  refine zMI_of (cc := cX6_erase) (nL := 2) (ty := .int) (by decide) rfl (Nat.le_of_ble_eq_true rfl) rfl ?_
  intro X C hret
  refine z_lv (lv' := [(0, .ref M)]) [0] rfl ?_
  refine z_aload_n C dX6_erase_0 rfl 0 rfl ?_
  refine z_iconst (v := 0) C dX6_erase_1 (by decide) ?_
  refine z_put (ci := 5) (v := .int 0) (ty := .int) (Cn := RX6) (T := TX6) (N := 23) (ws' := [(M, .inr (5, [.int 0, .int Msz, .int Mal, .ref ab, .int Mbs, .ref au, .int Mpl, .int Mbg, .int Mlo, .int Mhs, .int Mhf, .ref ah, .int Mhp, .int Mrs, .int Mrf, .ref ar, .int Mto, .int Mtb, .ref aw, .ref ay, .int Mfr, .int Mln, .int Mhb])), (ab, .inl (g.2.2.1, 4096, .inl MB)), (au, .inl (g.2.2.1, 400, .inl MU)), (ah, .inl (g.2.2.1, 4096, .inl MH)), (ar, .inl (g.2.2.1, 4096, .inl MR)), (aw, .inl (g.2.2.1, 100, .inl MW)), (ay, .inl (g.2.2.1, 100, .inl MY))]) C dX6_erase_2 (fun w h => List.mem_cons_of_mem _ (List.mem_append_right _ h)) tyX6 tyX6_ok nmX6 0 rfl rfl 0 (by decide) (List.mem_of_getElem? (i := 1) rfl) rfl rfl (by decide +kernel) rfl rfl (Nat.le_of_ble_eq_true rfl) rfl ?_
  refine z_aload_n C dX6_erase_5 rfl 0 rfl ?_
  refine z_get (ci := 5) (v := .int Mbs) (Cn := RX6) (T := TX6) (N := 23) C dX6_erase_6 (fun w h => List.mem_cons_of_mem _ (List.mem_append_right _ h)) 0 rfl rfl 4 (by decide) (List.mem_of_getElem? (i := 2) rfl) rfl rfl ?_
  refine z_istore_n (lv' := [(1, .int Mbs), (0, .ref M)]) C dX6_erase_9 rfl (by decide) rfl ?_
  refine z_aload_n C dX6_erase_10 rfl 1 rfl ?_
  refine z_iconst (v := 0) C dX6_erase_11 (by decide) ?_
  refine z_put (ci := 5) (v := .int 0) (ty := .int) (Cn := RX6) (T := TX6) (N := 23) (ws' := [(M, .inr (5, [.int 0, .int Msz, .int Mal, .ref ab, .int 0, .ref au, .int Mpl, .int Mbg, .int Mlo, .int Mhs, .int Mhf, .ref ah, .int Mhp, .int Mrs, .int Mrf, .ref ar, .int Mto, .int Mtb, .ref aw, .ref ay, .int Mfr, .int Mln, .int Mhb])), (ab, .inl (g.2.2.1, 4096, .inl MB)), (au, .inl (g.2.2.1, 400, .inl MU)), (ah, .inl (g.2.2.1, 4096, .inl MH)), (ar, .inl (g.2.2.1, 4096, .inl MR)), (aw, .inl (g.2.2.1, 100, .inl MW)), (ay, .inl (g.2.2.1, 100, .inl MY))]) C dX6_erase_12 (fun w h => List.mem_cons_of_mem _ (List.mem_append_right _ h)) tyX6 tyX6_ok nmX6 0 rfl rfl 4 (by decide) (List.mem_of_getElem? (i := 2) rfl) rfl rfl (by decide +kernel) rfl rfl (Nat.le_of_ble_eq_true rfl) rfl ?_
  refine z_iload_n C dX6_erase_15 rfl 0 rfl ?_
  exact hret _ _ _ _ dX6_erase_16 rfl rfl
def b_X6_more  (k : Int32) (z_ : Int32) : Int32 :=
  match z_ with
  | w =>
    if (w &&& 1) = 0 then
      (zUshr w 1)
    else
      ((zUshr w 1) ^^^ (-2097792136))
def lp_X6_more  (z_ : Int32) : Nat → Int32
  | 0 => z_
  | i + 1 => b_X6_more  (nI i) (lp_X6_more  z_ i)
def f_X6_more (v : Int32) (x : Int32) : Int32 :=
  (lp_X6_more (v ^^^ x) ((8 : Int32)).toNatClampNeg)
set_option maxHeartbeats 4000000 in
set_option maxRecDepth 100000 in
theorem c_X6_more (l : Launch) (g : zG) (v : Int32) (x : Int32) : zMI l yX6_more wsX6_more ({ frames := 0, cells := 0, slots := 0, locals := 0 }) g [.int v, .int x] [] (f_X6_more v x) [] := by
  refine zMI_of (cc := cX6_more) (nL := 4) (ty := .int) (by decide) rfl (Nat.le_of_ble_eq_true rfl) rfl ?_
  intro X C hret
  refine z_lv (lv' := [(0, .int v), (1, .int x)]) [0, 1] rfl ?_
  refine z_iload_n C dX6_more_0 rfl 0 rfl ?_
  refine z_iload_n C dX6_more_1 rfl 1 rfl ?_
  refine z_ixor C dX6_more_2 ?_
  refine z_istore_n (lv' := [(2, .int (v ^^^ x)), (0, .int v), (1, .int x)]) C dX6_more_3 rfl (by decide) rfl ?_
  refine z_iconst (v := 0) C dX6_more_4 (by decide) ?_
  refine z_istore_n (lv' := [(3, .int 0), (2, .int (v ^^^ x)), (0, .int v), (1, .int x)]) C dX6_more_5 rfl (by decide) rfl ?_
  have loop : ∀ (r i : Nat), i + r = ((8 : Int32)).toNatClampNeg → ∀ (w : Int32), lp_X6_more (v ^^^ x) i = w → zV X g 4 0 0 6 [(2, .int w), (3, .int (nI i))] [] [] := by
    intro r
    induction r with
    | zero =>
      intro i hi w hv 
      have hi : i = ((8 : Int32)).toNatClampNeg := hi
      refine z_iload_n C dX6_more_6 rfl 1 rfl ?_
      refine z_bipush (v := 8) C dX6_more_7 (by decide) ?_
      refine z_icmp_ge (tgt := 37) C dX6_more_9 (by decide) (fun c_1 => ?_) (fun c_1 => absurd (zfor_out hi) c_1)
      refine z_iload_n C dX6_more_37 rfl 0 rfl ?_
      have he : (f_X6_more v x) = w := by simp only [f_X6_more, ← hi, hv]
      exact hret _ _ _ _ dX6_more_38 (by first | rw [he] | rfl) (by first | rw [he] | rfl)
    | succ r ih =>
      intro i hi w hv 
      refine z_iload_n C dX6_more_6 rfl 1 rfl ?_
      refine z_bipush (v := 8) C dX6_more_7 (by decide) ?_
      refine z_icmp_ge (tgt := 37) C dX6_more_9 (by decide) (fun c_2 => absurd c_2 (zfor_in hi)) (fun c_2 => ?_)
      refine z_iload_n C dX6_more_12 rfl 0 rfl ?_
      refine z_iconst (v := 1) C dX6_more_13 (by decide) ?_
      refine z_iand C dX6_more_14 ?_
      refine z_if_eq (tgt := 27) C dX6_more_15 (by decide) (fun c_3 => ?_) (fun c_3 => ?_)
      · skip
        refine z_iload_n C dX6_more_27 rfl 0 rfl ?_
        refine z_iconst (v := 1) C dX6_more_28 (by decide) ?_
        refine z_iushr C dX6_more_29 ?_
        refine z_istore_n (lv' := [(2, .int (zUshr w 1)), (3, .int (nI i))]) C dX6_more_30 rfl (by decide) rfl ?_
        refine z_iinc (v := (nI (i + 1))) (lv' := [(3, .int (nI (i + 1))), (2, .int (zUshr w 1))]) C dX6_more_31 1 rfl (nI_1 i) (by decide) rfl ?_
        refine z_goto (tgt := 6) C dX6_more_34 (by decide) ?_
        have hs : lp_X6_more  (v ^^^ x) (i + 1) = (zUshr w 1) := by
          show b_X6_more  (nI i) (lp_X6_more  (v ^^^ x) i) = _
          rw [hv]
          simp only [b_X6_more, if_pos c_3]
        exact z_lv [1, 0] rfl (ih (i + 1) (by omega) (zUshr w 1) hs )
      · skip
        refine z_iload_n C dX6_more_18 rfl 0 rfl ?_
        refine z_iconst (v := 1) C dX6_more_19 (by decide) ?_
        refine z_iushr C dX6_more_20 ?_
        refine z_ldc (v := (-2097792136)) C dX6_more_21 (List.mem_of_getElem? (i := 1) rfl) ?_
        refine z_ixor C dX6_more_23 ?_
        refine z_goto (tgt := 30) C dX6_more_24 (by decide) ?_
        refine z_istore_n (lv' := [(2, .int ((zUshr w 1) ^^^ (-2097792136))), (3, .int (nI i))]) C dX6_more_30 rfl (by decide) rfl ?_
        refine z_iinc (v := (nI (i + 1))) (lv' := [(3, .int (nI (i + 1))), (2, .int ((zUshr w 1) ^^^ (-2097792136)))]) C dX6_more_31 1 rfl (nI_1 i) (by decide) rfl ?_
        refine z_goto (tgt := 6) C dX6_more_34 (by decide) ?_
        have hs : lp_X6_more  (v ^^^ x) (i + 1) = ((zUshr w 1) ^^^ (-2097792136)) := by
          show b_X6_more  (nI i) (lp_X6_more  (v ^^^ x) i) = _
          rw [hv]
          simp only [b_X6_more, if_neg c_3]
        exact z_lv [1, 0] rfl (ih (i + 1) (by omega) ((zUshr w 1) ^^^ (-2097792136)) hs )
  exact z_lv [1, 0] rfl (loop ((8 : Int32)).toNatClampNeg 0 (Nat.zero_add _) (v ^^^ x) rfl)
set_option maxHeartbeats 4000000 in
set_option maxRecDepth 100000 in
theorem c_X6_masked (l : Launch) (g : zG) (v : Int32) : zMI l yX6_masked wsX6_masked ({ frames := 0, cells := 0, slots := 0, locals := 0 }) g [.int v] [] (((zUshr (v ^^^ (-1)) 15) ||| ((v ^^^ (-1)) <<< ((17 : Int32) &&& 31))) + (-1568478504)) [] := by
  refine zMI_of (cc := cX6_masked) (nL := 2) (ty := .int) (by decide) rfl (Nat.le_of_ble_eq_true rfl) rfl ?_
  intro X C hret
  refine z_lv (lv' := [(0, .int v)]) [0] rfl ?_
  refine z_iload_n C dX6_masked_0 rfl 0 rfl ?_
  refine z_iconst (v := (-1)) C dX6_masked_1 (by decide) ?_
  refine z_ixor C dX6_masked_2 ?_
  refine z_istore_n (lv' := [(1, .int (v ^^^ (-1))), (0, .int v)]) C dX6_masked_3 rfl (by decide) rfl ?_
  refine z_iload_n C dX6_masked_4 rfl 0 rfl ?_
  refine z_bipush (v := 15) C dX6_masked_5 (by decide) ?_
  refine z_iushr C dX6_masked_7 ?_
  refine z_iload_n C dX6_masked_8 rfl 0 rfl ?_
  refine z_bipush (v := 17) C dX6_masked_9 (by decide) ?_
  refine z_ishl C dX6_masked_11 ?_
  refine z_ior C dX6_masked_12 ?_
  refine z_ldc (v := (-1568478504)) C dX6_masked_13 (List.mem_of_getElem? (i := 1) rfl) ?_
  refine z_iadd C dX6_masked_15 ?_
  exact hret _ _ _ _ dX6_masked_16 rfl rfl
def b_X6_checkOf (MU : Nat → Int32) (x : Int32) (k : Int32) (z_ : Int32) : Int32 :=
  match z_ with
  | w =>
    (f_X6_more w (MU ((x + k)).toNatClampNeg))
def lp_X6_checkOf (MU : Nat → Int32) (x : Int32) (z_ : Int32) : Nat → Int32
  | 0 => z_
  | i + 1 => b_X6_checkOf MU x (nI i) (lp_X6_checkOf MU x z_ i)
def f_X6_checkOf (MU : Nat → Int32) (q : Int32) (x : Int32) (v : Int32) : Int32 :=
  (((zUshr ((lp_X6_checkOf MU x (f_X6_more (-1) q) (v).toNatClampNeg) ^^^ (-1)) 15) ||| (((lp_X6_checkOf MU x (f_X6_more (-1) q) (v).toNatClampNeg) ^^^ (-1)) <<< ((17 : Int32) &&& 31))) + (-1568478504))
set_option maxHeartbeats 4000000 in
set_option maxRecDepth 100000 in
theorem c_X6_checkOf (l : Launch) (g : zG) (M ab au ah ar aw ay : Nat) (MB : Nat → Int32) (MU : Nat → Int32) (MH : Nat → Int32) (MR : Nat → Int32) (MW : Nat → Int32) (MY : Nat → Int32) (Mft : Int32) (Msz : Int32) (Mal : Int32) (Mbs : Int32) (Mpl : Int32) (Mbg : Int32) (Mlo : Int32) (Mhs : Int32) (Mhf : Int32) (Mhp : Int32) (Mrs : Int32) (Mrf : Int32) (Mto : Int32) (Mtb : Int32) (Mfr : Int32) (Mln : Int32) (Mhb : Int32) (q : Int32) (x : Int32) (v : Int32) (hs : zseg 400 x v) : zMI l yX6_checkOf wsX6_checkOf ({ frames := 1, cells := 0, slots := 0, locals := 23 }) g [.ref M, .int q, .int x, .int v] [(M, .inr (5, [.int Mft, .int Msz, .int Mal, .ref ab, .int Mbs, .ref au, .int Mpl, .int Mbg, .int Mlo, .int Mhs, .int Mhf, .ref ah, .int Mhp, .int Mrs, .int Mrf, .ref ar, .int Mto, .int Mtb, .ref aw, .ref ay, .int Mfr, .int Mln, .int Mhb])), (ab, .inl (g.2.2.1, 4096, .inl MB)), (au, .inl (g.2.2.1, 400, .inl MU)), (ah, .inl (g.2.2.1, 4096, .inl MH)), (ar, .inl (g.2.2.1, 4096, .inl MR)), (aw, .inl (g.2.2.1, 100, .inl MW)), (ay, .inl (g.2.2.1, 100, .inl MY))] (f_X6_checkOf MU q x v) [(M, .inr (5, [.int Mft, .int Msz, .int Mal, .ref ab, .int Mbs, .ref au, .int Mpl, .int Mbg, .int Mlo, .int Mhs, .int Mhf, .ref ah, .int Mhp, .int Mrs, .int Mrf, .ref ar, .int Mto, .int Mtb, .ref aw, .ref ay, .int Mfr, .int Mln, .int Mhb])), (ab, .inl (g.2.2.1, 4096, .inl MB)), (au, .inl (g.2.2.1, 400, .inl MU)), (ah, .inl (g.2.2.1, 4096, .inl MH)), (ar, .inl (g.2.2.1, 4096, .inl MR)), (aw, .inl (g.2.2.1, 100, .inl MW)), (ay, .inl (g.2.2.1, 100, .inl MY))] := by
  refine zMI_of (cc := cX6_checkOf) (nL := 6) (ty := .int) (by decide) rfl (Nat.le_of_ble_eq_true rfl) rfl ?_
  intro X C hret
  refine z_lv (lv' := [(0, .ref M), (1, .int q), (2, .int x), (3, .int v)]) [0, 1, 2, 3] rfl ?_
  refine z_iconst (v := (-1)) C dX6_checkOf_0 (by decide) ?_
  refine z_iload_n C dX6_checkOf_1 rfl 1 rfl ?_
  refine z_callSi (n := 2) (isC := []) (isR := [0, 1, 2, 3, 4, 5, 6]) (isP := [0, 1, 2, 3, 4, 5, 6]) (As := [.int (-1), .int q]) (rest := []) (wr := [(M, .inr (5, [.int Mft, .int Msz, .int Mal, .ref ab, .int Mbs, .ref au, .int Mpl, .int Mbg, .int Mlo, .int Mhs, .int Mhf, .ref ah, .int Mhp, .int Mrs, .int Mrf, .ref ar, .int Mto, .int Mtb, .ref aw, .ref ay, .int Mfr, .int Mln, .int Mhb])), (ab, .inl (g.2.2.1, 4096, .inl MB)), (au, .inl (g.2.2.1, 400, .inl MU)), (ah, .inl (g.2.2.1, 4096, .inl MH)), (ar, .inl (g.2.2.1, 4096, .inl MR)), (aw, .inl (g.2.2.1, 100, .inl MW)), (ay, .inl (g.2.2.1, 100, .inl MY))]) (ws2 := [(M, .inr (5, [.int Mft, .int Msz, .int Mal, .ref ab, .int Mbs, .ref au, .int Mpl, .int Mbg, .int Mlo, .int Mhs, .int Mhf, .ref ah, .int Mhp, .int Mrs, .int Mrf, .ref ar, .int Mto, .int Mtb, .ref aw, .ref ay, .int Mfr, .int Mln, .int Mhb])), (ab, .inl (g.2.2.1, 4096, .inl MB)), (au, .inl (g.2.2.1, 400, .inl MU)), (ah, .inl (g.2.2.1, 4096, .inl MH)), (ar, .inl (g.2.2.1, 4096, .inl MR)), (aw, .inl (g.2.2.1, 100, .inl MW)), (ay, .inl (g.2.2.1, 100, .inl MY))]) C dX6_checkOf_2 (c_X6_more (zl X) g (-1) q) gX6_checkOf_X6_more rfl ⟨rfl, rfl⟩ (by decide +kernel) (by decide) (by decide) rfl rfl (Nat.le_of_ble_eq_true rfl) rfl rfl ⟨rfl, rfl, rfl⟩ (by decide) rfl ?_
  generalize hT1 : (f_X6_more (-1) q) = rq1
  refine z_istore (lv' := [(4, .int rq1), (0, .ref M), (1, .int q), (2, .int x), (3, .int v)]) C dX6_checkOf_5 (by decide) rfl ?_
  refine z_iconst (v := 0) C dX6_checkOf_7 (by decide) ?_
  refine z_istore (lv' := [(5, .int 0), (4, .int rq1), (0, .ref M), (1, .int q), (2, .int x), (3, .int v)]) C dX6_checkOf_8 (by decide) rfl ?_
  have loop : ∀ (r i : Nat), i + r = (v).toNatClampNeg → ∀ (w : Int32), lp_X6_checkOf MU x rq1 i = w → zV X g 6 0 0 10 [(0, .ref M), (2, .int x), (3, .int v), (4, .int w), (5, .int (nI i))] [] [(M, .inr (5, [.int Mft, .int Msz, .int Mal, .ref ab, .int Mbs, .ref au, .int Mpl, .int Mbg, .int Mlo, .int Mhs, .int Mhf, .ref ah, .int Mhp, .int Mrs, .int Mrf, .ref ar, .int Mto, .int Mtb, .ref aw, .ref ay, .int Mfr, .int Mln, .int Mhb])), (ab, .inl (g.2.2.1, 4096, .inl MB)), (au, .inl (g.2.2.1, 400, .inl MU)), (ah, .inl (g.2.2.1, 4096, .inl MH)), (ar, .inl (g.2.2.1, 4096, .inl MR)), (aw, .inl (g.2.2.1, 100, .inl MW)), (ay, .inl (g.2.2.1, 100, .inl MY))] := by
    intro r
    induction r with
    | zero =>
      intro i hi w hv 
      have hi : i = (v).toNatClampNeg := hi
      refine z_iload C dX6_checkOf_10 4 rfl ?_
      refine z_iload_n C dX6_checkOf_12 rfl 2 rfl ?_
      refine z_icmp_ge (tgt := 38) C dX6_checkOf_13 (by decide) (fun c_2 => ?_) (fun c_2 => absurd (zfor_out hi) c_2)
      refine z_iload C dX6_checkOf_38 3 rfl ?_
      refine z_callSi (n := 1) (isC := []) (isR := [0, 1, 2, 3, 4, 5, 6]) (isP := [0, 1, 2, 3, 4, 5, 6]) (As := [.int w]) (rest := []) (wr := [(M, .inr (5, [.int Mft, .int Msz, .int Mal, .ref ab, .int Mbs, .ref au, .int Mpl, .int Mbg, .int Mlo, .int Mhs, .int Mhf, .ref ah, .int Mhp, .int Mrs, .int Mrf, .ref ar, .int Mto, .int Mtb, .ref aw, .ref ay, .int Mfr, .int Mln, .int Mhb])), (ab, .inl (g.2.2.1, 4096, .inl MB)), (au, .inl (g.2.2.1, 400, .inl MU)), (ah, .inl (g.2.2.1, 4096, .inl MH)), (ar, .inl (g.2.2.1, 4096, .inl MR)), (aw, .inl (g.2.2.1, 100, .inl MW)), (ay, .inl (g.2.2.1, 100, .inl MY))]) (ws2 := [(M, .inr (5, [.int Mft, .int Msz, .int Mal, .ref ab, .int Mbs, .ref au, .int Mpl, .int Mbg, .int Mlo, .int Mhs, .int Mhf, .ref ah, .int Mhp, .int Mrs, .int Mrf, .ref ar, .int Mto, .int Mtb, .ref aw, .ref ay, .int Mfr, .int Mln, .int Mhb])), (ab, .inl (g.2.2.1, 4096, .inl MB)), (au, .inl (g.2.2.1, 400, .inl MU)), (ah, .inl (g.2.2.1, 4096, .inl MH)), (ar, .inl (g.2.2.1, 4096, .inl MR)), (aw, .inl (g.2.2.1, 100, .inl MW)), (ay, .inl (g.2.2.1, 100, .inl MY))]) C dX6_checkOf_40 (c_X6_masked (zl X) g w) gX6_checkOf_X6_masked rfl ⟨rfl, rfl⟩ (by decide +kernel) (by decide) (by decide) rfl rfl (Nat.le_of_ble_eq_true rfl) rfl rfl ⟨rfl, rfl, rfl⟩ (by decide) rfl ?_
      have he : (f_X6_checkOf MU q x v) = (((zUshr (w ^^^ (-1)) 15) ||| ((w ^^^ (-1)) <<< ((17 : Int32) &&& 31))) + (-1568478504)) := by simp only [f_X6_checkOf, hT1, ← hi, hv]
      exact hret _ _ _ _ dX6_checkOf_43 (by first | rw [he] | rfl) (by first | rw [he] | rfl)
    | succ r ih =>
      intro i hi w hv 
      refine z_iload C dX6_checkOf_10 4 rfl ?_
      refine z_iload_n C dX6_checkOf_12 rfl 2 rfl ?_
      refine z_icmp_ge (tgt := 38) C dX6_checkOf_13 (by decide) (fun c_4 => absurd c_4 (zfor_in hi)) (fun c_4 => ?_)
      refine z_iload C dX6_checkOf_16 3 rfl ?_
      refine z_aload_n C dX6_checkOf_18 rfl 0 rfl ?_
      refine z_get (ci := 5) (v := .ref au) (Cn := RX6) (T := TX6) (N := 23) C dX6_checkOf_19 (fun w h => List.mem_cons_of_mem _ (List.mem_append_right _ h)) 0 rfl rfl 5 (by decide) (List.mem_of_getElem? (i := 1) rfl) rfl rfl ?_
      refine z_iload_n C dX6_checkOf_22 rfl 1 rfl ?_
      refine z_iload C dX6_checkOf_23 4 rfl ?_
      refine z_iadd C dX6_checkOf_25 ?_
      refine z_iald C dX6_checkOf_26 2 rfl (zseg_in hs hi) ?_
      refine z_callSi (n := 2) (isC := []) (isR := [0, 1, 2, 3, 4, 5, 6]) (isP := [0, 1, 2, 3, 4, 5, 6]) (As := [.int w, .int (MU ((x + (nI i))).toNatClampNeg)]) (rest := []) (wr := [(M, .inr (5, [.int Mft, .int Msz, .int Mal, .ref ab, .int Mbs, .ref au, .int Mpl, .int Mbg, .int Mlo, .int Mhs, .int Mhf, .ref ah, .int Mhp, .int Mrs, .int Mrf, .ref ar, .int Mto, .int Mtb, .ref aw, .ref ay, .int Mfr, .int Mln, .int Mhb])), (ab, .inl (g.2.2.1, 4096, .inl MB)), (au, .inl (g.2.2.1, 400, .inl MU)), (ah, .inl (g.2.2.1, 4096, .inl MH)), (ar, .inl (g.2.2.1, 4096, .inl MR)), (aw, .inl (g.2.2.1, 100, .inl MW)), (ay, .inl (g.2.2.1, 100, .inl MY))]) (ws2 := [(M, .inr (5, [.int Mft, .int Msz, .int Mal, .ref ab, .int Mbs, .ref au, .int Mpl, .int Mbg, .int Mlo, .int Mhs, .int Mhf, .ref ah, .int Mhp, .int Mrs, .int Mrf, .ref ar, .int Mto, .int Mtb, .ref aw, .ref ay, .int Mfr, .int Mln, .int Mhb])), (ab, .inl (g.2.2.1, 4096, .inl MB)), (au, .inl (g.2.2.1, 400, .inl MU)), (ah, .inl (g.2.2.1, 4096, .inl MH)), (ar, .inl (g.2.2.1, 4096, .inl MR)), (aw, .inl (g.2.2.1, 100, .inl MW)), (ay, .inl (g.2.2.1, 100, .inl MY))]) C dX6_checkOf_27 (c_X6_more (zl X) g w (MU ((x + (nI i))).toNatClampNeg)) gX6_checkOf_X6_more rfl ⟨rfl, rfl⟩ (by decide +kernel) (by decide) (by decide) rfl rfl (Nat.le_of_ble_eq_true rfl) rfl rfl ⟨rfl, rfl, rfl⟩ (by decide) rfl ?_
      generalize hT5 : (f_X6_more w (MU ((x + (nI i))).toNatClampNeg)) = rq5
      refine z_istore (lv' := [(4, .int rq5), (0, .ref M), (2, .int x), (3, .int v), (5, .int (nI i))]) C dX6_checkOf_30 (by decide) rfl ?_
      refine z_iinc (v := (nI (i + 1))) (lv' := [(5, .int (nI (i + 1))), (4, .int rq5), (0, .ref M), (2, .int x), (3, .int v)]) C dX6_checkOf_32 4 rfl (nI_1 i) (by decide) rfl ?_
      refine z_goto (tgt := 10) C dX6_checkOf_35 (by decide) ?_
      have hs : lp_X6_checkOf MU x rq1 (i + 1) = rq5 := by
        show b_X6_checkOf MU x (nI i) (lp_X6_checkOf MU x rq1 i) = _
        rw [hv]
        simp only [b_X6_checkOf, hT5]
      exact z_lv [2, 3, 4, 1, 0] rfl (ih (i + 1) (by omega) rq5 hs )
  exact z_lv [2, 4, 5, 1, 0] rfl (loop (v).toNatClampNeg 0 (Nat.zero_add _) rq1 rfl)
def f_X6_check (MU : Nat → Int32) (Mbs : Int32) (v : Int32) : Int32 × Int32 :=
  if (f_X6_isIn v 0 255) = 0 then
    (0, 1)
  else
    ((f_X6_checkOf MU v 0 Mbs), 0)
set_option maxHeartbeats 4000000 in
set_option maxRecDepth 100000 in
theorem c_X6_check (l : Launch) (g : zG) (M ab au ah ar aw ay : Nat) (MB : Nat → Int32) (MU : Nat → Int32) (MH : Nat → Int32) (MR : Nat → Int32) (MW : Nat → Int32) (MY : Nat → Int32) (Mft : Int32) (Msz : Int32) (Mal : Int32) (Mbs : Int32) (Mpl : Int32) (Mbg : Int32) (Mlo : Int32) (Mhs : Int32) (Mhf : Int32) (Mhp : Int32) (Mrs : Int32) (Mrf : Int32) (Mto : Int32) (Mtb : Int32) (Mfr : Int32) (Mln : Int32) (Mhb : Int32) (v : Int32) (hu : zok 400 Mbs) : zMI l yX6_check wsX6_check ({ frames := 2, cells := 0, slots := 0, locals := 48 }) g [.ref M, .int v] [(M, .inr (5, [.int Mft, .int Msz, .int Mal, .ref ab, .int Mbs, .ref au, .int Mpl, .int Mbg, .int Mlo, .int Mhs, .int Mhf, .ref ah, .int Mhp, .int Mrs, .int Mrf, .ref ar, .int Mto, .int Mtb, .ref aw, .ref ay, .int Mfr, .int Mln, .int Mhb])), (ab, .inl (g.2.2.1, 4096, .inl MB)), (au, .inl (g.2.2.1, 400, .inl MU)), (ah, .inl (g.2.2.1, 4096, .inl MH)), (ar, .inl (g.2.2.1, 4096, .inl MR)), (aw, .inl (g.2.2.1, 100, .inl MW)), (ay, .inl (g.2.2.1, 100, .inl MY))] ((f_X6_check MU Mbs v).1) [(M, .inr (5, [.int ((f_X6_check MU Mbs v).2), .int Msz, .int Mal, .ref ab, .int Mbs, .ref au, .int Mpl, .int Mbg, .int Mlo, .int Mhs, .int Mhf, .ref ah, .int Mhp, .int Mrs, .int Mrf, .ref ar, .int Mto, .int Mtb, .ref aw, .ref ay, .int Mfr, .int Mln, .int Mhb])), (ab, .inl (g.2.2.1, 4096, .inl MB)), (au, .inl (g.2.2.1, 400, .inl MU)), (ah, .inl (g.2.2.1, 4096, .inl MH)), (ar, .inl (g.2.2.1, 4096, .inl MR)), (aw, .inl (g.2.2.1, 100, .inl MW)), (ay, .inl (g.2.2.1, 100, .inl MY))] := by
  refine zMI_of (cc := cX6_check) (nL := 2) (ty := .int) (by decide) rfl (Nat.le_of_ble_eq_true rfl) rfl ?_
  intro X C hret
  refine z_lv (lv' := [(0, .ref M), (1, .int v)]) [0, 1] rfl ?_
  refine z_aload_n C dX6_check_0 rfl 0 rfl ?_
  refine z_iload_n C dX6_check_1 rfl 1 rfl ?_
  refine z_iconst (v := 0) C dX6_check_2 (by decide) ?_
  refine z_sipush (v := 255) C dX6_check_3 (by decide) ?_
  refine z_callSi (n := 3) (isC := []) (isR := [0, 1, 2, 3, 4, 5, 6]) (isP := [0, 1, 2, 3, 4, 5, 6]) (As := [.int v, .int 0, .int 255]) (rest := [.ref M]) (wr := [(M, .inr (5, [.int Mft, .int Msz, .int Mal, .ref ab, .int Mbs, .ref au, .int Mpl, .int Mbg, .int Mlo, .int Mhs, .int Mhf, .ref ah, .int Mhp, .int Mrs, .int Mrf, .ref ar, .int Mto, .int Mtb, .ref aw, .ref ay, .int Mfr, .int Mln, .int Mhb])), (ab, .inl (g.2.2.1, 4096, .inl MB)), (au, .inl (g.2.2.1, 400, .inl MU)), (ah, .inl (g.2.2.1, 4096, .inl MH)), (ar, .inl (g.2.2.1, 4096, .inl MR)), (aw, .inl (g.2.2.1, 100, .inl MW)), (ay, .inl (g.2.2.1, 100, .inl MY))]) (ws2 := [(M, .inr (5, [.int Mft, .int Msz, .int Mal, .ref ab, .int Mbs, .ref au, .int Mpl, .int Mbg, .int Mlo, .int Mhs, .int Mhf, .ref ah, .int Mhp, .int Mrs, .int Mrf, .ref ar, .int Mto, .int Mtb, .ref aw, .ref ay, .int Mfr, .int Mln, .int Mhb])), (ab, .inl (g.2.2.1, 4096, .inl MB)), (au, .inl (g.2.2.1, 400, .inl MU)), (ah, .inl (g.2.2.1, 4096, .inl MH)), (ar, .inl (g.2.2.1, 4096, .inl MR)), (aw, .inl (g.2.2.1, 100, .inl MW)), (ay, .inl (g.2.2.1, 100, .inl MY))]) C dX6_check_6 (c_X6_isIn (zl X) g v 0 255) gX6_check_X6_isIn rfl ⟨rfl, rfl⟩ (by decide +kernel) (by decide) (by decide) rfl rfl (Nat.le_of_ble_eq_true rfl) rfl rfl ⟨rfl, rfl, rfl⟩ (by decide) rfl ?_
  generalize hT1 : (f_X6_isIn v 0 255) = rq1
  refine z_if_eq (tgt := 16) C dX6_check_9 (by decide) (fun c_2 => ?_) (fun c_2 => ?_)
  · skip
    refine z_iconst (v := 1) C dX6_check_16 (by decide) ?_
    refine z_callVi (n := 1) (isC := [0, 1, 2, 3, 4, 5, 6]) (isR := []) (isP := [0, 1, 2, 3, 4, 5, 6]) (As := [.int 1]) (rest := []) (wr := []) (ws2 := [(M, .inr (5, [.int ((f_X6_refused 1).2), .int Msz, .int Mal, .ref ab, .int Mbs, .ref au, .int Mpl, .int Mbg, .int Mlo, .int Mhs, .int Mhf, .ref ah, .int Mhp, .int Mrs, .int Mrf, .ref ar, .int Mto, .int Mtb, .ref aw, .ref ay, .int Mfr, .int Mln, .int Mhb])), (ab, .inl (g.2.2.1, 4096, .inl MB)), (au, .inl (g.2.2.1, 400, .inl MU)), (ah, .inl (g.2.2.1, 4096, .inl MH)), (ar, .inl (g.2.2.1, 4096, .inl MR)), (aw, .inl (g.2.2.1, 100, .inl MW)), (ay, .inl (g.2.2.1, 100, .inl MY))]) C dX6_check_17 (c_X6_refused (zl X) g M ab au ah ar aw ay MB MU MH MR MW MY Mft Msz Mal Mbs Mpl Mbg Mlo Mhs Mhf Mhp Mrs Mrf Mto Mtb Mfr Mln Mhb 1) gX6_check_X6_refused rfl ⟨rfl, rfl⟩ (by decide +kernel) (by decide) (by decide) rfl rfl rfl rfl (Nat.le_of_ble_eq_true rfl) rfl rfl ⟨rfl, rfl, rfl⟩ (by decide) rfl ?_
    have hT3 : (f_X6_refused 1) = (1, 1) := by decide
    rw [hT3]
    refine z_if_eq (tgt := 25) C dX6_check_20 (by decide) (fun c_4 => absurd c_4 (by decide)) (fun c_4 => ?_)
    refine z_iconst (v := 0) C dX6_check_23 (by decide) ?_
    have he : (f_X6_check MU Mbs v) = (0, 1) := by simp only [f_X6_check, hT1, if_pos c_2]
    exact hret _ _ _ _ dX6_check_24 (by first | rw [he] | rfl) (by first | rw [he] | rfl)
  · skip
    refine z_iconst (v := 0) C dX6_check_12 (by decide) ?_
    refine z_goto (tgt := 17) C dX6_check_13 (by decide) ?_
    refine z_callVi (n := 1) (isC := [0, 1, 2, 3, 4, 5, 6]) (isR := []) (isP := [0, 1, 2, 3, 4, 5, 6]) (As := [.int 0]) (rest := []) (wr := []) (ws2 := [(M, .inr (5, [.int ((f_X6_refused 0).2), .int Msz, .int Mal, .ref ab, .int Mbs, .ref au, .int Mpl, .int Mbg, .int Mlo, .int Mhs, .int Mhf, .ref ah, .int Mhp, .int Mrs, .int Mrf, .ref ar, .int Mto, .int Mtb, .ref aw, .ref ay, .int Mfr, .int Mln, .int Mhb])), (ab, .inl (g.2.2.1, 4096, .inl MB)), (au, .inl (g.2.2.1, 400, .inl MU)), (ah, .inl (g.2.2.1, 4096, .inl MH)), (ar, .inl (g.2.2.1, 4096, .inl MR)), (aw, .inl (g.2.2.1, 100, .inl MW)), (ay, .inl (g.2.2.1, 100, .inl MY))]) C dX6_check_17 (c_X6_refused (zl X) g M ab au ah ar aw ay MB MU MH MR MW MY Mft Msz Mal Mbs Mpl Mbg Mlo Mhs Mhf Mhp Mrs Mrf Mto Mtb Mfr Mln Mhb 0) gX6_check_X6_refused rfl ⟨rfl, rfl⟩ (by decide +kernel) (by decide) (by decide) rfl rfl rfl rfl (Nat.le_of_ble_eq_true rfl) rfl rfl ⟨rfl, rfl, rfl⟩ (by decide) rfl ?_
    have hT5 : (f_X6_refused 0) = (0, 0) := by decide
    rw [hT5]
    refine z_if_eq (tgt := 25) C dX6_check_20 (by decide) (fun c_6 => ?_) (fun c_6 => absurd (by decide) c_6)
    refine z_aload_n C dX6_check_25 rfl 0 rfl ?_
    refine z_iload_n C dX6_check_26 rfl 1 rfl ?_
    refine z_iconst (v := 0) C dX6_check_27 (by decide) ?_
    refine z_aload_n C dX6_check_28 rfl 0 rfl ?_
    refine z_get (ci := 5) (v := .int Mbs) (Cn := RX6) (T := TX6) (N := 23) C dX6_check_29 (fun w h => List.mem_cons_of_mem _ (List.mem_append_right _ h)) 0 rfl rfl 4 (by decide) (List.mem_of_getElem? (i := 1) rfl) rfl rfl ?_
    refine z_callVi (n := 3) (isC := [0, 1, 2, 3, 4, 5, 6]) (isR := []) (isP := [0, 1, 2, 3, 4, 5, 6]) (As := [.int v, .int 0, .int Mbs]) (rest := []) (wr := []) (ws2 := [(M, .inr (5, [.int 0, .int Msz, .int Mal, .ref ab, .int Mbs, .ref au, .int Mpl, .int Mbg, .int Mlo, .int Mhs, .int Mhf, .ref ah, .int Mhp, .int Mrs, .int Mrf, .ref ar, .int Mto, .int Mtb, .ref aw, .ref ay, .int Mfr, .int Mln, .int Mhb])), (ab, .inl (g.2.2.1, 4096, .inl MB)), (au, .inl (g.2.2.1, 400, .inl MU)), (ah, .inl (g.2.2.1, 4096, .inl MH)), (ar, .inl (g.2.2.1, 4096, .inl MR)), (aw, .inl (g.2.2.1, 100, .inl MW)), (ay, .inl (g.2.2.1, 100, .inl MY))]) C dX6_check_32 (c_X6_checkOf (zl X) g M ab au ah ar aw ay MB MU MH MR MW MY 0 Msz Mal Mbs Mpl Mbg Mlo Mhs Mhf Mhp Mrs Mrf Mto Mtb Mfr Mln Mhb v 0 Mbs (zseg_0 hu)) gX6_check_X6_checkOf rfl ⟨rfl, rfl⟩ (by decide +kernel) (by decide) (by decide) rfl rfl rfl rfl (Nat.le_of_ble_eq_true rfl) rfl rfl ⟨rfl, rfl, rfl⟩ (by decide) rfl ?_
    generalize hT7 : (f_X6_checkOf MU v 0 Mbs) = rq7
    have he : (f_X6_check MU Mbs v) = (rq7, 0) := by simp only [f_X6_check, hT1, if_neg c_2, hT7]
    exact hret _ _ _ _ dX6_check_35 (by first | rw [he] | rfl) (by first | rw [he] | rfl)
set_option maxHeartbeats 4000000 in
set_option maxRecDepth 100000 in
theorem c_X6_put (l : Launch) (g : zG) (M ab au ah ar aw ay : Nat) (MB : Nat → Int32) (MU : Nat → Int32) (MH : Nat → Int32) (MR : Nat → Int32) (MW : Nat → Int32) (MY : Nat → Int32) (Mft : Int32) (Msz : Int32) (Mal : Int32) (Mbs : Int32) (Mpl : Int32) (Mbg : Int32) (Mlo : Int32) (Mhs : Int32) (Mhf : Int32) (Mhp : Int32) (Mrs : Int32) (Mrf : Int32) (Mto : Int32) (Mtb : Int32) (Mfr : Int32) (Mln : Int32) (Mhb : Int32) (v : Int32) (ha : zroom 4096 1 Mal) : zMV l yX6_put wsX6_put ({ frames := 0, cells := 0, slots := 0, locals := 0 }) g [.ref M, .int v] [(M, .inr (5, [.int Mft, .int Msz, .int Mal, .ref ab, .int Mbs, .ref au, .int Mpl, .int Mbg, .int Mlo, .int Mhs, .int Mhf, .ref ah, .int Mhp, .int Mrs, .int Mrf, .ref ar, .int Mto, .int Mtb, .ref aw, .ref ay, .int Mfr, .int Mln, .int Mhb])), (ab, .inl (g.2.2.1, 4096, .inl MB)), (au, .inl (g.2.2.1, 400, .inl MU)), (ah, .inl (g.2.2.1, 4096, .inl MH)), (ar, .inl (g.2.2.1, 4096, .inl MR)), (aw, .inl (g.2.2.1, 100, .inl MW)), (ay, .inl (g.2.2.1, 100, .inl MY))] [(M, .inr (5, [.int Mft, .int Msz, .int (Mal + 1), .ref ab, .int Mbs, .ref au, .int Mpl, .int Mbg, .int Mlo, .int Mhs, .int Mhf, .ref ah, .int Mhp, .int Mrs, .int Mrf, .ref ar, .int Mto, .int Mtb, .ref aw, .ref ay, .int Mfr, .int Mln, .int Mhb])), (ab, .inl (g.2.2.1, 4096, .inl (upd MB (Mal).toNatClampNeg (v &&& 255)))), (au, .inl (g.2.2.1, 400, .inl MU)), (ah, .inl (g.2.2.1, 4096, .inl MH)), (ar, .inl (g.2.2.1, 4096, .inl MR)), (aw, .inl (g.2.2.1, 100, .inl MW)), (ay, .inl (g.2.2.1, 100, .inl MY))] := by
  refine zMV_of (cc := cX6_put) (nL := 2) (by decide) rfl (Nat.le_of_ble_eq_true rfl) ?_
  intro X C hret
  refine z_lv (lv' := [(0, .ref M), (1, .int v)]) [0, 1] rfl ?_
  refine z_aload_n C dX6_put_0 rfl 0 rfl ?_
  refine z_get (ci := 5) (v := .ref ab) (Cn := RX6) (T := TX6) (N := 23) C dX6_put_1 (fun w h => List.mem_cons_of_mem _ (List.mem_append_right _ h)) 0 rfl rfl 3 (by decide) (List.mem_of_getElem? (i := 1) rfl) rfl rfl ?_
  refine z_aload_n C dX6_put_4 rfl 0 rfl ?_
  refine z_get (ci := 5) (v := .int Mal) (Cn := RX6) (T := TX6) (N := 23) C dX6_put_5 (fun w h => List.mem_cons_of_mem _ (List.mem_append_right _ h)) 0 rfl rfl 2 (by decide) (List.mem_of_getElem? (i := 2) rfl) rfl rfl ?_
  refine z_iload_n C dX6_put_8 rfl 1 rfl ?_
  refine z_sipush (v := 255) C dX6_put_9 (by decide) ?_
  refine z_iand C dX6_put_12 ?_
  refine z_iast (ws' := [(M, .inr (5, [.int Mft, .int Msz, .int Mal, .ref ab, .int Mbs, .ref au, .int Mpl, .int Mbg, .int Mlo, .int Mhs, .int Mhf, .ref ah, .int Mhp, .int Mrs, .int Mrf, .ref ar, .int Mto, .int Mtb, .ref aw, .ref ay, .int Mfr, .int Mln, .int Mhb])), (ab, .inl (g.2.2.1, 4096, .inl (upd MB (Mal).toNatClampNeg (v &&& 255)))), (au, .inl (g.2.2.1, 400, .inl MU)), (ah, .inl (g.2.2.1, 4096, .inl MH)), (ar, .inl (g.2.2.1, 4096, .inl MR)), (aw, .inl (g.2.2.1, 100, .inl MW)), (ay, .inl (g.2.2.1, 100, .inl MY))]) C dX6_put_13 1 rfl (zroom_in ha) rfl ?_
  refine z_aload_n C dX6_put_14 rfl 0 rfl ?_
  refine z_dup C dX6_put_15 rfl ?_
  refine z_get (ci := 5) (v := .int Mal) (Cn := RX6) (T := TX6) (N := 23) C dX6_put_16 (fun w h => List.mem_cons_of_mem _ (List.mem_append_right _ h)) 0 rfl rfl 2 (by decide) (List.mem_of_getElem? (i := 2) rfl) rfl rfl ?_
  refine z_iconst (v := 1) C dX6_put_19 (by decide) ?_
  refine z_iadd C dX6_put_20 ?_
  refine z_put (ci := 5) (v := .int (Mal + 1)) (ty := .int) (Cn := RX6) (T := TX6) (N := 23) (ws' := [(M, .inr (5, [.int Mft, .int Msz, .int (Mal + 1), .ref ab, .int Mbs, .ref au, .int Mpl, .int Mbg, .int Mlo, .int Mhs, .int Mhf, .ref ah, .int Mhp, .int Mrs, .int Mrf, .ref ar, .int Mto, .int Mtb, .ref aw, .ref ay, .int Mfr, .int Mln, .int Mhb])), (ab, .inl (g.2.2.1, 4096, .inl (upd MB (Mal).toNatClampNeg (v &&& 255)))), (au, .inl (g.2.2.1, 400, .inl MU)), (ah, .inl (g.2.2.1, 4096, .inl MH)), (ar, .inl (g.2.2.1, 4096, .inl MR)), (aw, .inl (g.2.2.1, 100, .inl MW)), (ay, .inl (g.2.2.1, 100, .inl MY))]) C dX6_put_21 (fun w h => List.mem_cons_of_mem _ (List.mem_append_right _ h)) tyX6 tyX6_ok nmX6 0 rfl rfl 2 (by decide) (List.mem_of_getElem? (i := 2) rfl) rfl rfl (by decide +kernel) rfl rfl (Nat.le_of_ble_eq_true rfl) rfl ?_
  exact hret _ _ _ dX6_put_24 rfl
def bb_X6_putFragment (MU : Nat → Int32) (x : Int32) (k : Int32) (z_ : (Nat → Int32) × Int32) : (Nat → Int32) × Int32 :=
  match z_ with
  | (MB_b, Mal_b) =>
    ((upd MB_b (Mal_b).toNatClampNeg ((MU ((x + k)).toNatClampNeg) &&& 255)), (Mal_b + 1))
def lpb_X6_putFragment (MU : Nat → Int32) (x : Int32) (z_ : (Nat → Int32) × Int32) : Nat → (Nat → Int32) × Int32
  | 0 => z_
  | i + 1 => bb_X6_putFragment MU x (nI i) (lpb_X6_putFragment MU x z_ i)
def ba_X6_putFragment (rq1 : Int32) (k : Int32) (z_ : (Nat → Int32) × Int32) : (Nat → Int32) × Int32 :=
  match z_ with
  | (MB_a, Mal_a) =>
    ((upd MB_a (Mal_a).toNatClampNeg ((rq1 >>> (((8 * k) : Int32) &&& 31)) &&& 255)), (Mal_a + 1))
def lpa_X6_putFragment (rq1 : Int32) (z_ : (Nat → Int32) × Int32) : Nat → (Nat → Int32) × Int32
  | 0 => z_
  | i + 1 => ba_X6_putFragment rq1 (nI i) (lpa_X6_putFragment rq1 z_ i)
def f_X6_putFragment (MB : Nat → Int32) (MU : Nat → Int32) (Mal : Int32) (q : Int32) (x : Int32) (v : Int32) : (Nat → Int32) × Int32 :=
  match lpa_X6_putFragment (f_X6_checkOf MU q x v) (MB, Mal) ((4 : Int32)).toNatClampNeg with
  | (MB_a, Mal_a) =>
    match lpb_X6_putFragment MU x ((upd (upd (upd MB_a (Mal_a).toNatClampNeg (v &&& 255)) ((Mal_a + 1)).toNatClampNeg ((v >>> ((8 : Int32) &&& 31)) &&& 255)) (((Mal_a + 1) + 1)).toNatClampNeg (q &&& 255)), (((Mal_a + 1) + 1) + 1)) (v).toNatClampNeg with
    | (MB_b, Mal_b) =>
      (MB_b, Mal_b)
set_option maxHeartbeats 4000000 in
set_option maxRecDepth 100000 in
theorem c_X6_putFragment (l : Launch) (g : zG) (M ab au ah ar aw ay : Nat) (MB : Nat → Int32) (MU : Nat → Int32) (MH : Nat → Int32) (MR : Nat → Int32) (MW : Nat → Int32) (MY : Nat → Int32) (Mft : Int32) (Msz : Int32) (Mal : Int32) (Mbs : Int32) (Mpl : Int32) (Mbg : Int32) (Mlo : Int32) (Mhs : Int32) (Mhf : Int32) (Mhp : Int32) (Mrs : Int32) (Mrf : Int32) (Mto : Int32) (Mtb : Int32) (Mfr : Int32) (Mln : Int32) (Mhb : Int32) (q : Int32) (x : Int32) (v : Int32) (hs : zseg 400 x v) (ha : zroom 4096 (7 + v.toNatClampNeg) Mal) : zMV l yX6_putFragment wsX6_putFragment ({ frames := 2, cells := 0, slots := 0, locals := 48 }) g [.ref M, .int q, .int x, .int v] [(M, .inr (5, [.int Mft, .int Msz, .int Mal, .ref ab, .int Mbs, .ref au, .int Mpl, .int Mbg, .int Mlo, .int Mhs, .int Mhf, .ref ah, .int Mhp, .int Mrs, .int Mrf, .ref ar, .int Mto, .int Mtb, .ref aw, .ref ay, .int Mfr, .int Mln, .int Mhb])), (ab, .inl (g.2.2.1, 4096, .inl MB)), (au, .inl (g.2.2.1, 400, .inl MU)), (ah, .inl (g.2.2.1, 4096, .inl MH)), (ar, .inl (g.2.2.1, 4096, .inl MR)), (aw, .inl (g.2.2.1, 100, .inl MW)), (ay, .inl (g.2.2.1, 100, .inl MY))] [(M, .inr (5, [.int Mft, .int Msz, .int ((f_X6_putFragment MB MU Mal q x v).2), .ref ab, .int Mbs, .ref au, .int Mpl, .int Mbg, .int Mlo, .int Mhs, .int Mhf, .ref ah, .int Mhp, .int Mrs, .int Mrf, .ref ar, .int Mto, .int Mtb, .ref aw, .ref ay, .int Mfr, .int Mln, .int Mhb])), (ab, .inl (g.2.2.1, 4096, .inl ((f_X6_putFragment MB MU Mal q x v).1))), (au, .inl (g.2.2.1, 400, .inl MU)), (ah, .inl (g.2.2.1, 4096, .inl MH)), (ar, .inl (g.2.2.1, 4096, .inl MR)), (aw, .inl (g.2.2.1, 100, .inl MW)), (ay, .inl (g.2.2.1, 100, .inl MY))] := by
  refine zMV_of (cc := cX6_putFragment) (nL := 6) (by decide) rfl (Nat.le_of_ble_eq_true rfl) ?_
  intro X C hret
  refine z_lv (lv' := [(0, .ref M), (1, .int q), (2, .int x), (3, .int v)]) [0, 1, 2, 3] rfl ?_
  refine z_aload_n C dX6_putFragment_0 rfl 0 rfl ?_
  refine z_iload_n C dX6_putFragment_1 rfl 1 rfl ?_
  refine z_iload_n C dX6_putFragment_2 rfl 2 rfl ?_
  refine z_iload_n C dX6_putFragment_3 rfl 3 rfl ?_
  refine z_callVi (n := 3) (isC := [0, 1, 2, 3, 4, 5, 6]) (isR := []) (isP := [0, 1, 2, 3, 4, 5, 6]) (As := [.int q, .int x, .int v]) (rest := []) (wr := []) (ws2 := [(M, .inr (5, [.int Mft, .int Msz, .int Mal, .ref ab, .int Mbs, .ref au, .int Mpl, .int Mbg, .int Mlo, .int Mhs, .int Mhf, .ref ah, .int Mhp, .int Mrs, .int Mrf, .ref ar, .int Mto, .int Mtb, .ref aw, .ref ay, .int Mfr, .int Mln, .int Mhb])), (ab, .inl (g.2.2.1, 4096, .inl MB)), (au, .inl (g.2.2.1, 400, .inl MU)), (ah, .inl (g.2.2.1, 4096, .inl MH)), (ar, .inl (g.2.2.1, 4096, .inl MR)), (aw, .inl (g.2.2.1, 100, .inl MW)), (ay, .inl (g.2.2.1, 100, .inl MY))]) C dX6_putFragment_4 (c_X6_checkOf (zl X) g M ab au ah ar aw ay MB MU MH MR MW MY Mft Msz Mal Mbs Mpl Mbg Mlo Mhs Mhf Mhp Mrs Mrf Mto Mtb Mfr Mln Mhb q x v hs) gX6_putFragment_X6_checkOf rfl ⟨rfl, rfl⟩ (by decide +kernel) (by decide) (by decide) rfl rfl rfl rfl (Nat.le_of_ble_eq_true rfl) rfl rfl ⟨rfl, rfl, rfl⟩ (by decide) rfl ?_
  generalize hT1 : (f_X6_checkOf MU q x v) = rq1
  refine z_istore (lv' := [(4, .int rq1), (0, .ref M), (1, .int q), (2, .int x), (3, .int v)]) C dX6_putFragment_7 (by decide) rfl ?_
  refine z_iconst (v := 0) C dX6_putFragment_9 (by decide) ?_
  refine z_istore (lv' := [(5, .int 0), (4, .int rq1), (0, .ref M), (1, .int q), (2, .int x), (3, .int v)]) C dX6_putFragment_10 (by decide) rfl ?_
  have loopa : ∀ (ra ia : Nat), ia + ra = ((4 : Int32)).toNatClampNeg → ∀ (MB_a : Nat → Int32) (Mal_a : Int32), lpa_X6_putFragment rq1 (MB, Mal) ia = (MB_a, Mal_a) → zroom 4096 (ra + (3 + v.toNatClampNeg)) Mal_a → zV X g 6 0 0 12 [(0, .ref M), (1, .int q), (2, .int x), (3, .int v), (4, .int rq1), (5, .int (nI ia))] [] [(M, .inr (5, [.int Mft, .int Msz, .int Mal_a, .ref ab, .int Mbs, .ref au, .int Mpl, .int Mbg, .int Mlo, .int Mhs, .int Mhf, .ref ah, .int Mhp, .int Mrs, .int Mrf, .ref ar, .int Mto, .int Mtb, .ref aw, .ref ay, .int Mfr, .int Mln, .int Mhb])), (ab, .inl (g.2.2.1, 4096, .inl MB_a)), (au, .inl (g.2.2.1, 400, .inl MU)), (ah, .inl (g.2.2.1, 4096, .inl MH)), (ar, .inl (g.2.2.1, 4096, .inl MR)), (aw, .inl (g.2.2.1, 100, .inl MW)), (ay, .inl (g.2.2.1, 100, .inl MY))] := by
    intro ra
    induction ra with
    | zero =>
      intro ia hia MB_a Mal_a hva ha_a
      have hia : ia = ((4 : Int32)).toNatClampNeg := hia
      refine z_iload C dX6_putFragment_12 5 rfl ?_
      refine z_iconst (v := 4) C dX6_putFragment_14 (by decide) ?_
      refine z_icmp_ge (tgt := 36) C dX6_putFragment_15 (by decide) (fun c_2 => ?_) (fun c_2 => absurd (zfor_out hia) c_2)
      refine z_aload_n C dX6_putFragment_36 rfl 0 rfl ?_
      refine z_iload_n C dX6_putFragment_37 rfl 3 rfl ?_
      refine z_callVv (n := 1) (isC := [0, 1, 2, 3, 4, 5, 6]) (isR := []) (isP := [0, 1, 2, 3, 4, 5, 6]) (As := [.int v]) (rest := []) (wr := []) (ws2 := [(M, .inr (5, [.int Mft, .int Msz, .int (Mal_a + 1), .ref ab, .int Mbs, .ref au, .int Mpl, .int Mbg, .int Mlo, .int Mhs, .int Mhf, .ref ah, .int Mhp, .int Mrs, .int Mrf, .ref ar, .int Mto, .int Mtb, .ref aw, .ref ay, .int Mfr, .int Mln, .int Mhb])), (ab, .inl (g.2.2.1, 4096, .inl (upd MB_a (Mal_a).toNatClampNeg (v &&& 255)))), (au, .inl (g.2.2.1, 400, .inl MU)), (ah, .inl (g.2.2.1, 4096, .inl MH)), (ar, .inl (g.2.2.1, 4096, .inl MR)), (aw, .inl (g.2.2.1, 100, .inl MW)), (ay, .inl (g.2.2.1, 100, .inl MY))]) C dX6_putFragment_38 (c_X6_put (zl X) g M ab au ah ar aw ay MB_a MU MH MR MW MY Mft Msz Mal_a Mbs Mpl Mbg Mlo Mhs Mhf Mhp Mrs Mrf Mto Mtb Mfr Mln Mhb v (zroom_le ha_a (by omega))) gX6_putFragment_X6_put rfl ⟨rfl, rfl⟩ (by decide +kernel) (by decide) (by decide) rfl rfl rfl rfl (Nat.le_of_ble_eq_true rfl) rfl rfl ⟨rfl, rfl, rfl⟩ (by decide) rfl ?_
      have k3_Mal : zroom 4096 (v.toNatClampNeg + 2) (Mal_a + 1) := zroom_s (zroom_le ha_a (by omega)) 
      refine z_aload_n C dX6_putFragment_41 rfl 0 rfl ?_
      refine z_iload_n C dX6_putFragment_42 rfl 3 rfl ?_
      refine z_bipush (v := 8) C dX6_putFragment_43 (by decide) ?_
      refine z_ishr C dX6_putFragment_45 ?_
      refine z_callVv (n := 1) (isC := [0, 1, 2, 3, 4, 5, 6]) (isR := []) (isP := [0, 1, 2, 3, 4, 5, 6]) (As := [.int (v >>> ((8 : Int32) &&& 31))]) (rest := []) (wr := []) (ws2 := [(M, .inr (5, [.int Mft, .int Msz, .int ((Mal_a + 1) + 1), .ref ab, .int Mbs, .ref au, .int Mpl, .int Mbg, .int Mlo, .int Mhs, .int Mhf, .ref ah, .int Mhp, .int Mrs, .int Mrf, .ref ar, .int Mto, .int Mtb, .ref aw, .ref ay, .int Mfr, .int Mln, .int Mhb])), (ab, .inl (g.2.2.1, 4096, .inl (upd (upd MB_a (Mal_a).toNatClampNeg (v &&& 255)) ((Mal_a + 1)).toNatClampNeg ((v >>> ((8 : Int32) &&& 31)) &&& 255)))), (au, .inl (g.2.2.1, 400, .inl MU)), (ah, .inl (g.2.2.1, 4096, .inl MH)), (ar, .inl (g.2.2.1, 4096, .inl MR)), (aw, .inl (g.2.2.1, 100, .inl MW)), (ay, .inl (g.2.2.1, 100, .inl MY))]) C dX6_putFragment_46 (c_X6_put (zl X) g M ab au ah ar aw ay (upd MB_a (Mal_a).toNatClampNeg (v &&& 255)) MU MH MR MW MY Mft Msz (Mal_a + 1) Mbs Mpl Mbg Mlo Mhs Mhf Mhp Mrs Mrf Mto Mtb Mfr Mln Mhb (v >>> ((8 : Int32) &&& 31)) (zroom_le k3_Mal (by omega))) gX6_putFragment_X6_put rfl ⟨rfl, rfl⟩ (by decide +kernel) (by decide) (by decide) rfl rfl rfl rfl (Nat.le_of_ble_eq_true rfl) rfl rfl ⟨rfl, rfl, rfl⟩ (by decide) rfl ?_
      have k4_Mal : zroom 4096 (v.toNatClampNeg + 1) ((Mal_a + 1) + 1) := zroom_s (zroom_le k3_Mal (by omega)) 
      refine z_aload_n C dX6_putFragment_49 rfl 0 rfl ?_
      refine z_iload_n C dX6_putFragment_50 rfl 1 rfl ?_
      refine z_callVv (n := 1) (isC := [0, 1, 2, 3, 4, 5, 6]) (isR := []) (isP := [0, 1, 2, 3, 4, 5, 6]) (As := [.int q]) (rest := []) (wr := []) (ws2 := [(M, .inr (5, [.int Mft, .int Msz, .int (((Mal_a + 1) + 1) + 1), .ref ab, .int Mbs, .ref au, .int Mpl, .int Mbg, .int Mlo, .int Mhs, .int Mhf, .ref ah, .int Mhp, .int Mrs, .int Mrf, .ref ar, .int Mto, .int Mtb, .ref aw, .ref ay, .int Mfr, .int Mln, .int Mhb])), (ab, .inl (g.2.2.1, 4096, .inl (upd (upd (upd MB_a (Mal_a).toNatClampNeg (v &&& 255)) ((Mal_a + 1)).toNatClampNeg ((v >>> ((8 : Int32) &&& 31)) &&& 255)) (((Mal_a + 1) + 1)).toNatClampNeg (q &&& 255)))), (au, .inl (g.2.2.1, 400, .inl MU)), (ah, .inl (g.2.2.1, 4096, .inl MH)), (ar, .inl (g.2.2.1, 4096, .inl MR)), (aw, .inl (g.2.2.1, 100, .inl MW)), (ay, .inl (g.2.2.1, 100, .inl MY))]) C dX6_putFragment_51 (c_X6_put (zl X) g M ab au ah ar aw ay (upd (upd MB_a (Mal_a).toNatClampNeg (v &&& 255)) ((Mal_a + 1)).toNatClampNeg ((v >>> ((8 : Int32) &&& 31)) &&& 255)) MU MH MR MW MY Mft Msz ((Mal_a + 1) + 1) Mbs Mpl Mbg Mlo Mhs Mhf Mhp Mrs Mrf Mto Mtb Mfr Mln Mhb q (zroom_le k4_Mal (by omega))) gX6_putFragment_X6_put rfl ⟨rfl, rfl⟩ (by decide +kernel) (by decide) (by decide) rfl rfl rfl rfl (Nat.le_of_ble_eq_true rfl) rfl rfl ⟨rfl, rfl, rfl⟩ (by decide) rfl ?_
      have k5_Mal : zroom 4096 (v.toNatClampNeg + 0) (((Mal_a + 1) + 1) + 1) := zroom_s (zroom_le k4_Mal (by omega)) 
      refine z_iconst (v := 0) C dX6_putFragment_54 (by decide) ?_
      refine z_istore (lv' := [(5, .int 0), (0, .ref M), (1, .int q), (2, .int x), (3, .int v), (4, .int rq1)]) C dX6_putFragment_55 (by decide) rfl ?_
      have loopb : ∀ (rb ib : Nat), ib + rb = (v).toNatClampNeg → ∀ (MB_b : Nat → Int32) (Mal_b : Int32), lpb_X6_putFragment MU x ((upd (upd (upd MB_a (Mal_a).toNatClampNeg (v &&& 255)) ((Mal_a + 1)).toNatClampNeg ((v >>> ((8 : Int32) &&& 31)) &&& 255)) (((Mal_a + 1) + 1)).toNatClampNeg (q &&& 255)), (((Mal_a + 1) + 1) + 1)) ib = (MB_b, Mal_b) → zroom 4096 rb Mal_b → zV X g 6 0 0 57 [(0, .ref M), (2, .int x), (3, .int v), (5, .int (nI ib))] [] [(M, .inr (5, [.int Mft, .int Msz, .int Mal_b, .ref ab, .int Mbs, .ref au, .int Mpl, .int Mbg, .int Mlo, .int Mhs, .int Mhf, .ref ah, .int Mhp, .int Mrs, .int Mrf, .ref ar, .int Mto, .int Mtb, .ref aw, .ref ay, .int Mfr, .int Mln, .int Mhb])), (ab, .inl (g.2.2.1, 4096, .inl MB_b)), (au, .inl (g.2.2.1, 400, .inl MU)), (ah, .inl (g.2.2.1, 4096, .inl MH)), (ar, .inl (g.2.2.1, 4096, .inl MR)), (aw, .inl (g.2.2.1, 100, .inl MW)), (ay, .inl (g.2.2.1, 100, .inl MY))] := by
        intro rb
        induction rb with
        | zero =>
          intro ib hib MB_b Mal_b hvb ha_b
          have hib : ib = (v).toNatClampNeg := hib
          refine z_iload C dX6_putFragment_57 3 rfl ?_
          refine z_iload_n C dX6_putFragment_59 rfl 2 rfl ?_
          refine z_icmp_ge (tgt := 82) C dX6_putFragment_60 (by decide) (fun c_6 => ?_) (fun c_6 => absurd (zfor_out hib) c_6)
          have he : (f_X6_putFragment MB MU Mal q x v) = (MB_b, Mal_b) := by simp only [f_X6_putFragment, hT1, ← hia, hva, ← hib, hvb]
          exact hret _ _ _ dX6_putFragment_82 (by first | rw [he] | rfl)
        | succ rb ihb =>
          intro ib hib MB_b Mal_b hvb ha_b
          refine z_iload C dX6_putFragment_57 3 rfl ?_
          refine z_iload_n C dX6_putFragment_59 rfl 2 rfl ?_
          refine z_icmp_ge (tgt := 82) C dX6_putFragment_60 (by decide) (fun c_7 => absurd c_7 (zfor_in hib)) (fun c_7 => ?_)
          refine z_aload_n C dX6_putFragment_63 rfl 0 rfl ?_
          refine z_aload_n C dX6_putFragment_64 rfl 0 rfl ?_
          refine z_get (ci := 5) (v := .ref au) (Cn := RX6) (T := TX6) (N := 23) C dX6_putFragment_65 (fun w h => List.mem_cons_of_mem _ (List.mem_append_right _ h)) 0 rfl rfl 5 (by decide) (List.mem_of_getElem? (i := 1) rfl) rfl rfl ?_
          refine z_iload_n C dX6_putFragment_68 rfl 1 rfl ?_
          refine z_iload C dX6_putFragment_69 3 rfl ?_
          refine z_iadd C dX6_putFragment_71 ?_
          refine z_iald C dX6_putFragment_72 2 rfl (zseg_in hs hib) ?_
          refine z_callVv (n := 1) (isC := [0, 1, 2, 3, 4, 5, 6]) (isR := []) (isP := [0, 1, 2, 3, 4, 5, 6]) (As := [.int (MU ((x + (nI ib))).toNatClampNeg)]) (rest := []) (wr := []) (ws2 := [(M, .inr (5, [.int Mft, .int Msz, .int (Mal_b + 1), .ref ab, .int Mbs, .ref au, .int Mpl, .int Mbg, .int Mlo, .int Mhs, .int Mhf, .ref ah, .int Mhp, .int Mrs, .int Mrf, .ref ar, .int Mto, .int Mtb, .ref aw, .ref ay, .int Mfr, .int Mln, .int Mhb])), (ab, .inl (g.2.2.1, 4096, .inl (upd MB_b (Mal_b).toNatClampNeg ((MU ((x + (nI ib))).toNatClampNeg) &&& 255)))), (au, .inl (g.2.2.1, 400, .inl MU)), (ah, .inl (g.2.2.1, 4096, .inl MH)), (ar, .inl (g.2.2.1, 4096, .inl MR)), (aw, .inl (g.2.2.1, 100, .inl MW)), (ay, .inl (g.2.2.1, 100, .inl MY))]) C dX6_putFragment_73 (c_X6_put (zl X) g M ab au ah ar aw ay MB_b MU MH MR MW MY Mft Msz Mal_b Mbs Mpl Mbg Mlo Mhs Mhf Mhp Mrs Mrf Mto Mtb Mfr Mln Mhb (MU ((x + (nI ib))).toNatClampNeg) (zroom_le ha_b (by omega))) gX6_putFragment_X6_put rfl ⟨rfl, rfl⟩ (by decide +kernel) (by decide) (by decide) rfl rfl rfl rfl (Nat.le_of_ble_eq_true rfl) rfl rfl ⟨rfl, rfl, rfl⟩ (by decide) rfl ?_
          have k8_Mal : zroom 4096 (rb + 0) (Mal_b + 1) := zroom_s (zroom_le ha_b (by omega)) 
          refine z_iinc (v := (nI (ib + 1))) (lv' := [(5, .int (nI (ib + 1))), (0, .ref M), (2, .int x), (3, .int v)]) C dX6_putFragment_76 3 rfl (nI_1 ib) (by decide) rfl ?_
          refine z_goto (tgt := 57) C dX6_putFragment_79 (by decide) ?_
          have hsb : lpb_X6_putFragment MU x ((upd (upd (upd MB_a (Mal_a).toNatClampNeg (v &&& 255)) ((Mal_a + 1)).toNatClampNeg ((v >>> ((8 : Int32) &&& 31)) &&& 255)) (((Mal_a + 1) + 1)).toNatClampNeg (q &&& 255)), (((Mal_a + 1) + 1) + 1)) (ib + 1) = ((upd MB_b (Mal_b).toNatClampNeg ((MU ((x + (nI ib))).toNatClampNeg) &&& 255)), (Mal_b + 1)) := by
            show bb_X6_putFragment MU x (nI ib) (lpb_X6_putFragment MU x ((upd (upd (upd MB_a (Mal_a).toNatClampNeg (v &&& 255)) ((Mal_a + 1)).toNatClampNeg ((v >>> ((8 : Int32) &&& 31)) &&& 255)) (((Mal_a + 1) + 1)).toNatClampNeg (q &&& 255)), (((Mal_a + 1) + 1) + 1)) ib) = _
            rw [hvb]
            rfl
          exact z_lv [1, 2, 3, 0] rfl (ihb (ib + 1) (by omega) (upd MB_b (Mal_b).toNatClampNeg ((MU ((x + (nI ib))).toNatClampNeg) &&& 255)) (Mal_b + 1) hsb (zroom_le k8_Mal (by omega)))
      exact z_lv [1, 3, 4, 0] rfl (loopb (v).toNatClampNeg 0 (Nat.zero_add _) (upd (upd (upd MB_a (Mal_a).toNatClampNeg (v &&& 255)) ((Mal_a + 1)).toNatClampNeg ((v >>> ((8 : Int32) &&& 31)) &&& 255)) (((Mal_a + 1) + 1)).toNatClampNeg (q &&& 255)) (((Mal_a + 1) + 1) + 1) rfl (zroom_le k5_Mal (by omega)))
    | succ ra iha =>
      intro ia hia MB_a Mal_a hva ha_a
      refine z_iload C dX6_putFragment_12 5 rfl ?_
      refine z_iconst (v := 4) C dX6_putFragment_14 (by decide) ?_
      refine z_icmp_ge (tgt := 36) C dX6_putFragment_15 (by decide) (fun c_9 => absurd c_9 (zfor_in hia)) (fun c_9 => ?_)
      refine z_aload_n C dX6_putFragment_18 rfl 0 rfl ?_
      refine z_iload C dX6_putFragment_19 4 rfl ?_
      refine z_bipush (v := 8) C dX6_putFragment_21 (by decide) ?_
      refine z_iload C dX6_putFragment_23 5 rfl ?_
      refine z_imul C dX6_putFragment_25 ?_
      refine z_ishr C dX6_putFragment_26 ?_
      refine z_callVv (n := 1) (isC := [0, 1, 2, 3, 4, 5, 6]) (isR := []) (isP := [0, 1, 2, 3, 4, 5, 6]) (As := [.int (rq1 >>> (((8 * (nI ia)) : Int32) &&& 31))]) (rest := []) (wr := []) (ws2 := [(M, .inr (5, [.int Mft, .int Msz, .int (Mal_a + 1), .ref ab, .int Mbs, .ref au, .int Mpl, .int Mbg, .int Mlo, .int Mhs, .int Mhf, .ref ah, .int Mhp, .int Mrs, .int Mrf, .ref ar, .int Mto, .int Mtb, .ref aw, .ref ay, .int Mfr, .int Mln, .int Mhb])), (ab, .inl (g.2.2.1, 4096, .inl (upd MB_a (Mal_a).toNatClampNeg ((rq1 >>> (((8 * (nI ia)) : Int32) &&& 31)) &&& 255)))), (au, .inl (g.2.2.1, 400, .inl MU)), (ah, .inl (g.2.2.1, 4096, .inl MH)), (ar, .inl (g.2.2.1, 4096, .inl MR)), (aw, .inl (g.2.2.1, 100, .inl MW)), (ay, .inl (g.2.2.1, 100, .inl MY))]) C dX6_putFragment_27 (c_X6_put (zl X) g M ab au ah ar aw ay MB_a MU MH MR MW MY Mft Msz Mal_a Mbs Mpl Mbg Mlo Mhs Mhf Mhp Mrs Mrf Mto Mtb Mfr Mln Mhb (rq1 >>> (((8 * (nI ia)) : Int32) &&& 31)) (zroom_le ha_a (by omega))) gX6_putFragment_X6_put rfl ⟨rfl, rfl⟩ (by decide +kernel) (by decide) (by decide) rfl rfl rfl rfl (Nat.le_of_ble_eq_true rfl) rfl rfl ⟨rfl, rfl, rfl⟩ (by decide) rfl ?_
      have k10_Mal : zroom 4096 (ra + (3 + v.toNatClampNeg) + 0) (Mal_a + 1) := zroom_s (zroom_le ha_a (by omega)) 
      refine z_iinc (v := (nI (ia + 1))) (lv' := [(5, .int (nI (ia + 1))), (0, .ref M), (1, .int q), (2, .int x), (3, .int v), (4, .int rq1)]) C dX6_putFragment_30 5 rfl (nI_1 ia) (by decide) rfl ?_
      refine z_goto (tgt := 12) C dX6_putFragment_33 (by decide) ?_
      have hsa : lpa_X6_putFragment rq1 (MB, Mal) (ia + 1) = ((upd MB_a (Mal_a).toNatClampNeg ((rq1 >>> (((8 * (nI ia)) : Int32) &&& 31)) &&& 255)), (Mal_a + 1)) := by
        show ba_X6_putFragment rq1 (nI ia) (lpa_X6_putFragment rq1 (MB, Mal) ia) = _
        rw [hva]
        rfl
      exact z_lv [1, 2, 3, 4, 5, 0] rfl (iha (ia + 1) (by omega) (upd MB_a (Mal_a).toNatClampNeg ((rq1 >>> (((8 * (nI ia)) : Int32) &&& 31)) &&& 255)) (Mal_a + 1) hsa (zroom_le k10_Mal (by omega)))
  exact z_lv [2, 3, 4, 5, 1, 0] rfl (loopa ((4 : Int32)).toNatClampNeg 0 (Nat.zero_add _) MB Mal rfl (zroom_le ha (by have : (4 : Int32).toNatClampNeg = 4 := rfl; omega)))
def f_X6_raw (MB : Nat → Int32) (MU : Nat → Int32) (Mal : Int32) (Mbs : Int32) (v : Int32) : Int32 × (Nat → Int32) × Int32 × Int32 :=
  if (f_X6_isIn v 0 255) = 0 then
    (0, MB, 1, Mal)
  else
    if ((Mal + 7) + Mbs) ≤ 4096 then
      match (f_X6_putFragment MB MU Mal v 0 Mbs) with
      | (MBq8, Malq8) =>
        (Malq8, MBq8, 0, Malq8)
    else
      ((-2), MB, 0, Mal)
theorem zraw_room {a b : Int32} (ha : zok 4096 a) (hu : zok 400 b) (c : ((a + 7) + b) ≤ 4096) : zroom 4096 (7 + b.toNatClampNeg) a := by
  obtain ⟨a1, a2, a3⟩ := ha
  obtain ⟨b1, b2, b3⟩ := hu
  have o7 : (7 : Int32).toInt = 7 := rfl
  have o4 : (4096 : Int32).toInt = 4096 := rfl
  have e : (a + 7).toInt = a.toInt + 7 := by rw [zadd] <;> rw [o7] <;> omega
  simp only [Int32.le_iff_toInt_le] at c
  rw [zadd (by omega) (by omega)] at c
  have := zclamp b1
  exact ⟨a1, by omega, by omega⟩
set_option maxHeartbeats 4000000 in
set_option maxRecDepth 100000 in
theorem c_X6_raw (l : Launch) (g : zG) (M ab au ah ar aw ay : Nat) (MB : Nat → Int32) (MU : Nat → Int32) (MH : Nat → Int32) (MR : Nat → Int32) (MW : Nat → Int32) (MY : Nat → Int32) (Mft : Int32) (Msz : Int32) (Mal : Int32) (Mbs : Int32) (Mpl : Int32) (Mbg : Int32) (Mlo : Int32) (Mhs : Int32) (Mhf : Int32) (Mhp : Int32) (Mrs : Int32) (Mrf : Int32) (Mto : Int32) (Mtb : Int32) (Mfr : Int32) (Mln : Int32) (Mhb : Int32) (v : Int32) (ha : zok 4096 Mal) (hu : zok 400 Mbs) : zMI l yX6_raw wsX6_raw ({ frames := 3, cells := 0, slots := 0, locals := 73 }) g [.ref M, .int v] [(M, .inr (5, [.int Mft, .int Msz, .int Mal, .ref ab, .int Mbs, .ref au, .int Mpl, .int Mbg, .int Mlo, .int Mhs, .int Mhf, .ref ah, .int Mhp, .int Mrs, .int Mrf, .ref ar, .int Mto, .int Mtb, .ref aw, .ref ay, .int Mfr, .int Mln, .int Mhb])), (ab, .inl (g.2.2.1, 4096, .inl MB)), (au, .inl (g.2.2.1, 400, .inl MU)), (ah, .inl (g.2.2.1, 4096, .inl MH)), (ar, .inl (g.2.2.1, 4096, .inl MR)), (aw, .inl (g.2.2.1, 100, .inl MW)), (ay, .inl (g.2.2.1, 100, .inl MY))] ((f_X6_raw MB MU Mal Mbs v).1) [(M, .inr (5, [.int ((f_X6_raw MB MU Mal Mbs v).2.2.1), .int Msz, .int ((f_X6_raw MB MU Mal Mbs v).2.2.2), .ref ab, .int Mbs, .ref au, .int Mpl, .int Mbg, .int Mlo, .int Mhs, .int Mhf, .ref ah, .int Mhp, .int Mrs, .int Mrf, .ref ar, .int Mto, .int Mtb, .ref aw, .ref ay, .int Mfr, .int Mln, .int Mhb])), (ab, .inl (g.2.2.1, 4096, .inl ((f_X6_raw MB MU Mal Mbs v).2.1))), (au, .inl (g.2.2.1, 400, .inl MU)), (ah, .inl (g.2.2.1, 4096, .inl MH)), (ar, .inl (g.2.2.1, 4096, .inl MR)), (aw, .inl (g.2.2.1, 100, .inl MW)), (ay, .inl (g.2.2.1, 100, .inl MY))] := by
  refine zMI_of (cc := cX6_raw) (nL := 2) (ty := .int) (by decide) rfl (Nat.le_of_ble_eq_true rfl) rfl ?_
  intro X C hret
  refine z_lv (lv' := [(0, .ref M), (1, .int v)]) [0, 1] rfl ?_
  refine z_aload_n C dX6_raw_0 rfl 0 rfl ?_
  refine z_iload_n C dX6_raw_1 rfl 1 rfl ?_
  refine z_iconst (v := 0) C dX6_raw_2 (by decide) ?_
  refine z_sipush (v := 255) C dX6_raw_3 (by decide) ?_
  refine z_callSi (n := 3) (isC := []) (isR := [0, 1, 2, 3, 4, 5, 6]) (isP := [0, 1, 2, 3, 4, 5, 6]) (As := [.int v, .int 0, .int 255]) (rest := [.ref M]) (wr := [(M, .inr (5, [.int Mft, .int Msz, .int Mal, .ref ab, .int Mbs, .ref au, .int Mpl, .int Mbg, .int Mlo, .int Mhs, .int Mhf, .ref ah, .int Mhp, .int Mrs, .int Mrf, .ref ar, .int Mto, .int Mtb, .ref aw, .ref ay, .int Mfr, .int Mln, .int Mhb])), (ab, .inl (g.2.2.1, 4096, .inl MB)), (au, .inl (g.2.2.1, 400, .inl MU)), (ah, .inl (g.2.2.1, 4096, .inl MH)), (ar, .inl (g.2.2.1, 4096, .inl MR)), (aw, .inl (g.2.2.1, 100, .inl MW)), (ay, .inl (g.2.2.1, 100, .inl MY))]) (ws2 := [(M, .inr (5, [.int Mft, .int Msz, .int Mal, .ref ab, .int Mbs, .ref au, .int Mpl, .int Mbg, .int Mlo, .int Mhs, .int Mhf, .ref ah, .int Mhp, .int Mrs, .int Mrf, .ref ar, .int Mto, .int Mtb, .ref aw, .ref ay, .int Mfr, .int Mln, .int Mhb])), (ab, .inl (g.2.2.1, 4096, .inl MB)), (au, .inl (g.2.2.1, 400, .inl MU)), (ah, .inl (g.2.2.1, 4096, .inl MH)), (ar, .inl (g.2.2.1, 4096, .inl MR)), (aw, .inl (g.2.2.1, 100, .inl MW)), (ay, .inl (g.2.2.1, 100, .inl MY))]) C dX6_raw_6 (c_X6_isIn (zl X) g v 0 255) gX6_raw_X6_isIn rfl ⟨rfl, rfl⟩ (by decide +kernel) (by decide) (by decide) rfl rfl (Nat.le_of_ble_eq_true rfl) rfl rfl ⟨rfl, rfl, rfl⟩ (by decide) rfl ?_
  generalize hT1 : (f_X6_isIn v 0 255) = rq1
  refine z_if_eq (tgt := 16) C dX6_raw_9 (by decide) (fun c_2 => ?_) (fun c_2 => ?_)
  · skip
    refine z_iconst (v := 1) C dX6_raw_16 (by decide) ?_
    refine z_callVi (n := 1) (isC := [0, 1, 2, 3, 4, 5, 6]) (isR := []) (isP := [0, 1, 2, 3, 4, 5, 6]) (As := [.int 1]) (rest := []) (wr := []) (ws2 := [(M, .inr (5, [.int ((f_X6_refused 1).2), .int Msz, .int Mal, .ref ab, .int Mbs, .ref au, .int Mpl, .int Mbg, .int Mlo, .int Mhs, .int Mhf, .ref ah, .int Mhp, .int Mrs, .int Mrf, .ref ar, .int Mto, .int Mtb, .ref aw, .ref ay, .int Mfr, .int Mln, .int Mhb])), (ab, .inl (g.2.2.1, 4096, .inl MB)), (au, .inl (g.2.2.1, 400, .inl MU)), (ah, .inl (g.2.2.1, 4096, .inl MH)), (ar, .inl (g.2.2.1, 4096, .inl MR)), (aw, .inl (g.2.2.1, 100, .inl MW)), (ay, .inl (g.2.2.1, 100, .inl MY))]) C dX6_raw_17 (c_X6_refused (zl X) g M ab au ah ar aw ay MB MU MH MR MW MY Mft Msz Mal Mbs Mpl Mbg Mlo Mhs Mhf Mhp Mrs Mrf Mto Mtb Mfr Mln Mhb 1) gX6_raw_X6_refused rfl ⟨rfl, rfl⟩ (by decide +kernel) (by decide) (by decide) rfl rfl rfl rfl (Nat.le_of_ble_eq_true rfl) rfl rfl ⟨rfl, rfl, rfl⟩ (by decide) rfl ?_
    have hT3 : (f_X6_refused 1) = (1, 1) := by decide
    rw [hT3]
    refine z_if_eq (tgt := 25) C dX6_raw_20 (by decide) (fun c_4 => absurd c_4 (by decide)) (fun c_4 => ?_)
    refine z_iconst (v := 0) C dX6_raw_23 (by decide) ?_
    have he : (f_X6_raw MB MU Mal Mbs v) = (0, MB, 1, Mal) := by simp only [f_X6_raw, hT1, if_pos c_2]
    exact hret _ _ _ _ dX6_raw_24 (by first | rw [he] | rfl) (by first | rw [he] | rfl)
  · skip
    refine z_iconst (v := 0) C dX6_raw_12 (by decide) ?_
    refine z_goto (tgt := 17) C dX6_raw_13 (by decide) ?_
    refine z_callVi (n := 1) (isC := [0, 1, 2, 3, 4, 5, 6]) (isR := []) (isP := [0, 1, 2, 3, 4, 5, 6]) (As := [.int 0]) (rest := []) (wr := []) (ws2 := [(M, .inr (5, [.int ((f_X6_refused 0).2), .int Msz, .int Mal, .ref ab, .int Mbs, .ref au, .int Mpl, .int Mbg, .int Mlo, .int Mhs, .int Mhf, .ref ah, .int Mhp, .int Mrs, .int Mrf, .ref ar, .int Mto, .int Mtb, .ref aw, .ref ay, .int Mfr, .int Mln, .int Mhb])), (ab, .inl (g.2.2.1, 4096, .inl MB)), (au, .inl (g.2.2.1, 400, .inl MU)), (ah, .inl (g.2.2.1, 4096, .inl MH)), (ar, .inl (g.2.2.1, 4096, .inl MR)), (aw, .inl (g.2.2.1, 100, .inl MW)), (ay, .inl (g.2.2.1, 100, .inl MY))]) C dX6_raw_17 (c_X6_refused (zl X) g M ab au ah ar aw ay MB MU MH MR MW MY Mft Msz Mal Mbs Mpl Mbg Mlo Mhs Mhf Mhp Mrs Mrf Mto Mtb Mfr Mln Mhb 0) gX6_raw_X6_refused rfl ⟨rfl, rfl⟩ (by decide +kernel) (by decide) (by decide) rfl rfl rfl rfl (Nat.le_of_ble_eq_true rfl) rfl rfl ⟨rfl, rfl, rfl⟩ (by decide) rfl ?_
    have hT5 : (f_X6_refused 0) = (0, 0) := by decide
    rw [hT5]
    refine z_if_eq (tgt := 25) C dX6_raw_20 (by decide) (fun c_6 => ?_) (fun c_6 => absurd (by decide) c_6)
    refine z_aload_n C dX6_raw_25 rfl 0 rfl ?_
    refine z_get (ci := 5) (v := .int Mal) (Cn := RX6) (T := TX6) (N := 23) C dX6_raw_26 (fun w h => List.mem_cons_of_mem _ (List.mem_append_right _ h)) 0 rfl rfl 2 (by decide) (List.mem_of_getElem? (i := 1) rfl) rfl rfl ?_
    refine z_bipush (v := 7) C dX6_raw_29 (by decide) ?_
    refine z_iadd C dX6_raw_31 ?_
    refine z_aload_n C dX6_raw_32 rfl 0 rfl ?_
    refine z_get (ci := 5) (v := .int Mbs) (Cn := RX6) (T := TX6) (N := 23) C dX6_raw_33 (fun w h => List.mem_cons_of_mem _ (List.mem_append_right _ h)) 0 rfl rfl 4 (by decide) (List.mem_of_getElem? (i := 2) rfl) rfl rfl ?_
    refine z_iadd C dX6_raw_36 ?_
    refine z_sipush (v := 4096) C dX6_raw_37 (by decide) ?_
    refine z_icmp_le (tgt := 46) C dX6_raw_40 (by decide) (fun c_7 => ?_) (fun c_7 => ?_)
    · skip
      refine z_aload_n C dX6_raw_46 rfl 0 rfl ?_
      refine z_iload_n C dX6_raw_47 rfl 1 rfl ?_
      refine z_iconst (v := 0) C dX6_raw_48 (by decide) ?_
      refine z_aload_n C dX6_raw_49 rfl 0 rfl ?_
      refine z_get (ci := 5) (v := .int Mbs) (Cn := RX6) (T := TX6) (N := 23) C dX6_raw_50 (fun w h => List.mem_cons_of_mem _ (List.mem_append_right _ h)) 0 rfl rfl 4 (by decide) (List.mem_of_getElem? (i := 2) rfl) rfl rfl ?_
      refine z_callVv (n := 3) (isC := [0, 1, 2, 3, 4, 5, 6]) (isR := []) (isP := [0, 1, 2, 3, 4, 5, 6]) (As := [.int v, .int 0, .int Mbs]) (rest := []) (wr := []) (ws2 := [(M, .inr (5, [.int 0, .int Msz, .int ((f_X6_putFragment MB MU Mal v 0 Mbs).2), .ref ab, .int Mbs, .ref au, .int Mpl, .int Mbg, .int Mlo, .int Mhs, .int Mhf, .ref ah, .int Mhp, .int Mrs, .int Mrf, .ref ar, .int Mto, .int Mtb, .ref aw, .ref ay, .int Mfr, .int Mln, .int Mhb])), (ab, .inl (g.2.2.1, 4096, .inl ((f_X6_putFragment MB MU Mal v 0 Mbs).1))), (au, .inl (g.2.2.1, 400, .inl MU)), (ah, .inl (g.2.2.1, 4096, .inl MH)), (ar, .inl (g.2.2.1, 4096, .inl MR)), (aw, .inl (g.2.2.1, 100, .inl MW)), (ay, .inl (g.2.2.1, 100, .inl MY))]) C dX6_raw_53 (c_X6_putFragment (zl X) g M ab au ah ar aw ay MB MU MH MR MW MY 0 Msz Mal Mbs Mpl Mbg Mlo Mhs Mhf Mhp Mrs Mrf Mto Mtb Mfr Mln Mhb v 0 Mbs (zseg_0 hu) (zraw_room ha hu c_7)) gX6_raw_X6_putFragment rfl ⟨rfl, rfl⟩ (by decide +kernel) (by decide) (by decide) rfl rfl rfl rfl (Nat.le_of_ble_eq_true rfl) rfl rfl ⟨rfl, rfl, rfl⟩ (by decide) rfl ?_
      generalize hT8 : (f_X6_putFragment MB MU Mal v 0 Mbs) = T8
      obtain ⟨MBq8, Malq8⟩ := T8
      refine z_aload_n C dX6_raw_56 rfl 0 rfl ?_
      refine z_get (ci := 5) (v := .int Malq8) (Cn := RX6) (T := TX6) (N := 23) C dX6_raw_57 (fun w h => List.mem_cons_of_mem _ (List.mem_append_right _ h)) 0 rfl rfl 2 (by decide) (List.mem_of_getElem? (i := 1) rfl) rfl rfl ?_
      have he : (f_X6_raw MB MU Mal Mbs v) = (Malq8, MBq8, 0, Malq8) := by simp only [f_X6_raw, hT1, if_neg c_2, if_pos c_7, hT8]
      exact hret _ _ _ _ dX6_raw_60 (by first | rw [he] | rfl) (by first | rw [he] | rfl)
    · skip
      refine z_bipush (v := (-2)) C dX6_raw_43 (by decide) ?_
      have he : (f_X6_raw MB MU Mal Mbs v) = ((-2), MB, 0, Mal) := by simp only [f_X6_raw, hT1, if_neg c_2, if_neg c_7]
      exact hret _ _ _ _ dX6_raw_45 (by first | rw [he] | rfl) (by first | rw [he] | rfl)
def f_X6_put_ (MB : Nat → Int32) (Mal : Int32) (v : Int32) (x : Int32) : Int32 × (Nat → Int32) × Int32 :=
  if (f_X6_isIn v 0 (Mal - 1)) = 0 then
    (0, MB, 1)
  else
    if (f_X6_isIn x 0 255) = 0 then
      (0, MB, 2)
    else
      ((MB (v).toNatClampNeg), (upd MB (v).toNatClampNeg x), 0)
theorem zput_in {a v r : Int32} (ha : zok 4096 a) (h : f_X6_isIn v 0 (a - 1) = r) (c : ¬ r = 0) : vp_in v 4096 := by
  obtain ⟨h1, h2⟩ := zisIn h c
  obtain ⟨a1, a2, a3⟩ := ha
  have o1 : (1 : Int32).toInt = 1 := rfl
  have e : (a - 1).toInt = a.toInt - 1 := by rw [zsub] <;> rw [o1] <;> omega
  exact zin_tw h1 h2 (by decide) (by omega)
set_option maxHeartbeats 4000000 in
set_option maxRecDepth 100000 in
theorem c_X6_put_ (l : Launch) (g : zG) (M ab au ah ar aw ay : Nat) (MB : Nat → Int32) (MU : Nat → Int32) (MH : Nat → Int32) (MR : Nat → Int32) (MW : Nat → Int32) (MY : Nat → Int32) (Mft : Int32) (Msz : Int32) (Mal : Int32) (Mbs : Int32) (Mpl : Int32) (Mbg : Int32) (Mlo : Int32) (Mhs : Int32) (Mhf : Int32) (Mhp : Int32) (Mrs : Int32) (Mrf : Int32) (Mto : Int32) (Mtb : Int32) (Mfr : Int32) (Mln : Int32) (Mhb : Int32) (v : Int32) (x : Int32) (ha : zok 4096 Mal) : zMI l yX6_put_ wsX6_put_ ({ frames := 1, cells := 0, slots := 0, locals := 22 }) g [.ref M, .int v, .int x] [(M, .inr (5, [.int Mft, .int Msz, .int Mal, .ref ab, .int Mbs, .ref au, .int Mpl, .int Mbg, .int Mlo, .int Mhs, .int Mhf, .ref ah, .int Mhp, .int Mrs, .int Mrf, .ref ar, .int Mto, .int Mtb, .ref aw, .ref ay, .int Mfr, .int Mln, .int Mhb])), (ab, .inl (g.2.2.1, 4096, .inl MB)), (au, .inl (g.2.2.1, 400, .inl MU)), (ah, .inl (g.2.2.1, 4096, .inl MH)), (ar, .inl (g.2.2.1, 4096, .inl MR)), (aw, .inl (g.2.2.1, 100, .inl MW)), (ay, .inl (g.2.2.1, 100, .inl MY))] ((f_X6_put_ MB Mal v x).1) [(M, .inr (5, [.int ((f_X6_put_ MB Mal v x).2.2), .int Msz, .int Mal, .ref ab, .int Mbs, .ref au, .int Mpl, .int Mbg, .int Mlo, .int Mhs, .int Mhf, .ref ah, .int Mhp, .int Mrs, .int Mrf, .ref ar, .int Mto, .int Mtb, .ref aw, .ref ay, .int Mfr, .int Mln, .int Mhb])), (ab, .inl (g.2.2.1, 4096, .inl ((f_X6_put_ MB Mal v x).2.1))), (au, .inl (g.2.2.1, 400, .inl MU)), (ah, .inl (g.2.2.1, 4096, .inl MH)), (ar, .inl (g.2.2.1, 4096, .inl MR)), (aw, .inl (g.2.2.1, 100, .inl MW)), (ay, .inl (g.2.2.1, 100, .inl MY))] := by
  refine zMI_of (cc := cX6_put_) (nL := 4) (ty := .int) (by decide) rfl (Nat.le_of_ble_eq_true rfl) rfl ?_
  intro X C hret
  refine z_lv (lv' := [(0, .ref M), (1, .int v), (2, .int x)]) [0, 1, 2] rfl ?_
  refine z_aload_n C dX6_put__0 rfl 0 rfl ?_
  refine z_iload_n C dX6_put__1 rfl 1 rfl ?_
  refine z_iconst (v := 0) C dX6_put__2 (by decide) ?_
  refine z_aload_n C dX6_put__3 rfl 0 rfl ?_
  refine z_get (ci := 5) (v := .int Mal) (Cn := RX6) (T := TX6) (N := 23) C dX6_put__4 (fun w h => List.mem_cons_of_mem _ (List.mem_append_right _ h)) 0 rfl rfl 2 (by decide) (List.mem_of_getElem? (i := 1) rfl) rfl rfl ?_
  refine z_iconst (v := 1) C dX6_put__7 (by decide) ?_
  refine z_isub C dX6_put__8 ?_
  refine z_callSi (n := 3) (isC := []) (isR := [0, 1, 2, 3, 4, 5, 6]) (isP := [0, 1, 2, 3, 4, 5, 6]) (As := [.int v, .int 0, .int (Mal - 1)]) (rest := [.ref M]) (wr := [(M, .inr (5, [.int Mft, .int Msz, .int Mal, .ref ab, .int Mbs, .ref au, .int Mpl, .int Mbg, .int Mlo, .int Mhs, .int Mhf, .ref ah, .int Mhp, .int Mrs, .int Mrf, .ref ar, .int Mto, .int Mtb, .ref aw, .ref ay, .int Mfr, .int Mln, .int Mhb])), (ab, .inl (g.2.2.1, 4096, .inl MB)), (au, .inl (g.2.2.1, 400, .inl MU)), (ah, .inl (g.2.2.1, 4096, .inl MH)), (ar, .inl (g.2.2.1, 4096, .inl MR)), (aw, .inl (g.2.2.1, 100, .inl MW)), (ay, .inl (g.2.2.1, 100, .inl MY))]) (ws2 := [(M, .inr (5, [.int Mft, .int Msz, .int Mal, .ref ab, .int Mbs, .ref au, .int Mpl, .int Mbg, .int Mlo, .int Mhs, .int Mhf, .ref ah, .int Mhp, .int Mrs, .int Mrf, .ref ar, .int Mto, .int Mtb, .ref aw, .ref ay, .int Mfr, .int Mln, .int Mhb])), (ab, .inl (g.2.2.1, 4096, .inl MB)), (au, .inl (g.2.2.1, 400, .inl MU)), (ah, .inl (g.2.2.1, 4096, .inl MH)), (ar, .inl (g.2.2.1, 4096, .inl MR)), (aw, .inl (g.2.2.1, 100, .inl MW)), (ay, .inl (g.2.2.1, 100, .inl MY))]) C dX6_put__9 (c_X6_isIn (zl X) g v 0 (Mal - 1)) gX6_put__X6_isIn rfl ⟨rfl, rfl⟩ (by decide +kernel) (by decide) (by decide) rfl rfl (Nat.le_of_ble_eq_true rfl) rfl rfl ⟨rfl, rfl, rfl⟩ (by decide) rfl ?_
  generalize hT1 : (f_X6_isIn v 0 (Mal - 1)) = rq1
  refine z_if_ne (tgt := 19) C dX6_put__12 (by decide) (fun c_2 => ?_) (fun c_2 => ?_)
  · skip
    refine z_iload_n C dX6_put__19 rfl 2 rfl ?_
    refine z_iconst (v := 0) C dX6_put__20 (by decide) ?_
    refine z_sipush (v := 255) C dX6_put__21 (by decide) ?_
    refine z_callSi (n := 3) (isC := []) (isR := [0, 1, 2, 3, 4, 5, 6]) (isP := [0, 1, 2, 3, 4, 5, 6]) (As := [.int x, .int 0, .int 255]) (rest := [.ref M]) (wr := [(M, .inr (5, [.int Mft, .int Msz, .int Mal, .ref ab, .int Mbs, .ref au, .int Mpl, .int Mbg, .int Mlo, .int Mhs, .int Mhf, .ref ah, .int Mhp, .int Mrs, .int Mrf, .ref ar, .int Mto, .int Mtb, .ref aw, .ref ay, .int Mfr, .int Mln, .int Mhb])), (ab, .inl (g.2.2.1, 4096, .inl MB)), (au, .inl (g.2.2.1, 400, .inl MU)), (ah, .inl (g.2.2.1, 4096, .inl MH)), (ar, .inl (g.2.2.1, 4096, .inl MR)), (aw, .inl (g.2.2.1, 100, .inl MW)), (ay, .inl (g.2.2.1, 100, .inl MY))]) (ws2 := [(M, .inr (5, [.int Mft, .int Msz, .int Mal, .ref ab, .int Mbs, .ref au, .int Mpl, .int Mbg, .int Mlo, .int Mhs, .int Mhf, .ref ah, .int Mhp, .int Mrs, .int Mrf, .ref ar, .int Mto, .int Mtb, .ref aw, .ref ay, .int Mfr, .int Mln, .int Mhb])), (ab, .inl (g.2.2.1, 4096, .inl MB)), (au, .inl (g.2.2.1, 400, .inl MU)), (ah, .inl (g.2.2.1, 4096, .inl MH)), (ar, .inl (g.2.2.1, 4096, .inl MR)), (aw, .inl (g.2.2.1, 100, .inl MW)), (ay, .inl (g.2.2.1, 100, .inl MY))]) C dX6_put__24 (c_X6_isIn (zl X) g x 0 255) gX6_put__X6_isIn rfl ⟨rfl, rfl⟩ (by decide +kernel) (by decide) (by decide) rfl rfl (Nat.le_of_ble_eq_true rfl) rfl rfl ⟨rfl, rfl, rfl⟩ (by decide) rfl ?_
    generalize hT3 : (f_X6_isIn x 0 255) = rq3
    refine z_if_ne (tgt := 34) C dX6_put__27 (by decide) (fun c_4 => ?_) (fun c_4 => ?_)
    · skip
      refine z_iconst (v := 0) C dX6_put__34 (by decide) ?_
      refine z_callVi (n := 1) (isC := [0, 1, 2, 3, 4, 5, 6]) (isR := []) (isP := [0, 1, 2, 3, 4, 5, 6]) (As := [.int 0]) (rest := []) (wr := []) (ws2 := [(M, .inr (5, [.int ((f_X6_refused 0).2), .int Msz, .int Mal, .ref ab, .int Mbs, .ref au, .int Mpl, .int Mbg, .int Mlo, .int Mhs, .int Mhf, .ref ah, .int Mhp, .int Mrs, .int Mrf, .ref ar, .int Mto, .int Mtb, .ref aw, .ref ay, .int Mfr, .int Mln, .int Mhb])), (ab, .inl (g.2.2.1, 4096, .inl MB)), (au, .inl (g.2.2.1, 400, .inl MU)), (ah, .inl (g.2.2.1, 4096, .inl MH)), (ar, .inl (g.2.2.1, 4096, .inl MR)), (aw, .inl (g.2.2.1, 100, .inl MW)), (ay, .inl (g.2.2.1, 100, .inl MY))]) C dX6_put__35 (c_X6_refused (zl X) g M ab au ah ar aw ay MB MU MH MR MW MY Mft Msz Mal Mbs Mpl Mbg Mlo Mhs Mhf Mhp Mrs Mrf Mto Mtb Mfr Mln Mhb 0) gX6_put__X6_refused rfl ⟨rfl, rfl⟩ (by decide +kernel) (by decide) (by decide) rfl rfl rfl rfl (Nat.le_of_ble_eq_true rfl) rfl rfl ⟨rfl, rfl, rfl⟩ (by decide) rfl ?_
      have hT5 : (f_X6_refused 0) = (0, 0) := by decide
      rw [hT5]
      refine z_if_eq (tgt := 43) C dX6_put__38 (by decide) (fun c_6 => ?_) (fun c_6 => absurd (by decide) c_6)
      refine z_aload_n C dX6_put__43 rfl 0 rfl ?_
      refine z_get (ci := 5) (v := .ref ab) (Cn := RX6) (T := TX6) (N := 23) C dX6_put__44 (fun w h => List.mem_cons_of_mem _ (List.mem_append_right _ h)) 0 rfl rfl 3 (by decide) (List.mem_of_getElem? (i := 2) rfl) rfl rfl ?_
      refine z_iload_n C dX6_put__47 rfl 1 rfl ?_
      refine z_iald C dX6_put__48 1 rfl (zput_in ha hT1 c_2) ?_
      refine z_istore_n (lv' := [(3, .int (MB (v).toNatClampNeg)), (0, .ref M), (1, .int v), (2, .int x)]) C dX6_put__49 rfl (by decide) rfl ?_
      refine z_aload_n C dX6_put__50 rfl 1 rfl ?_
      refine z_get (ci := 5) (v := .ref ab) (Cn := RX6) (T := TX6) (N := 23) C dX6_put__51 (fun w h => List.mem_cons_of_mem _ (List.mem_append_right _ h)) 0 rfl rfl 3 (by decide) (List.mem_of_getElem? (i := 2) rfl) rfl rfl ?_
      refine z_iload_n C dX6_put__54 rfl 2 rfl ?_
      refine z_iload_n C dX6_put__55 rfl 3 rfl ?_
      refine z_iast (ws' := [(M, .inr (5, [.int 0, .int Msz, .int Mal, .ref ab, .int Mbs, .ref au, .int Mpl, .int Mbg, .int Mlo, .int Mhs, .int Mhf, .ref ah, .int Mhp, .int Mrs, .int Mrf, .ref ar, .int Mto, .int Mtb, .ref aw, .ref ay, .int Mfr, .int Mln, .int Mhb])), (ab, .inl (g.2.2.1, 4096, .inl (upd MB (v).toNatClampNeg x))), (au, .inl (g.2.2.1, 400, .inl MU)), (ah, .inl (g.2.2.1, 4096, .inl MH)), (ar, .inl (g.2.2.1, 4096, .inl MR)), (aw, .inl (g.2.2.1, 100, .inl MW)), (ay, .inl (g.2.2.1, 100, .inl MY))]) C dX6_put__56 1 rfl (zput_in ha hT1 c_2) rfl ?_
      refine z_iload_n C dX6_put__57 rfl 0 rfl ?_
      have he : (f_X6_put_ MB Mal v x) = ((MB (v).toNatClampNeg), (upd MB (v).toNatClampNeg x), 0) := by simp only [f_X6_put_, hT1, if_neg c_2, hT3, if_neg c_4]
      exact hret _ _ _ _ dX6_put__58 (by first | rw [he] | rfl) (by first | rw [he] | rfl)
    · skip
      refine z_iconst (v := 2) C dX6_put__30 (by decide) ?_
      refine z_goto (tgt := 35) C dX6_put__31 (by decide) ?_
      refine z_callVi (n := 1) (isC := [0, 1, 2, 3, 4, 5, 6]) (isR := []) (isP := [0, 1, 2, 3, 4, 5, 6]) (As := [.int 2]) (rest := []) (wr := []) (ws2 := [(M, .inr (5, [.int ((f_X6_refused 2).2), .int Msz, .int Mal, .ref ab, .int Mbs, .ref au, .int Mpl, .int Mbg, .int Mlo, .int Mhs, .int Mhf, .ref ah, .int Mhp, .int Mrs, .int Mrf, .ref ar, .int Mto, .int Mtb, .ref aw, .ref ay, .int Mfr, .int Mln, .int Mhb])), (ab, .inl (g.2.2.1, 4096, .inl MB)), (au, .inl (g.2.2.1, 400, .inl MU)), (ah, .inl (g.2.2.1, 4096, .inl MH)), (ar, .inl (g.2.2.1, 4096, .inl MR)), (aw, .inl (g.2.2.1, 100, .inl MW)), (ay, .inl (g.2.2.1, 100, .inl MY))]) C dX6_put__35 (c_X6_refused (zl X) g M ab au ah ar aw ay MB MU MH MR MW MY Mft Msz Mal Mbs Mpl Mbg Mlo Mhs Mhf Mhp Mrs Mrf Mto Mtb Mfr Mln Mhb 2) gX6_put__X6_refused rfl ⟨rfl, rfl⟩ (by decide +kernel) (by decide) (by decide) rfl rfl rfl rfl (Nat.le_of_ble_eq_true rfl) rfl rfl ⟨rfl, rfl, rfl⟩ (by decide) rfl ?_
      have hT7 : (f_X6_refused 2) = (1, 2) := by decide
      rw [hT7]
      refine z_if_eq (tgt := 43) C dX6_put__38 (by decide) (fun c_8 => absurd c_8 (by decide)) (fun c_8 => ?_)
      refine z_iconst (v := 0) C dX6_put__41 (by decide) ?_
      have he : (f_X6_put_ MB Mal v x) = (0, MB, 2) := by simp only [f_X6_put_, hT1, if_neg c_2, hT3, if_pos c_4]
      exact hret _ _ _ _ dX6_put__42 (by first | rw [he] | rfl) (by first | rw [he] | rfl)
  · skip
    refine z_iconst (v := 1) C dX6_put__15 (by decide) ?_
    refine z_goto (tgt := 35) C dX6_put__16 (by decide) ?_
    refine z_callVi (n := 1) (isC := [0, 1, 2, 3, 4, 5, 6]) (isR := []) (isP := [0, 1, 2, 3, 4, 5, 6]) (As := [.int 1]) (rest := []) (wr := []) (ws2 := [(M, .inr (5, [.int ((f_X6_refused 1).2), .int Msz, .int Mal, .ref ab, .int Mbs, .ref au, .int Mpl, .int Mbg, .int Mlo, .int Mhs, .int Mhf, .ref ah, .int Mhp, .int Mrs, .int Mrf, .ref ar, .int Mto, .int Mtb, .ref aw, .ref ay, .int Mfr, .int Mln, .int Mhb])), (ab, .inl (g.2.2.1, 4096, .inl MB)), (au, .inl (g.2.2.1, 400, .inl MU)), (ah, .inl (g.2.2.1, 4096, .inl MH)), (ar, .inl (g.2.2.1, 4096, .inl MR)), (aw, .inl (g.2.2.1, 100, .inl MW)), (ay, .inl (g.2.2.1, 100, .inl MY))]) C dX6_put__35 (c_X6_refused (zl X) g M ab au ah ar aw ay MB MU MH MR MW MY Mft Msz Mal Mbs Mpl Mbg Mlo Mhs Mhf Mhp Mrs Mrf Mto Mtb Mfr Mln Mhb 1) gX6_put__X6_refused rfl ⟨rfl, rfl⟩ (by decide +kernel) (by decide) (by decide) rfl rfl rfl rfl (Nat.le_of_ble_eq_true rfl) rfl rfl ⟨rfl, rfl, rfl⟩ (by decide) rfl ?_
    have hT9 : (f_X6_refused 1) = (1, 1) := by decide
    rw [hT9]
    refine z_if_eq (tgt := 43) C dX6_put__38 (by decide) (fun c_10 => absurd c_10 (by decide)) (fun c_10 => ?_)
    refine z_iconst (v := 0) C dX6_put__41 (by decide) ?_
    have he : (f_X6_put_ MB Mal v x) = (0, MB, 1) := by simp only [f_X6_put_, hT1, if_pos c_2]
    exact hret _ _ _ _ dX6_put__42 (by first | rw [he] | rfl) (by first | rw [he] | rfl)
def f_X6_cut (Msz : Int32) (Mal : Int32) (Mpl : Int32) (Mbg : Int32) (Mlo : Int32) (Mhs : Int32) (Mhf : Int32) (Mrs : Int32) (Mrf : Int32) (Mto : Int32) (Mtb : Int32) (v : Int32) : Int32 × Int32 × Int32 × Int32 × Int32 × Int32 × Int32 × Int32 × Int32 × Int32 × Int32 × Int32 :=
  if (f_X6_isIn v 0 Mal) = 0 then
    (0, 1, Mal, Mpl, Mbg, Mlo, Mhs, Mhf, Mrs, Mrf, Mto, Mtb)
  else
    match (f_X6_beginAt Msz 0) with
    | (Mplq7, Mbgq7, Mloq7, Mhsq7, Mhfq7, Mrsq7, Mrfq7, Mtoq7, Mtbq7) =>
      ((Mal - v), 0, v, Mplq7, Mbgq7, Mloq7, Mhsq7, Mhfq7, Mrsq7, Mrfq7, Mtoq7, Mtbq7)
set_option maxHeartbeats 4000000 in
set_option maxRecDepth 100000 in
theorem c_X6_cut (l : Launch) (g : zG) (M ab au ah ar aw ay : Nat) (MB : Nat → Int32) (MU : Nat → Int32) (MH : Nat → Int32) (MR : Nat → Int32) (MW : Nat → Int32) (MY : Nat → Int32) (Mft : Int32) (Msz : Int32) (Mal : Int32) (Mbs : Int32) (Mpl : Int32) (Mbg : Int32) (Mlo : Int32) (Mhs : Int32) (Mhf : Int32) (Mhp : Int32) (Mrs : Int32) (Mrf : Int32) (Mto : Int32) (Mtb : Int32) (Mfr : Int32) (Mln : Int32) (Mhb : Int32) (v : Int32) (hz : zsz Msz) : zMI l yX6_cut wsX6_cut ({ frames := 1, cells := 0, slots := 0, locals := 22 }) g [.ref M, .int v] [(M, .inr (5, [.int Mft, .int Msz, .int Mal, .ref ab, .int Mbs, .ref au, .int Mpl, .int Mbg, .int Mlo, .int Mhs, .int Mhf, .ref ah, .int Mhp, .int Mrs, .int Mrf, .ref ar, .int Mto, .int Mtb, .ref aw, .ref ay, .int Mfr, .int Mln, .int Mhb])), (ab, .inl (g.2.2.1, 4096, .inl MB)), (au, .inl (g.2.2.1, 400, .inl MU)), (ah, .inl (g.2.2.1, 4096, .inl MH)), (ar, .inl (g.2.2.1, 4096, .inl MR)), (aw, .inl (g.2.2.1, 100, .inl MW)), (ay, .inl (g.2.2.1, 100, .inl MY))] ((f_X6_cut Msz Mal Mpl Mbg Mlo Mhs Mhf Mrs Mrf Mto Mtb v).1) [(M, .inr (5, [.int ((f_X6_cut Msz Mal Mpl Mbg Mlo Mhs Mhf Mrs Mrf Mto Mtb v).2.1), .int Msz, .int ((f_X6_cut Msz Mal Mpl Mbg Mlo Mhs Mhf Mrs Mrf Mto Mtb v).2.2.1), .ref ab, .int Mbs, .ref au, .int ((f_X6_cut Msz Mal Mpl Mbg Mlo Mhs Mhf Mrs Mrf Mto Mtb v).2.2.2.1), .int ((f_X6_cut Msz Mal Mpl Mbg Mlo Mhs Mhf Mrs Mrf Mto Mtb v).2.2.2.2.1), .int ((f_X6_cut Msz Mal Mpl Mbg Mlo Mhs Mhf Mrs Mrf Mto Mtb v).2.2.2.2.2.1), .int ((f_X6_cut Msz Mal Mpl Mbg Mlo Mhs Mhf Mrs Mrf Mto Mtb v).2.2.2.2.2.2.1), .int ((f_X6_cut Msz Mal Mpl Mbg Mlo Mhs Mhf Mrs Mrf Mto Mtb v).2.2.2.2.2.2.2.1), .ref ah, .int Mhp, .int ((f_X6_cut Msz Mal Mpl Mbg Mlo Mhs Mhf Mrs Mrf Mto Mtb v).2.2.2.2.2.2.2.2.1), .int ((f_X6_cut Msz Mal Mpl Mbg Mlo Mhs Mhf Mrs Mrf Mto Mtb v).2.2.2.2.2.2.2.2.2.1), .ref ar, .int ((f_X6_cut Msz Mal Mpl Mbg Mlo Mhs Mhf Mrs Mrf Mto Mtb v).2.2.2.2.2.2.2.2.2.2.1), .int ((f_X6_cut Msz Mal Mpl Mbg Mlo Mhs Mhf Mrs Mrf Mto Mtb v).2.2.2.2.2.2.2.2.2.2.2), .ref aw, .ref ay, .int Mfr, .int Mln, .int Mhb])), (ab, .inl (g.2.2.1, 4096, .inl MB)), (au, .inl (g.2.2.1, 400, .inl MU)), (ah, .inl (g.2.2.1, 4096, .inl MH)), (ar, .inl (g.2.2.1, 4096, .inl MR)), (aw, .inl (g.2.2.1, 100, .inl MW)), (ay, .inl (g.2.2.1, 100, .inl MY))] := by
  refine zMI_of (cc := cX6_cut) (nL := 3) (ty := .int) (by decide) rfl (Nat.le_of_ble_eq_true rfl) rfl ?_
  intro X C hret
  refine z_lv (lv' := [(0, .ref M), (1, .int v)]) [0, 1] rfl ?_
  refine z_aload_n C dX6_cut_0 rfl 0 rfl ?_
  refine z_iload_n C dX6_cut_1 rfl 1 rfl ?_
  refine z_iconst (v := 0) C dX6_cut_2 (by decide) ?_
  refine z_aload_n C dX6_cut_3 rfl 0 rfl ?_
  refine z_get (ci := 5) (v := .int Mal) (Cn := RX6) (T := TX6) (N := 23) C dX6_cut_4 (fun w h => List.mem_cons_of_mem _ (List.mem_append_right _ h)) 0 rfl rfl 2 (by decide) (List.mem_of_getElem? (i := 1) rfl) rfl rfl ?_
  refine z_callSi (n := 3) (isC := []) (isR := [0, 1, 2, 3, 4, 5, 6]) (isP := [0, 1, 2, 3, 4, 5, 6]) (As := [.int v, .int 0, .int Mal]) (rest := [.ref M]) (wr := [(M, .inr (5, [.int Mft, .int Msz, .int Mal, .ref ab, .int Mbs, .ref au, .int Mpl, .int Mbg, .int Mlo, .int Mhs, .int Mhf, .ref ah, .int Mhp, .int Mrs, .int Mrf, .ref ar, .int Mto, .int Mtb, .ref aw, .ref ay, .int Mfr, .int Mln, .int Mhb])), (ab, .inl (g.2.2.1, 4096, .inl MB)), (au, .inl (g.2.2.1, 400, .inl MU)), (ah, .inl (g.2.2.1, 4096, .inl MH)), (ar, .inl (g.2.2.1, 4096, .inl MR)), (aw, .inl (g.2.2.1, 100, .inl MW)), (ay, .inl (g.2.2.1, 100, .inl MY))]) (ws2 := [(M, .inr (5, [.int Mft, .int Msz, .int Mal, .ref ab, .int Mbs, .ref au, .int Mpl, .int Mbg, .int Mlo, .int Mhs, .int Mhf, .ref ah, .int Mhp, .int Mrs, .int Mrf, .ref ar, .int Mto, .int Mtb, .ref aw, .ref ay, .int Mfr, .int Mln, .int Mhb])), (ab, .inl (g.2.2.1, 4096, .inl MB)), (au, .inl (g.2.2.1, 400, .inl MU)), (ah, .inl (g.2.2.1, 4096, .inl MH)), (ar, .inl (g.2.2.1, 4096, .inl MR)), (aw, .inl (g.2.2.1, 100, .inl MW)), (ay, .inl (g.2.2.1, 100, .inl MY))]) C dX6_cut_7 (c_X6_isIn (zl X) g v 0 Mal) gX6_cut_X6_isIn rfl ⟨rfl, rfl⟩ (by decide +kernel) (by decide) (by decide) rfl rfl (Nat.le_of_ble_eq_true rfl) rfl rfl ⟨rfl, rfl, rfl⟩ (by decide) rfl ?_
  generalize hT1 : (f_X6_isIn v 0 Mal) = rq1
  refine z_if_eq (tgt := 17) C dX6_cut_10 (by decide) (fun c_2 => ?_) (fun c_2 => ?_)
  · skip
    refine z_iconst (v := 1) C dX6_cut_17 (by decide) ?_
    refine z_callVi (n := 1) (isC := [0, 1, 2, 3, 4, 5, 6]) (isR := []) (isP := [0, 1, 2, 3, 4, 5, 6]) (As := [.int 1]) (rest := []) (wr := []) (ws2 := [(M, .inr (5, [.int ((f_X6_refused 1).2), .int Msz, .int Mal, .ref ab, .int Mbs, .ref au, .int Mpl, .int Mbg, .int Mlo, .int Mhs, .int Mhf, .ref ah, .int Mhp, .int Mrs, .int Mrf, .ref ar, .int Mto, .int Mtb, .ref aw, .ref ay, .int Mfr, .int Mln, .int Mhb])), (ab, .inl (g.2.2.1, 4096, .inl MB)), (au, .inl (g.2.2.1, 400, .inl MU)), (ah, .inl (g.2.2.1, 4096, .inl MH)), (ar, .inl (g.2.2.1, 4096, .inl MR)), (aw, .inl (g.2.2.1, 100, .inl MW)), (ay, .inl (g.2.2.1, 100, .inl MY))]) C dX6_cut_18 (c_X6_refused (zl X) g M ab au ah ar aw ay MB MU MH MR MW MY Mft Msz Mal Mbs Mpl Mbg Mlo Mhs Mhf Mhp Mrs Mrf Mto Mtb Mfr Mln Mhb 1) gX6_cut_X6_refused rfl ⟨rfl, rfl⟩ (by decide +kernel) (by decide) (by decide) rfl rfl rfl rfl (Nat.le_of_ble_eq_true rfl) rfl rfl ⟨rfl, rfl, rfl⟩ (by decide) rfl ?_
    have hT3 : (f_X6_refused 1) = (1, 1) := by decide
    rw [hT3]
    refine z_if_eq (tgt := 26) C dX6_cut_21 (by decide) (fun c_4 => absurd c_4 (by decide)) (fun c_4 => ?_)
    refine z_iconst (v := 0) C dX6_cut_24 (by decide) ?_
    have he : (f_X6_cut Msz Mal Mpl Mbg Mlo Mhs Mhf Mrs Mrf Mto Mtb v) = (0, 1, Mal, Mpl, Mbg, Mlo, Mhs, Mhf, Mrs, Mrf, Mto, Mtb) := by simp only [f_X6_cut, hT1, if_pos c_2]
    exact hret _ _ _ _ dX6_cut_25 (by first | rw [he] | rfl) (by first | rw [he] | rfl)
  · skip
    refine z_iconst (v := 0) C dX6_cut_13 (by decide) ?_
    refine z_goto (tgt := 18) C dX6_cut_14 (by decide) ?_
    refine z_callVi (n := 1) (isC := [0, 1, 2, 3, 4, 5, 6]) (isR := []) (isP := [0, 1, 2, 3, 4, 5, 6]) (As := [.int 0]) (rest := []) (wr := []) (ws2 := [(M, .inr (5, [.int ((f_X6_refused 0).2), .int Msz, .int Mal, .ref ab, .int Mbs, .ref au, .int Mpl, .int Mbg, .int Mlo, .int Mhs, .int Mhf, .ref ah, .int Mhp, .int Mrs, .int Mrf, .ref ar, .int Mto, .int Mtb, .ref aw, .ref ay, .int Mfr, .int Mln, .int Mhb])), (ab, .inl (g.2.2.1, 4096, .inl MB)), (au, .inl (g.2.2.1, 400, .inl MU)), (ah, .inl (g.2.2.1, 4096, .inl MH)), (ar, .inl (g.2.2.1, 4096, .inl MR)), (aw, .inl (g.2.2.1, 100, .inl MW)), (ay, .inl (g.2.2.1, 100, .inl MY))]) C dX6_cut_18 (c_X6_refused (zl X) g M ab au ah ar aw ay MB MU MH MR MW MY Mft Msz Mal Mbs Mpl Mbg Mlo Mhs Mhf Mhp Mrs Mrf Mto Mtb Mfr Mln Mhb 0) gX6_cut_X6_refused rfl ⟨rfl, rfl⟩ (by decide +kernel) (by decide) (by decide) rfl rfl rfl rfl (Nat.le_of_ble_eq_true rfl) rfl rfl ⟨rfl, rfl, rfl⟩ (by decide) rfl ?_
    have hT5 : (f_X6_refused 0) = (0, 0) := by decide
    rw [hT5]
    refine z_if_eq (tgt := 26) C dX6_cut_21 (by decide) (fun c_6 => ?_) (fun c_6 => absurd (by decide) c_6)
    refine z_aload_n C dX6_cut_26 rfl 0 rfl ?_
    refine z_get (ci := 5) (v := .int Mal) (Cn := RX6) (T := TX6) (N := 23) C dX6_cut_27 (fun w h => List.mem_cons_of_mem _ (List.mem_append_right _ h)) 0 rfl rfl 2 (by decide) (List.mem_of_getElem? (i := 1) rfl) rfl rfl ?_
    refine z_iload_n C dX6_cut_30 rfl 1 rfl ?_
    refine z_isub C dX6_cut_31 ?_
    refine z_istore_n (lv' := [(2, .int (Mal - v)), (0, .ref M), (1, .int v)]) C dX6_cut_32 rfl (by decide) rfl ?_
    refine z_aload_n C dX6_cut_33 rfl 1 rfl ?_
    refine z_iload_n C dX6_cut_34 rfl 2 rfl ?_
    refine z_put (ci := 5) (v := .int v) (ty := .int) (Cn := RX6) (T := TX6) (N := 23) (ws' := [(M, .inr (5, [.int 0, .int Msz, .int v, .ref ab, .int Mbs, .ref au, .int Mpl, .int Mbg, .int Mlo, .int Mhs, .int Mhf, .ref ah, .int Mhp, .int Mrs, .int Mrf, .ref ar, .int Mto, .int Mtb, .ref aw, .ref ay, .int Mfr, .int Mln, .int Mhb])), (ab, .inl (g.2.2.1, 4096, .inl MB)), (au, .inl (g.2.2.1, 400, .inl MU)), (ah, .inl (g.2.2.1, 4096, .inl MH)), (ar, .inl (g.2.2.1, 4096, .inl MR)), (aw, .inl (g.2.2.1, 100, .inl MW)), (ay, .inl (g.2.2.1, 100, .inl MY))]) C dX6_cut_35 (fun w h => List.mem_cons_of_mem _ (List.mem_append_right _ h)) tyX6 tyX6_ok nmX6 0 rfl rfl 2 (by decide) (List.mem_of_getElem? (i := 1) rfl) rfl rfl (by decide +kernel) rfl rfl (Nat.le_of_ble_eq_true rfl) rfl ?_
    refine z_aload_n C dX6_cut_38 rfl 1 rfl ?_
    refine z_iconst (v := 0) C dX6_cut_39 (by decide) ?_
    refine z_callVv (n := 1) (isC := [0, 1, 2, 3, 4, 5, 6]) (isR := []) (isP := [0, 1, 2, 3, 4, 5, 6]) (As := [.int 0]) (rest := []) (wr := []) (ws2 := [(M, .inr (5, [.int 0, .int Msz, .int v, .ref ab, .int Mbs, .ref au, .int ((f_X6_beginAt Msz 0).1), .int ((f_X6_beginAt Msz 0).2.1), .int ((f_X6_beginAt Msz 0).2.2.1), .int ((f_X6_beginAt Msz 0).2.2.2.1), .int ((f_X6_beginAt Msz 0).2.2.2.2.1), .ref ah, .int Mhp, .int ((f_X6_beginAt Msz 0).2.2.2.2.2.1), .int ((f_X6_beginAt Msz 0).2.2.2.2.2.2.1), .ref ar, .int ((f_X6_beginAt Msz 0).2.2.2.2.2.2.2.1), .int ((f_X6_beginAt Msz 0).2.2.2.2.2.2.2.2), .ref aw, .ref ay, .int Mfr, .int Mln, .int Mhb])), (ab, .inl (g.2.2.1, 4096, .inl MB)), (au, .inl (g.2.2.1, 400, .inl MU)), (ah, .inl (g.2.2.1, 4096, .inl MH)), (ar, .inl (g.2.2.1, 4096, .inl MR)), (aw, .inl (g.2.2.1, 100, .inl MW)), (ay, .inl (g.2.2.1, 100, .inl MY))]) C dX6_cut_40 (c_X6_beginAt (zl X) g M ab au ah ar aw ay MB MU MH MR MW MY 0 Msz v Mbs Mpl Mbg Mlo Mhs Mhf Mhp Mrs Mrf Mto Mtb Mfr Mln Mhb 0 hz) gX6_cut_X6_beginAt rfl ⟨rfl, rfl⟩ (by decide +kernel) (by decide) (by decide) rfl rfl rfl rfl (Nat.le_of_ble_eq_true rfl) rfl rfl ⟨rfl, rfl, rfl⟩ (by decide) rfl ?_
    generalize hT7 : (f_X6_beginAt Msz 0) = T7
    obtain ⟨Mplq7, Mbgq7, Mloq7, Mhsq7, Mhfq7, Mrsq7, Mrfq7, Mtoq7, Mtbq7⟩ := T7
    refine z_iload_n C dX6_cut_43 rfl 0 rfl ?_
    have he : (f_X6_cut Msz Mal Mpl Mbg Mlo Mhs Mhf Mrs Mrf Mto Mtb v) = ((Mal - v), 0, v, Mplq7, Mbgq7, Mloq7, Mhsq7, Mhfq7, Mrsq7, Mrfq7, Mtoq7, Mtbq7) := by simp only [f_X6_cut, hT1, if_neg c_2, hT7]
    exact hret _ _ _ _ dX6_cut_44 (by first | rw [he] | rfl) (by first | rw [he] | rfl)
def f_X6_begin (Msz : Int32) (Mpl : Int32) (Mbg : Int32) (Mlo : Int32) (Mhs : Int32) (Mhf : Int32) (Mrs : Int32) (Mrf : Int32) (Mto : Int32) (Mtb : Int32) (v : Int32) : Int32 × Int32 × Int32 × Int32 × Int32 × Int32 × Int32 × Int32 × Int32 × Int32 × Int32 :=
  if (f_X6_isIn v 0 4096) = 0 then
    (0, 1, Mpl, Mbg, Mlo, Mhs, Mhf, Mrs, Mrf, Mto, Mtb)
  else
    match (f_X6_beginAt Msz v) with
    | (Mplq7, Mbgq7, Mloq7, Mhsq7, Mhfq7, Mrsq7, Mrfq7, Mtoq7, Mtbq7) =>
      (Mplq7, 0, Mplq7, Mbgq7, Mloq7, Mhsq7, Mhfq7, Mrsq7, Mrfq7, Mtoq7, Mtbq7)
set_option maxHeartbeats 4000000 in
set_option maxRecDepth 100000 in
theorem c_X6_begin (l : Launch) (g : zG) (M ab au ah ar aw ay : Nat) (MB : Nat → Int32) (MU : Nat → Int32) (MH : Nat → Int32) (MR : Nat → Int32) (MW : Nat → Int32) (MY : Nat → Int32) (Mft : Int32) (Msz : Int32) (Mal : Int32) (Mbs : Int32) (Mpl : Int32) (Mbg : Int32) (Mlo : Int32) (Mhs : Int32) (Mhf : Int32) (Mhp : Int32) (Mrs : Int32) (Mrf : Int32) (Mto : Int32) (Mtb : Int32) (Mfr : Int32) (Mln : Int32) (Mhb : Int32) (v : Int32) (hz : zsz Msz) : zMI l yX6_begin wsX6_begin ({ frames := 1, cells := 0, slots := 0, locals := 22 }) g [.ref M, .int v] [(M, .inr (5, [.int Mft, .int Msz, .int Mal, .ref ab, .int Mbs, .ref au, .int Mpl, .int Mbg, .int Mlo, .int Mhs, .int Mhf, .ref ah, .int Mhp, .int Mrs, .int Mrf, .ref ar, .int Mto, .int Mtb, .ref aw, .ref ay, .int Mfr, .int Mln, .int Mhb])), (ab, .inl (g.2.2.1, 4096, .inl MB)), (au, .inl (g.2.2.1, 400, .inl MU)), (ah, .inl (g.2.2.1, 4096, .inl MH)), (ar, .inl (g.2.2.1, 4096, .inl MR)), (aw, .inl (g.2.2.1, 100, .inl MW)), (ay, .inl (g.2.2.1, 100, .inl MY))] ((f_X6_begin Msz Mpl Mbg Mlo Mhs Mhf Mrs Mrf Mto Mtb v).1) [(M, .inr (5, [.int ((f_X6_begin Msz Mpl Mbg Mlo Mhs Mhf Mrs Mrf Mto Mtb v).2.1), .int Msz, .int Mal, .ref ab, .int Mbs, .ref au, .int ((f_X6_begin Msz Mpl Mbg Mlo Mhs Mhf Mrs Mrf Mto Mtb v).2.2.1), .int ((f_X6_begin Msz Mpl Mbg Mlo Mhs Mhf Mrs Mrf Mto Mtb v).2.2.2.1), .int ((f_X6_begin Msz Mpl Mbg Mlo Mhs Mhf Mrs Mrf Mto Mtb v).2.2.2.2.1), .int ((f_X6_begin Msz Mpl Mbg Mlo Mhs Mhf Mrs Mrf Mto Mtb v).2.2.2.2.2.1), .int ((f_X6_begin Msz Mpl Mbg Mlo Mhs Mhf Mrs Mrf Mto Mtb v).2.2.2.2.2.2.1), .ref ah, .int Mhp, .int ((f_X6_begin Msz Mpl Mbg Mlo Mhs Mhf Mrs Mrf Mto Mtb v).2.2.2.2.2.2.2.1), .int ((f_X6_begin Msz Mpl Mbg Mlo Mhs Mhf Mrs Mrf Mto Mtb v).2.2.2.2.2.2.2.2.1), .ref ar, .int ((f_X6_begin Msz Mpl Mbg Mlo Mhs Mhf Mrs Mrf Mto Mtb v).2.2.2.2.2.2.2.2.2.1), .int ((f_X6_begin Msz Mpl Mbg Mlo Mhs Mhf Mrs Mrf Mto Mtb v).2.2.2.2.2.2.2.2.2.2), .ref aw, .ref ay, .int Mfr, .int Mln, .int Mhb])), (ab, .inl (g.2.2.1, 4096, .inl MB)), (au, .inl (g.2.2.1, 400, .inl MU)), (ah, .inl (g.2.2.1, 4096, .inl MH)), (ar, .inl (g.2.2.1, 4096, .inl MR)), (aw, .inl (g.2.2.1, 100, .inl MW)), (ay, .inl (g.2.2.1, 100, .inl MY))] := by
  refine zMI_of (cc := cX6_begin) (nL := 2) (ty := .int) (by decide) rfl (Nat.le_of_ble_eq_true rfl) rfl ?_
  intro X C hret
  refine z_lv (lv' := [(0, .ref M), (1, .int v)]) [0, 1] rfl ?_
  refine z_aload_n C dX6_begin_0 rfl 0 rfl ?_
  refine z_iload_n C dX6_begin_1 rfl 1 rfl ?_
  refine z_iconst (v := 0) C dX6_begin_2 (by decide) ?_
  refine z_sipush (v := 4096) C dX6_begin_3 (by decide) ?_
  refine z_callSi (n := 3) (isC := []) (isR := [0, 1, 2, 3, 4, 5, 6]) (isP := [0, 1, 2, 3, 4, 5, 6]) (As := [.int v, .int 0, .int 4096]) (rest := [.ref M]) (wr := [(M, .inr (5, [.int Mft, .int Msz, .int Mal, .ref ab, .int Mbs, .ref au, .int Mpl, .int Mbg, .int Mlo, .int Mhs, .int Mhf, .ref ah, .int Mhp, .int Mrs, .int Mrf, .ref ar, .int Mto, .int Mtb, .ref aw, .ref ay, .int Mfr, .int Mln, .int Mhb])), (ab, .inl (g.2.2.1, 4096, .inl MB)), (au, .inl (g.2.2.1, 400, .inl MU)), (ah, .inl (g.2.2.1, 4096, .inl MH)), (ar, .inl (g.2.2.1, 4096, .inl MR)), (aw, .inl (g.2.2.1, 100, .inl MW)), (ay, .inl (g.2.2.1, 100, .inl MY))]) (ws2 := [(M, .inr (5, [.int Mft, .int Msz, .int Mal, .ref ab, .int Mbs, .ref au, .int Mpl, .int Mbg, .int Mlo, .int Mhs, .int Mhf, .ref ah, .int Mhp, .int Mrs, .int Mrf, .ref ar, .int Mto, .int Mtb, .ref aw, .ref ay, .int Mfr, .int Mln, .int Mhb])), (ab, .inl (g.2.2.1, 4096, .inl MB)), (au, .inl (g.2.2.1, 400, .inl MU)), (ah, .inl (g.2.2.1, 4096, .inl MH)), (ar, .inl (g.2.2.1, 4096, .inl MR)), (aw, .inl (g.2.2.1, 100, .inl MW)), (ay, .inl (g.2.2.1, 100, .inl MY))]) C dX6_begin_6 (c_X6_isIn (zl X) g v 0 4096) gX6_begin_X6_isIn rfl ⟨rfl, rfl⟩ (by decide +kernel) (by decide) (by decide) rfl rfl (Nat.le_of_ble_eq_true rfl) rfl rfl ⟨rfl, rfl, rfl⟩ (by decide) rfl ?_
  generalize hT1 : (f_X6_isIn v 0 4096) = rq1
  refine z_if_eq (tgt := 16) C dX6_begin_9 (by decide) (fun c_2 => ?_) (fun c_2 => ?_)
  · skip
    refine z_iconst (v := 1) C dX6_begin_16 (by decide) ?_
    refine z_callVi (n := 1) (isC := [0, 1, 2, 3, 4, 5, 6]) (isR := []) (isP := [0, 1, 2, 3, 4, 5, 6]) (As := [.int 1]) (rest := []) (wr := []) (ws2 := [(M, .inr (5, [.int ((f_X6_refused 1).2), .int Msz, .int Mal, .ref ab, .int Mbs, .ref au, .int Mpl, .int Mbg, .int Mlo, .int Mhs, .int Mhf, .ref ah, .int Mhp, .int Mrs, .int Mrf, .ref ar, .int Mto, .int Mtb, .ref aw, .ref ay, .int Mfr, .int Mln, .int Mhb])), (ab, .inl (g.2.2.1, 4096, .inl MB)), (au, .inl (g.2.2.1, 400, .inl MU)), (ah, .inl (g.2.2.1, 4096, .inl MH)), (ar, .inl (g.2.2.1, 4096, .inl MR)), (aw, .inl (g.2.2.1, 100, .inl MW)), (ay, .inl (g.2.2.1, 100, .inl MY))]) C dX6_begin_17 (c_X6_refused (zl X) g M ab au ah ar aw ay MB MU MH MR MW MY Mft Msz Mal Mbs Mpl Mbg Mlo Mhs Mhf Mhp Mrs Mrf Mto Mtb Mfr Mln Mhb 1) gX6_begin_X6_refused rfl ⟨rfl, rfl⟩ (by decide +kernel) (by decide) (by decide) rfl rfl rfl rfl (Nat.le_of_ble_eq_true rfl) rfl rfl ⟨rfl, rfl, rfl⟩ (by decide) rfl ?_
    have hT3 : (f_X6_refused 1) = (1, 1) := by decide
    rw [hT3]
    refine z_if_eq (tgt := 25) C dX6_begin_20 (by decide) (fun c_4 => absurd c_4 (by decide)) (fun c_4 => ?_)
    refine z_iconst (v := 0) C dX6_begin_23 (by decide) ?_
    have he : (f_X6_begin Msz Mpl Mbg Mlo Mhs Mhf Mrs Mrf Mto Mtb v) = (0, 1, Mpl, Mbg, Mlo, Mhs, Mhf, Mrs, Mrf, Mto, Mtb) := by simp only [f_X6_begin, hT1, if_pos c_2]
    exact hret _ _ _ _ dX6_begin_24 (by first | rw [he] | rfl) (by first | rw [he] | rfl)
  · skip
    refine z_iconst (v := 0) C dX6_begin_12 (by decide) ?_
    refine z_goto (tgt := 17) C dX6_begin_13 (by decide) ?_
    refine z_callVi (n := 1) (isC := [0, 1, 2, 3, 4, 5, 6]) (isR := []) (isP := [0, 1, 2, 3, 4, 5, 6]) (As := [.int 0]) (rest := []) (wr := []) (ws2 := [(M, .inr (5, [.int ((f_X6_refused 0).2), .int Msz, .int Mal, .ref ab, .int Mbs, .ref au, .int Mpl, .int Mbg, .int Mlo, .int Mhs, .int Mhf, .ref ah, .int Mhp, .int Mrs, .int Mrf, .ref ar, .int Mto, .int Mtb, .ref aw, .ref ay, .int Mfr, .int Mln, .int Mhb])), (ab, .inl (g.2.2.1, 4096, .inl MB)), (au, .inl (g.2.2.1, 400, .inl MU)), (ah, .inl (g.2.2.1, 4096, .inl MH)), (ar, .inl (g.2.2.1, 4096, .inl MR)), (aw, .inl (g.2.2.1, 100, .inl MW)), (ay, .inl (g.2.2.1, 100, .inl MY))]) C dX6_begin_17 (c_X6_refused (zl X) g M ab au ah ar aw ay MB MU MH MR MW MY Mft Msz Mal Mbs Mpl Mbg Mlo Mhs Mhf Mhp Mrs Mrf Mto Mtb Mfr Mln Mhb 0) gX6_begin_X6_refused rfl ⟨rfl, rfl⟩ (by decide +kernel) (by decide) (by decide) rfl rfl rfl rfl (Nat.le_of_ble_eq_true rfl) rfl rfl ⟨rfl, rfl, rfl⟩ (by decide) rfl ?_
    have hT5 : (f_X6_refused 0) = (0, 0) := by decide
    rw [hT5]
    refine z_if_eq (tgt := 25) C dX6_begin_20 (by decide) (fun c_6 => ?_) (fun c_6 => absurd (by decide) c_6)
    refine z_aload_n C dX6_begin_25 rfl 0 rfl ?_
    refine z_iload_n C dX6_begin_26 rfl 1 rfl ?_
    refine z_callVv (n := 1) (isC := [0, 1, 2, 3, 4, 5, 6]) (isR := []) (isP := [0, 1, 2, 3, 4, 5, 6]) (As := [.int v]) (rest := []) (wr := []) (ws2 := [(M, .inr (5, [.int 0, .int Msz, .int Mal, .ref ab, .int Mbs, .ref au, .int ((f_X6_beginAt Msz v).1), .int ((f_X6_beginAt Msz v).2.1), .int ((f_X6_beginAt Msz v).2.2.1), .int ((f_X6_beginAt Msz v).2.2.2.1), .int ((f_X6_beginAt Msz v).2.2.2.2.1), .ref ah, .int Mhp, .int ((f_X6_beginAt Msz v).2.2.2.2.2.1), .int ((f_X6_beginAt Msz v).2.2.2.2.2.2.1), .ref ar, .int ((f_X6_beginAt Msz v).2.2.2.2.2.2.2.1), .int ((f_X6_beginAt Msz v).2.2.2.2.2.2.2.2), .ref aw, .ref ay, .int Mfr, .int Mln, .int Mhb])), (ab, .inl (g.2.2.1, 4096, .inl MB)), (au, .inl (g.2.2.1, 400, .inl MU)), (ah, .inl (g.2.2.1, 4096, .inl MH)), (ar, .inl (g.2.2.1, 4096, .inl MR)), (aw, .inl (g.2.2.1, 100, .inl MW)), (ay, .inl (g.2.2.1, 100, .inl MY))]) C dX6_begin_27 (c_X6_beginAt (zl X) g M ab au ah ar aw ay MB MU MH MR MW MY 0 Msz Mal Mbs Mpl Mbg Mlo Mhs Mhf Mhp Mrs Mrf Mto Mtb Mfr Mln Mhb v hz) gX6_begin_X6_beginAt rfl ⟨rfl, rfl⟩ (by decide +kernel) (by decide) (by decide) rfl rfl rfl rfl (Nat.le_of_ble_eq_true rfl) rfl rfl ⟨rfl, rfl, rfl⟩ (by decide) rfl ?_
    generalize hT7 : (f_X6_beginAt Msz v) = T7
    obtain ⟨Mplq7, Mbgq7, Mloq7, Mhsq7, Mhfq7, Mrsq7, Mrfq7, Mtoq7, Mtbq7⟩ := T7
    refine z_aload_n C dX6_begin_30 rfl 0 rfl ?_
    refine z_get (ci := 5) (v := .int Mplq7) (Cn := RX6) (T := TX6) (N := 23) C dX6_begin_31 (fun w h => List.mem_cons_of_mem _ (List.mem_append_right _ h)) 0 rfl rfl 6 (by decide) (List.mem_of_getElem? (i := 1) rfl) rfl rfl ?_
    have he : (f_X6_begin Msz Mpl Mbg Mlo Mhs Mhf Mrs Mrf Mto Mtb v) = (Mplq7, 0, Mplq7, Mbgq7, Mloq7, Mhsq7, Mhfq7, Mrsq7, Mrfq7, Mtoq7, Mtbq7) := by simp only [f_X6_begin, hT1, if_neg c_2, hT7]
    exact hret _ _ _ _ dX6_begin_34 (by first | rw [he] | rfl) (by first | rw [he] | rfl)
