def f_X6_tell (MW : Nat → Int32) (MY : Nat → Int32) (Mto : Int32) (Mtb : Int32) (x : Int32) (v : Int32) : (Nat → Int32) × (Nat → Int32) × Int32 × Int32 :=
  if 100 ≤ Mto then
    (MW, MY, (Mto + 1), (Mtb + v))
  else
    ((upd MW (Mto).toNatClampNeg x), (upd MY (Mto).toNatClampNeg v), (Mto + 1), (Mtb + v))
theorem zdok_X6_tell {k : Nat} {MW MY W1 Y1 : Nat → Int32} {a b x v d1 a1 : Int32} (h : zdok (k + 1) a) (e : f_X6_tell MW MY a b x v = (W1, Y1, d1, a1)) : zdok k d1 := by
  unfold f_X6_tell at e
  split at e <;> (cases e; exact zdok_inc h)
set_option maxHeartbeats 4000000 in
set_option maxRecDepth 100000 in
theorem c_X6_tell (l : Launch) (g : zG) (M ab au ah ar aw ay : Nat) (MB : Nat → Int32) (MU : Nat → Int32) (MH : Nat → Int32) (MR : Nat → Int32) (MW : Nat → Int32) (MY : Nat → Int32) (Mft : Int32) (Msz : Int32) (Mal : Int32) (Mbs : Int32) (Mpl : Int32) (Mbg : Int32) (Mlo : Int32) (Mhs : Int32) (Mhf : Int32) (Mhp : Int32) (Mrs : Int32) (Mrf : Int32) (Mto : Int32) (Mtb : Int32) (Mfr : Int32) (Mln : Int32) (Mhb : Int32) (x : Int32) (v : Int32) (ht : zdok 1 Mto) : zMV l yX6_tell wsX6_tell ({ frames := 0, cells := 0, slots := 0, locals := 0 }) g [.ref M, .int x, .int v] [(M, .inr (5, [.int Mft, .int Msz, .int Mal, .ref ab, .int Mbs, .ref au, .int Mpl, .int Mbg, .int Mlo, .int Mhs, .int Mhf, .ref ah, .int Mhp, .int Mrs, .int Mrf, .ref ar, .int Mto, .int Mtb, .ref aw, .ref ay, .int Mfr, .int Mln, .int Mhb])), (ab, .inl (g.2.2.1, 4096, .inl MB)), (au, .inl (g.2.2.1, 400, .inl MU)), (ah, .inl (g.2.2.1, 4096, .inl MH)), (ar, .inl (g.2.2.1, 4096, .inl MR)), (aw, .inl (g.2.2.1, 100, .inl MW)), (ay, .inl (g.2.2.1, 100, .inl MY))] [(M, .inr (5, [.int Mft, .int Msz, .int Mal, .ref ab, .int Mbs, .ref au, .int Mpl, .int Mbg, .int Mlo, .int Mhs, .int Mhf, .ref ah, .int Mhp, .int Mrs, .int Mrf, .ref ar, .int ((f_X6_tell MW MY Mto Mtb x v).2.2.1), .int ((f_X6_tell MW MY Mto Mtb x v).2.2.2), .ref aw, .ref ay, .int Mfr, .int Mln, .int Mhb])), (ab, .inl (g.2.2.1, 4096, .inl MB)), (au, .inl (g.2.2.1, 400, .inl MU)), (ah, .inl (g.2.2.1, 4096, .inl MH)), (ar, .inl (g.2.2.1, 4096, .inl MR)), (aw, .inl (g.2.2.1, 100, .inl ((f_X6_tell MW MY Mto Mtb x v).1))), (ay, .inl (g.2.2.1, 100, .inl ((f_X6_tell MW MY Mto Mtb x v).2.1)))] := by
  refine zMV_of (cc := cX6_tell) (nL := 3) (by decide) rfl (Nat.le_of_ble_eq_true rfl) ?_
  intro X C hret
  refine z_lv (lv' := [(0, .ref M), (1, .int x), (2, .int v)]) [0, 1, 2] rfl ?_
  refine z_aload_n C dX6_tell_0 rfl 0 rfl ?_
  refine z_get (ci := 5) (v := .int Mto) (Cn := RX6) (T := TX6) (N := 23) C dX6_tell_1 (fun w h => List.mem_cons_of_mem _ (List.mem_append_right _ h)) 0 rfl rfl 16 (by decide) (List.mem_of_getElem? (i := 1) rfl) rfl rfl ?_
  refine z_bipush (v := 100) C dX6_tell_4 (by decide) ?_
  refine z_icmp_ge (tgt := 29) C dX6_tell_6 (by decide) (fun c_1 => ?_) (fun c_1 => ?_)
  · skip
    refine z_aload_n C dX6_tell_29 rfl 0 rfl ?_
    refine z_dup C dX6_tell_30 rfl ?_
    refine z_get (ci := 5) (v := .int Mto) (Cn := RX6) (T := TX6) (N := 23) C dX6_tell_31 (fun w h => List.mem_cons_of_mem _ (List.mem_append_right _ h)) 0 rfl rfl 16 (by decide) (List.mem_of_getElem? (i := 1) rfl) rfl rfl ?_
    refine z_iconst (v := 1) C dX6_tell_34 (by decide) ?_
    refine z_iadd C dX6_tell_35 ?_
    refine z_put (ci := 5) (v := .int (Mto + 1)) (ty := .int) (Cn := RX6) (T := TX6) (N := 23) (ws' := [(M, .inr (5, [.int Mft, .int Msz, .int Mal, .ref ab, .int Mbs, .ref au, .int Mpl, .int Mbg, .int Mlo, .int Mhs, .int Mhf, .ref ah, .int Mhp, .int Mrs, .int Mrf, .ref ar, .int (Mto + 1), .int Mtb, .ref aw, .ref ay, .int Mfr, .int Mln, .int Mhb])), (ab, .inl (g.2.2.1, 4096, .inl MB)), (au, .inl (g.2.2.1, 400, .inl MU)), (ah, .inl (g.2.2.1, 4096, .inl MH)), (ar, .inl (g.2.2.1, 4096, .inl MR)), (aw, .inl (g.2.2.1, 100, .inl MW)), (ay, .inl (g.2.2.1, 100, .inl MY))]) C dX6_tell_36 (fun w h => List.mem_cons_of_mem _ (List.mem_append_right _ h)) tyX6 tyX6_ok nmX6 0 rfl rfl 16 (by decide) (List.mem_of_getElem? (i := 1) rfl) rfl rfl (by decide +kernel) rfl rfl (Nat.le_of_ble_eq_true rfl) rfl ?_
    refine z_aload_n C dX6_tell_39 rfl 0 rfl ?_
    refine z_aload_n C dX6_tell_40 rfl 0 rfl ?_
    refine z_get (ci := 5) (v := .int Mtb) (Cn := RX6) (T := TX6) (N := 23) C dX6_tell_41 (fun w h => List.mem_cons_of_mem _ (List.mem_append_right _ h)) 0 rfl rfl 17 (by decide) (List.mem_of_getElem? (i := 4) rfl) rfl rfl ?_
    refine z_iload_n C dX6_tell_44 rfl 2 rfl ?_
    refine z_iadd C dX6_tell_45 ?_
    refine z_put (ci := 5) (v := .int (Mtb + v)) (ty := .int) (Cn := RX6) (T := TX6) (N := 23) (ws' := [(M, .inr (5, [.int Mft, .int Msz, .int Mal, .ref ab, .int Mbs, .ref au, .int Mpl, .int Mbg, .int Mlo, .int Mhs, .int Mhf, .ref ah, .int Mhp, .int Mrs, .int Mrf, .ref ar, .int (Mto + 1), .int (Mtb + v), .ref aw, .ref ay, .int Mfr, .int Mln, .int Mhb])), (ab, .inl (g.2.2.1, 4096, .inl MB)), (au, .inl (g.2.2.1, 400, .inl MU)), (ah, .inl (g.2.2.1, 4096, .inl MH)), (ar, .inl (g.2.2.1, 4096, .inl MR)), (aw, .inl (g.2.2.1, 100, .inl MW)), (ay, .inl (g.2.2.1, 100, .inl MY))]) C dX6_tell_46 (fun w h => List.mem_cons_of_mem _ (List.mem_append_right _ h)) tyX6 tyX6_ok nmX6 0 rfl rfl 17 (by decide) (List.mem_of_getElem? (i := 4) rfl) rfl rfl (by decide +kernel) rfl rfl (Nat.le_of_ble_eq_true rfl) rfl ?_
    have he : (f_X6_tell MW MY Mto Mtb x v) = (MW, MY, (Mto + 1), (Mtb + v)) := by simp only [f_X6_tell, if_pos c_1]
    exact hret _ _ _ dX6_tell_49 (by first | rw [he] | rfl)
  · skip
    refine z_aload_n C dX6_tell_9 rfl 0 rfl ?_
    refine z_get (ci := 5) (v := .ref aw) (Cn := RX6) (T := TX6) (N := 23) C dX6_tell_10 (fun w h => List.mem_cons_of_mem _ (List.mem_append_right _ h)) 0 rfl rfl 18 (by decide) (List.mem_of_getElem? (i := 2) rfl) rfl rfl ?_
    refine z_aload_n C dX6_tell_13 rfl 0 rfl ?_
    refine z_get (ci := 5) (v := .int Mto) (Cn := RX6) (T := TX6) (N := 23) C dX6_tell_14 (fun w h => List.mem_cons_of_mem _ (List.mem_append_right _ h)) 0 rfl rfl 16 (by decide) (List.mem_of_getElem? (i := 1) rfl) rfl rfl ?_
    refine z_iload_n C dX6_tell_17 rfl 1 rfl ?_
    refine z_iast (ws' := [(M, .inr (5, [.int Mft, .int Msz, .int Mal, .ref ab, .int Mbs, .ref au, .int Mpl, .int Mbg, .int Mlo, .int Mhs, .int Mhf, .ref ah, .int Mhp, .int Mrs, .int Mrf, .ref ar, .int Mto, .int Mtb, .ref aw, .ref ay, .int Mfr, .int Mln, .int Mhb])), (ab, .inl (g.2.2.1, 4096, .inl MB)), (au, .inl (g.2.2.1, 400, .inl MU)), (ah, .inl (g.2.2.1, 4096, .inl MH)), (ar, .inl (g.2.2.1, 4096, .inl MR)), (aw, .inl (g.2.2.1, 100, .inl (upd MW (Mto).toNatClampNeg x))), (ay, .inl (g.2.2.1, 100, .inl MY))]) C dX6_tell_18 5 rfl (zind c_1 ht) rfl ?_
    refine z_aload_n C dX6_tell_19 rfl 0 rfl ?_
    refine z_get (ci := 5) (v := .ref ay) (Cn := RX6) (T := TX6) (N := 23) C dX6_tell_20 (fun w h => List.mem_cons_of_mem _ (List.mem_append_right _ h)) 0 rfl rfl 19 (by decide) (List.mem_of_getElem? (i := 3) rfl) rfl rfl ?_
    refine z_aload_n C dX6_tell_23 rfl 0 rfl ?_
    refine z_get (ci := 5) (v := .int Mto) (Cn := RX6) (T := TX6) (N := 23) C dX6_tell_24 (fun w h => List.mem_cons_of_mem _ (List.mem_append_right _ h)) 0 rfl rfl 16 (by decide) (List.mem_of_getElem? (i := 1) rfl) rfl rfl ?_
    refine z_iload_n C dX6_tell_27 rfl 2 rfl ?_
    refine z_iast (ws' := [(M, .inr (5, [.int Mft, .int Msz, .int Mal, .ref ab, .int Mbs, .ref au, .int Mpl, .int Mbg, .int Mlo, .int Mhs, .int Mhf, .ref ah, .int Mhp, .int Mrs, .int Mrf, .ref ar, .int Mto, .int Mtb, .ref aw, .ref ay, .int Mfr, .int Mln, .int Mhb])), (ab, .inl (g.2.2.1, 4096, .inl MB)), (au, .inl (g.2.2.1, 400, .inl MU)), (ah, .inl (g.2.2.1, 4096, .inl MH)), (ar, .inl (g.2.2.1, 4096, .inl MR)), (aw, .inl (g.2.2.1, 100, .inl (upd MW (Mto).toNatClampNeg x))), (ay, .inl (g.2.2.1, 100, .inl (upd MY (Mto).toNatClampNeg v)))]) C dX6_tell_28 6 rfl (zind c_1 ht) rfl ?_
    refine z_aload_n C dX6_tell_29 rfl 0 rfl ?_
    refine z_dup C dX6_tell_30 rfl ?_
    refine z_get (ci := 5) (v := .int Mto) (Cn := RX6) (T := TX6) (N := 23) C dX6_tell_31 (fun w h => List.mem_cons_of_mem _ (List.mem_append_right _ h)) 0 rfl rfl 16 (by decide) (List.mem_of_getElem? (i := 1) rfl) rfl rfl ?_
    refine z_iconst (v := 1) C dX6_tell_34 (by decide) ?_
    refine z_iadd C dX6_tell_35 ?_
    refine z_put (ci := 5) (v := .int (Mto + 1)) (ty := .int) (Cn := RX6) (T := TX6) (N := 23) (ws' := [(M, .inr (5, [.int Mft, .int Msz, .int Mal, .ref ab, .int Mbs, .ref au, .int Mpl, .int Mbg, .int Mlo, .int Mhs, .int Mhf, .ref ah, .int Mhp, .int Mrs, .int Mrf, .ref ar, .int (Mto + 1), .int Mtb, .ref aw, .ref ay, .int Mfr, .int Mln, .int Mhb])), (ab, .inl (g.2.2.1, 4096, .inl MB)), (au, .inl (g.2.2.1, 400, .inl MU)), (ah, .inl (g.2.2.1, 4096, .inl MH)), (ar, .inl (g.2.2.1, 4096, .inl MR)), (aw, .inl (g.2.2.1, 100, .inl (upd MW (Mto).toNatClampNeg x))), (ay, .inl (g.2.2.1, 100, .inl (upd MY (Mto).toNatClampNeg v)))]) C dX6_tell_36 (fun w h => List.mem_cons_of_mem _ (List.mem_append_right _ h)) tyX6 tyX6_ok nmX6 0 rfl rfl 16 (by decide) (List.mem_of_getElem? (i := 1) rfl) rfl rfl (by decide +kernel) rfl rfl (Nat.le_of_ble_eq_true rfl) rfl ?_
    refine z_aload_n C dX6_tell_39 rfl 0 rfl ?_
    refine z_aload_n C dX6_tell_40 rfl 0 rfl ?_
    refine z_get (ci := 5) (v := .int Mtb) (Cn := RX6) (T := TX6) (N := 23) C dX6_tell_41 (fun w h => List.mem_cons_of_mem _ (List.mem_append_right _ h)) 0 rfl rfl 17 (by decide) (List.mem_of_getElem? (i := 4) rfl) rfl rfl ?_
    refine z_iload_n C dX6_tell_44 rfl 2 rfl ?_
    refine z_iadd C dX6_tell_45 ?_
    refine z_put (ci := 5) (v := .int (Mtb + v)) (ty := .int) (Cn := RX6) (T := TX6) (N := 23) (ws' := [(M, .inr (5, [.int Mft, .int Msz, .int Mal, .ref ab, .int Mbs, .ref au, .int Mpl, .int Mbg, .int Mlo, .int Mhs, .int Mhf, .ref ah, .int Mhp, .int Mrs, .int Mrf, .ref ar, .int (Mto + 1), .int (Mtb + v), .ref aw, .ref ay, .int Mfr, .int Mln, .int Mhb])), (ab, .inl (g.2.2.1, 4096, .inl MB)), (au, .inl (g.2.2.1, 400, .inl MU)), (ah, .inl (g.2.2.1, 4096, .inl MH)), (ar, .inl (g.2.2.1, 4096, .inl MR)), (aw, .inl (g.2.2.1, 100, .inl (upd MW (Mto).toNatClampNeg x))), (ay, .inl (g.2.2.1, 100, .inl (upd MY (Mto).toNatClampNeg v)))]) C dX6_tell_46 (fun w h => List.mem_cons_of_mem _ (List.mem_append_right _ h)) tyX6 tyX6_ok nmX6 0 rfl rfl 17 (by decide) (List.mem_of_getElem? (i := 4) rfl) rfl rfl (by decide +kernel) rfl rfl (Nat.le_of_ble_eq_true rfl) rfl ?_
    have he : (f_X6_tell MW MY Mto Mtb x v) = ((upd MW (Mto).toNatClampNeg x), (upd MY (Mto).toNatClampNeg v), (Mto + 1), (Mtb + v)) := by simp only [f_X6_tell, if_neg c_1]
    exact hret _ _ _ dX6_tell_49 (by first | rw [he] | rfl)
set_option maxHeartbeats 4000000 in
set_option maxRecDepth 100000 in
theorem c_X6_drop (l : Launch) (g : zG) (M ab au ah ar aw ay : Nat) (MB : Nat → Int32) (MU : Nat → Int32) (MH : Nat → Int32) (MR : Nat → Int32) (MW : Nat → Int32) (MY : Nat → Int32) (Mft : Int32) (Msz : Int32) (Mal : Int32) (Mbs : Int32) (Mpl : Int32) (Mbg : Int32) (Mlo : Int32) (Mhs : Int32) (Mhf : Int32) (Mhp : Int32) (Mrs : Int32) (Mrf : Int32) (Mto : Int32) (Mtb : Int32) (Mfr : Int32) (Mln : Int32) (Mhb : Int32) : zMV l yX6_drop wsX6_drop ({ frames := 0, cells := 0, slots := 0, locals := 0 }) g [.ref M] [(M, .inr (5, [.int Mft, .int Msz, .int Mal, .ref ab, .int Mbs, .ref au, .int Mpl, .int Mbg, .int Mlo, .int Mhs, .int Mhf, .ref ah, .int Mhp, .int Mrs, .int Mrf, .ref ar, .int Mto, .int Mtb, .ref aw, .ref ay, .int Mfr, .int Mln, .int Mhb])), (ab, .inl (g.2.2.1, 4096, .inl MB)), (au, .inl (g.2.2.1, 400, .inl MU)), (ah, .inl (g.2.2.1, 4096, .inl MH)), (ar, .inl (g.2.2.1, 4096, .inl MR)), (aw, .inl (g.2.2.1, 100, .inl MW)), (ay, .inl (g.2.2.1, 100, .inl MY))] [(M, .inr (5, [.int Mft, .int Msz, .int Mal, .ref ab, .int Mbs, .ref au, .int Mpl, .int Mbg, .int Mlo, .int 0, .int 0, .ref ah, .int Mhp, .int Mrs, .int Mrf, .ref ar, .int Mto, .int Mtb, .ref aw, .ref ay, .int Mfr, .int Mln, .int Mhb])), (ab, .inl (g.2.2.1, 4096, .inl MB)), (au, .inl (g.2.2.1, 400, .inl MU)), (ah, .inl (g.2.2.1, 4096, .inl MH)), (ar, .inl (g.2.2.1, 4096, .inl MR)), (aw, .inl (g.2.2.1, 100, .inl MW)), (ay, .inl (g.2.2.1, 100, .inl MY))] := by
  refine zMV_of (cc := cX6_drop) (nL := 1) (by decide) rfl (Nat.le_of_ble_eq_true rfl) ?_
  intro X C hret
  refine z_lv (lv' := [(0, .ref M)]) [0] rfl ?_
  refine z_aload_n C dX6_drop_0 rfl 0 rfl ?_
  refine z_iconst (v := 0) C dX6_drop_1 (by decide) ?_
  refine z_put (ci := 5) (v := .int 0) (ty := .boolean) (Cn := RX6) (T := TX6) (N := 23) (ws' := [(M, .inr (5, [.int Mft, .int Msz, .int Mal, .ref ab, .int Mbs, .ref au, .int Mpl, .int Mbg, .int Mlo, .int Mhs, .int 0, .ref ah, .int Mhp, .int Mrs, .int Mrf, .ref ar, .int Mto, .int Mtb, .ref aw, .ref ay, .int Mfr, .int Mln, .int Mhb])), (ab, .inl (g.2.2.1, 4096, .inl MB)), (au, .inl (g.2.2.1, 400, .inl MU)), (ah, .inl (g.2.2.1, 4096, .inl MH)), (ar, .inl (g.2.2.1, 4096, .inl MR)), (aw, .inl (g.2.2.1, 100, .inl MW)), (ay, .inl (g.2.2.1, 100, .inl MY))]) C dX6_drop_2 (fun w h => List.mem_cons_of_mem _ (List.mem_append_right _ h)) tyX6 tyX6_ok nmX6 0 rfl rfl 10 (by decide) (List.mem_of_getElem? (i := 1) rfl) rfl rfl (by decide +kernel) rfl rfl (Nat.le_of_ble_eq_true rfl) rfl ?_
  refine z_aload_n C dX6_drop_5 rfl 0 rfl ?_
  refine z_iconst (v := 0) C dX6_drop_6 (by decide) ?_
  refine z_put (ci := 5) (v := .int 0) (ty := .int) (Cn := RX6) (T := TX6) (N := 23) (ws' := [(M, .inr (5, [.int Mft, .int Msz, .int Mal, .ref ab, .int Mbs, .ref au, .int Mpl, .int Mbg, .int Mlo, .int 0, .int 0, .ref ah, .int Mhp, .int Mrs, .int Mrf, .ref ar, .int Mto, .int Mtb, .ref aw, .ref ay, .int Mfr, .int Mln, .int Mhb])), (ab, .inl (g.2.2.1, 4096, .inl MB)), (au, .inl (g.2.2.1, 400, .inl MU)), (ah, .inl (g.2.2.1, 4096, .inl MH)), (ar, .inl (g.2.2.1, 4096, .inl MR)), (aw, .inl (g.2.2.1, 100, .inl MW)), (ay, .inl (g.2.2.1, 100, .inl MY))]) C dX6_drop_7 (fun w h => List.mem_cons_of_mem _ (List.mem_append_right _ h)) tyX6 tyX6_ok nmX6 0 rfl rfl 9 (by decide) (List.mem_of_getElem? (i := 2) rfl) rfl rfl (by decide +kernel) rfl rfl (Nat.le_of_ble_eq_true rfl) rfl ?_
  exact hret _ _ _ dX6_drop_10 rfl
def b_X6_take (MB : Nat → Int32) (Mfr : Int32) (k : Int32) (z_ : (Nat → Int32) × Int32) : (Nat → Int32) × Int32 :=
  match z_ with
  | (MH_, Mhs_) =>
    ((upd MH_ (Mhs_).toNatClampNeg (MB (((Mfr + 7) + k)).toNatClampNeg)), (Mhs_ + 1))
def lp_X6_take (MB : Nat → Int32) (Mfr : Int32) (z_ : (Nat → Int32) × Int32) : Nat → (Nat → Int32) × Int32
  | 0 => z_
  | i + 1 => b_X6_take MB Mfr (nI i) (lp_X6_take MB Mfr z_ i)
def f_X6_take (MB : Nat → Int32) (MH : Nat → Int32) (Mhs : Int32) (Mfr : Int32) (Mln : Int32) : (Nat → Int32) × Int32 :=
  match lp_X6_take MB Mfr (MH, Mhs) (Mln).toNatClampNeg with
  | (MH_, Mhs_) =>
    (MH_, Mhs_)
set_option maxHeartbeats 4000000 in
set_option maxRecDepth 100000 in
theorem c_X6_take (l : Launch) (g : zG) (M ab au ah ar aw ay : Nat) (MB : Nat → Int32) (MU : Nat → Int32) (MH : Nat → Int32) (MR : Nat → Int32) (MW : Nat → Int32) (MY : Nat → Int32) (Mft : Int32) (Msz : Int32) (Mal : Int32) (Mbs : Int32) (Mpl : Int32) (Mbg : Int32) (Mlo : Int32) (Mhs : Int32) (Mhf : Int32) (Mhp : Int32) (Mrs : Int32) (Mrf : Int32) (Mto : Int32) (Mtb : Int32) (Mfr : Int32) (Mln : Int32) (Mhb : Int32) (hl : zroom 4096 (Mln.toNatClampNeg) Mhs) (hs : zseg 4096 (Mfr + 7) Mln) : zMV l yX6_take wsX6_take ({ frames := 0, cells := 0, slots := 0, locals := 0 }) g [.ref M] [(M, .inr (5, [.int Mft, .int Msz, .int Mal, .ref ab, .int Mbs, .ref au, .int Mpl, .int Mbg, .int Mlo, .int Mhs, .int Mhf, .ref ah, .int Mhp, .int Mrs, .int Mrf, .ref ar, .int Mto, .int Mtb, .ref aw, .ref ay, .int Mfr, .int Mln, .int Mhb])), (ab, .inl (g.2.2.1, 4096, .inl MB)), (au, .inl (g.2.2.1, 400, .inl MU)), (ah, .inl (g.2.2.1, 4096, .inl MH)), (ar, .inl (g.2.2.1, 4096, .inl MR)), (aw, .inl (g.2.2.1, 100, .inl MW)), (ay, .inl (g.2.2.1, 100, .inl MY))] [(M, .inr (5, [.int Mft, .int Msz, .int Mal, .ref ab, .int Mbs, .ref au, .int Mpl, .int Mbg, .int Mlo, .int ((f_X6_take MB MH Mhs Mfr Mln).2), .int Mhf, .ref ah, .int Mhp, .int Mrs, .int Mrf, .ref ar, .int Mto, .int Mtb, .ref aw, .ref ay, .int Mfr, .int Mln, .int Mhb])), (ab, .inl (g.2.2.1, 4096, .inl MB)), (au, .inl (g.2.2.1, 400, .inl MU)), (ah, .inl (g.2.2.1, 4096, .inl ((f_X6_take MB MH Mhs Mfr Mln).1))), (ar, .inl (g.2.2.1, 4096, .inl MR)), (aw, .inl (g.2.2.1, 100, .inl MW)), (ay, .inl (g.2.2.1, 100, .inl MY))] := by
  refine zMV_of (cc := cX6_take) (nL := 2) (by decide) rfl (Nat.le_of_ble_eq_true rfl) ?_
  intro X C hret
  refine z_lv (lv' := [(0, .ref M)]) [0] rfl ?_
  refine z_iconst (v := 0) C dX6_take_0 (by decide) ?_
  refine z_istore_n (lv' := [(1, .int 0), (0, .ref M)]) C dX6_take_1 rfl (by decide) rfl ?_
  have loop : ∀ (r i : Nat), i + r = (Mln).toNatClampNeg → ∀ (MH_ : Nat → Int32) (Mhs_ : Int32), lp_X6_take MB Mfr (MH, Mhs) i = (MH_, Mhs_) → zroom 4096 r Mhs_ → zV X g 2 0 0 2 [(0, .ref M), (1, .int (nI i))] [] [(M, .inr (5, [.int Mft, .int Msz, .int Mal, .ref ab, .int Mbs, .ref au, .int Mpl, .int Mbg, .int Mlo, .int Mhs_, .int Mhf, .ref ah, .int Mhp, .int Mrs, .int Mrf, .ref ar, .int Mto, .int Mtb, .ref aw, .ref ay, .int Mfr, .int Mln, .int Mhb])), (ab, .inl (g.2.2.1, 4096, .inl MB)), (au, .inl (g.2.2.1, 400, .inl MU)), (ah, .inl (g.2.2.1, 4096, .inl MH_)), (ar, .inl (g.2.2.1, 4096, .inl MR)), (aw, .inl (g.2.2.1, 100, .inl MW)), (ay, .inl (g.2.2.1, 100, .inl MY))] := by
    intro r
    induction r with
    | zero =>
      intro i hi MH_ Mhs_ hv hl_
      have hi : i = (Mln).toNatClampNeg := hi
      refine z_iload_n C dX6_take_2 rfl 1 rfl ?_
      refine z_aload_n C dX6_take_3 rfl 0 rfl ?_
      refine z_get (ci := 5) (v := .int Mln) (Cn := RX6) (T := TX6) (N := 23) C dX6_take_4 (fun w h => List.mem_cons_of_mem _ (List.mem_append_right _ h)) 0 rfl rfl 21 (by decide) (List.mem_of_getElem? (i := 1) rfl) rfl rfl ?_
      refine z_icmp_ge (tgt := 49) C dX6_take_7 (by decide) (fun c_1 => ?_) (fun c_1 => absurd (zfor_out hi) c_1)
      have he : (f_X6_take MB MH Mhs Mfr Mln) = (MH_, Mhs_) := by simp only [f_X6_take, ← hi, hv]
      exact hret _ _ _ dX6_take_49 (by first | rw [he] | rfl)
    | succ r ih =>
      intro i hi MH_ Mhs_ hv hl_
      refine z_iload_n C dX6_take_2 rfl 1 rfl ?_
      refine z_aload_n C dX6_take_3 rfl 0 rfl ?_
      refine z_get (ci := 5) (v := .int Mln) (Cn := RX6) (T := TX6) (N := 23) C dX6_take_4 (fun w h => List.mem_cons_of_mem _ (List.mem_append_right _ h)) 0 rfl rfl 21 (by decide) (List.mem_of_getElem? (i := 1) rfl) rfl rfl ?_
      refine z_icmp_ge (tgt := 49) C dX6_take_7 (by decide) (fun c_2 => absurd c_2 (zfor_in hi)) (fun c_2 => ?_)
      refine z_aload_n C dX6_take_10 rfl 0 rfl ?_
      refine z_get (ci := 5) (v := .ref ah) (Cn := RX6) (T := TX6) (N := 23) C dX6_take_11 (fun w h => List.mem_cons_of_mem _ (List.mem_append_right _ h)) 0 rfl rfl 11 (by decide) (List.mem_of_getElem? (i := 2) rfl) rfl rfl ?_
      refine z_aload_n C dX6_take_14 rfl 0 rfl ?_
      refine z_get (ci := 5) (v := .int Mhs_) (Cn := RX6) (T := TX6) (N := 23) C dX6_take_15 (fun w h => List.mem_cons_of_mem _ (List.mem_append_right _ h)) 0 rfl rfl 9 (by decide) (List.mem_of_getElem? (i := 3) rfl) rfl rfl ?_
      refine z_aload_n C dX6_take_18 rfl 0 rfl ?_
      refine z_get (ci := 5) (v := .ref ab) (Cn := RX6) (T := TX6) (N := 23) C dX6_take_19 (fun w h => List.mem_cons_of_mem _ (List.mem_append_right _ h)) 0 rfl rfl 3 (by decide) (List.mem_of_getElem? (i := 4) rfl) rfl rfl ?_
      refine z_aload_n C dX6_take_22 rfl 0 rfl ?_
      refine z_get (ci := 5) (v := .int Mfr) (Cn := RX6) (T := TX6) (N := 23) C dX6_take_23 (fun w h => List.mem_cons_of_mem _ (List.mem_append_right _ h)) 0 rfl rfl 20 (by decide) (List.mem_of_getElem? (i := 5) rfl) rfl rfl ?_
      refine z_bipush (v := 7) C dX6_take_26 (by decide) ?_
      refine z_iadd C dX6_take_28 ?_
      refine z_iload_n C dX6_take_29 rfl 1 rfl ?_
      refine z_iadd C dX6_take_30 ?_
      refine z_iald C dX6_take_31 1 rfl (zseg_in hs hi) ?_
      refine z_iast (ws' := [(M, .inr (5, [.int Mft, .int Msz, .int Mal, .ref ab, .int Mbs, .ref au, .int Mpl, .int Mbg, .int Mlo, .int Mhs_, .int Mhf, .ref ah, .int Mhp, .int Mrs, .int Mrf, .ref ar, .int Mto, .int Mtb, .ref aw, .ref ay, .int Mfr, .int Mln, .int Mhb])), (ab, .inl (g.2.2.1, 4096, .inl MB)), (au, .inl (g.2.2.1, 400, .inl MU)), (ah, .inl (g.2.2.1, 4096, .inl (upd MH_ (Mhs_).toNatClampNeg (MB (((Mfr + 7) + (nI i))).toNatClampNeg)))), (ar, .inl (g.2.2.1, 4096, .inl MR)), (aw, .inl (g.2.2.1, 100, .inl MW)), (ay, .inl (g.2.2.1, 100, .inl MY))]) C dX6_take_32 3 rfl (zroom_in hl_) rfl ?_
      refine z_aload_n C dX6_take_33 rfl 0 rfl ?_
      refine z_dup C dX6_take_34 rfl ?_
      refine z_get (ci := 5) (v := .int Mhs_) (Cn := RX6) (T := TX6) (N := 23) C dX6_take_35 (fun w h => List.mem_cons_of_mem _ (List.mem_append_right _ h)) 0 rfl rfl 9 (by decide) (List.mem_of_getElem? (i := 3) rfl) rfl rfl ?_
      refine z_iconst (v := 1) C dX6_take_38 (by decide) ?_
      refine z_iadd C dX6_take_39 ?_
      refine z_put (ci := 5) (v := .int (Mhs_ + 1)) (ty := .int) (Cn := RX6) (T := TX6) (N := 23) (ws' := [(M, .inr (5, [.int Mft, .int Msz, .int Mal, .ref ab, .int Mbs, .ref au, .int Mpl, .int Mbg, .int Mlo, .int (Mhs_ + 1), .int Mhf, .ref ah, .int Mhp, .int Mrs, .int Mrf, .ref ar, .int Mto, .int Mtb, .ref aw, .ref ay, .int Mfr, .int Mln, .int Mhb])), (ab, .inl (g.2.2.1, 4096, .inl MB)), (au, .inl (g.2.2.1, 400, .inl MU)), (ah, .inl (g.2.2.1, 4096, .inl (upd MH_ (Mhs_).toNatClampNeg (MB (((Mfr + 7) + (nI i))).toNatClampNeg)))), (ar, .inl (g.2.2.1, 4096, .inl MR)), (aw, .inl (g.2.2.1, 100, .inl MW)), (ay, .inl (g.2.2.1, 100, .inl MY))]) C dX6_take_40 (fun w h => List.mem_cons_of_mem _ (List.mem_append_right _ h)) tyX6 tyX6_ok nmX6 0 rfl rfl 9 (by decide) (List.mem_of_getElem? (i := 3) rfl) rfl rfl (by decide +kernel) rfl rfl (Nat.le_of_ble_eq_true rfl) rfl ?_
      refine z_iinc (v := (nI (i + 1))) (lv' := [(1, .int (nI (i + 1))), (0, .ref M)]) C dX6_take_43 1 rfl (nI_1 i) (by decide) rfl ?_
      refine z_goto (tgt := 2) C dX6_take_46 (by decide) ?_
      have hs : lp_X6_take MB Mfr (MH, Mhs) (i + 1) = ((upd MH_ (Mhs_).toNatClampNeg (MB (((Mfr + 7) + (nI i))).toNatClampNeg)), (Mhs_ + 1)) := by
        show b_X6_take MB Mfr (nI i) (lp_X6_take MB Mfr (MH, Mhs) i) = _
        rw [hv]
        rfl
      exact z_lv [1, 0] rfl (ih (i + 1) (by omega) (upd MH_ (Mhs_).toNatClampNeg (MB (((Mfr + 7) + (nI i))).toNatClampNeg)) (Mhs_ + 1) hs (zroom_s hl_))
  exact z_lv [1, 0] rfl (loop (Mln).toNatClampNeg 0 (Nat.zero_add _) MH Mhs rfl hl)
def b_X6_finish (MH : Nat → Int32) (k : Int32) (z_ : (Nat → Int32)) : (Nat → Int32) :=
  match z_ with
  | MR_ =>
    (upd MR_ (k).toNatClampNeg (MH (k).toNatClampNeg))
def lp_X6_finish (MH : Nat → Int32) (z_ : (Nat → Int32)) : Nat → (Nat → Int32)
  | 0 => z_
  | i + 1 => b_X6_finish MH (nI i) (lp_X6_finish MH z_ i)
def f_X6_finish (MH : Nat → Int32) (MR : Nat → Int32) (Mhs : Int32) (Mhp : Int32) : (Nat → Int32) × Int32 × Int32 × Int32 × Int32 :=
  ((lp_X6_finish MH MR (Mhs).toNatClampNeg), 0, 0, Mhs, Mhp)
set_option maxHeartbeats 4000000 in
set_option maxRecDepth 100000 in
theorem c_X6_finish (l : Launch) (g : zG) (M ab au ah ar aw ay : Nat) (MB : Nat → Int32) (MU : Nat → Int32) (MH : Nat → Int32) (MR : Nat → Int32) (MW : Nat → Int32) (MY : Nat → Int32) (Mft : Int32) (Msz : Int32) (Mal : Int32) (Mbs : Int32) (Mpl : Int32) (Mbg : Int32) (Mlo : Int32) (Mhs : Int32) (Mhf : Int32) (Mhp : Int32) (Mrs : Int32) (Mrf : Int32) (Mto : Int32) (Mtb : Int32) (Mfr : Int32) (Mln : Int32) (Mhb : Int32) (hh : zok 4096 Mhs) : zMV l yX6_finish wsX6_finish ({ frames := 1, cells := 0, slots := 0, locals := 20 }) g [.ref M] [(M, .inr (5, [.int Mft, .int Msz, .int Mal, .ref ab, .int Mbs, .ref au, .int Mpl, .int Mbg, .int Mlo, .int Mhs, .int Mhf, .ref ah, .int Mhp, .int Mrs, .int Mrf, .ref ar, .int Mto, .int Mtb, .ref aw, .ref ay, .int Mfr, .int Mln, .int Mhb])), (ab, .inl (g.2.2.1, 4096, .inl MB)), (au, .inl (g.2.2.1, 400, .inl MU)), (ah, .inl (g.2.2.1, 4096, .inl MH)), (ar, .inl (g.2.2.1, 4096, .inl MR)), (aw, .inl (g.2.2.1, 100, .inl MW)), (ay, .inl (g.2.2.1, 100, .inl MY))] [(M, .inr (5, [.int Mft, .int Msz, .int Mal, .ref ab, .int Mbs, .ref au, .int Mpl, .int Mbg, .int Mlo, .int ((f_X6_finish MH MR Mhs Mhp).2.1), .int ((f_X6_finish MH MR Mhs Mhp).2.2.1), .ref ah, .int Mhp, .int ((f_X6_finish MH MR Mhs Mhp).2.2.2.1), .int ((f_X6_finish MH MR Mhs Mhp).2.2.2.2), .ref ar, .int Mto, .int Mtb, .ref aw, .ref ay, .int Mfr, .int Mln, .int Mhb])), (ab, .inl (g.2.2.1, 4096, .inl MB)), (au, .inl (g.2.2.1, 400, .inl MU)), (ah, .inl (g.2.2.1, 4096, .inl MH)), (ar, .inl (g.2.2.1, 4096, .inl ((f_X6_finish MH MR Mhs Mhp).1))), (aw, .inl (g.2.2.1, 100, .inl MW)), (ay, .inl (g.2.2.1, 100, .inl MY))] := by
  refine zMV_of (cc := cX6_finish) (nL := 2) (by decide) rfl (Nat.le_of_ble_eq_true rfl) ?_
  intro X C hret
  refine z_lv (lv' := [(0, .ref M)]) [0] rfl ?_
  refine z_aload_n C dX6_finish_0 rfl 0 rfl ?_
  refine z_aload_n C dX6_finish_1 rfl 0 rfl ?_
  refine z_get (ci := 5) (v := .int Mhs) (Cn := RX6) (T := TX6) (N := 23) C dX6_finish_2 (fun w h => List.mem_cons_of_mem _ (List.mem_append_right _ h)) 0 rfl rfl 9 (by decide) (List.mem_of_getElem? (i := 1) rfl) rfl rfl ?_
  refine z_put (ci := 5) (v := .int Mhs) (ty := .int) (Cn := RX6) (T := TX6) (N := 23) (ws' := [(M, .inr (5, [.int Mft, .int Msz, .int Mal, .ref ab, .int Mbs, .ref au, .int Mpl, .int Mbg, .int Mlo, .int Mhs, .int Mhf, .ref ah, .int Mhp, .int Mhs, .int Mrf, .ref ar, .int Mto, .int Mtb, .ref aw, .ref ay, .int Mfr, .int Mln, .int Mhb])), (ab, .inl (g.2.2.1, 4096, .inl MB)), (au, .inl (g.2.2.1, 400, .inl MU)), (ah, .inl (g.2.2.1, 4096, .inl MH)), (ar, .inl (g.2.2.1, 4096, .inl MR)), (aw, .inl (g.2.2.1, 100, .inl MW)), (ay, .inl (g.2.2.1, 100, .inl MY))]) C dX6_finish_5 (fun w h => List.mem_cons_of_mem _ (List.mem_append_right _ h)) tyX6 tyX6_ok nmX6 0 rfl rfl 13 (by decide) (List.mem_of_getElem? (i := 2) rfl) rfl rfl (by decide +kernel) rfl rfl (Nat.le_of_ble_eq_true rfl) rfl ?_
  refine z_aload_n C dX6_finish_8 rfl 0 rfl ?_
  refine z_aload_n C dX6_finish_9 rfl 0 rfl ?_
  refine z_get (ci := 5) (v := .int Mhp) (Cn := RX6) (T := TX6) (N := 23) C dX6_finish_10 (fun w h => List.mem_cons_of_mem _ (List.mem_append_right _ h)) 0 rfl rfl 12 (by decide) (List.mem_of_getElem? (i := 3) rfl) rfl rfl ?_
  refine z_put (ci := 5) (v := .int Mhp) (ty := .int) (Cn := RX6) (T := TX6) (N := 23) (ws' := [(M, .inr (5, [.int Mft, .int Msz, .int Mal, .ref ab, .int Mbs, .ref au, .int Mpl, .int Mbg, .int Mlo, .int Mhs, .int Mhf, .ref ah, .int Mhp, .int Mhs, .int Mhp, .ref ar, .int Mto, .int Mtb, .ref aw, .ref ay, .int Mfr, .int Mln, .int Mhb])), (ab, .inl (g.2.2.1, 4096, .inl MB)), (au, .inl (g.2.2.1, 400, .inl MU)), (ah, .inl (g.2.2.1, 4096, .inl MH)), (ar, .inl (g.2.2.1, 4096, .inl MR)), (aw, .inl (g.2.2.1, 100, .inl MW)), (ay, .inl (g.2.2.1, 100, .inl MY))]) C dX6_finish_13 (fun w h => List.mem_cons_of_mem _ (List.mem_append_right _ h)) tyX6 tyX6_ok nmX6 0 rfl rfl 14 (by decide) (List.mem_of_getElem? (i := 4) rfl) rfl rfl (by decide +kernel) rfl rfl (Nat.le_of_ble_eq_true rfl) rfl ?_
  refine z_iconst (v := 0) C dX6_finish_16 (by decide) ?_
  refine z_istore_n (lv' := [(1, .int 0), (0, .ref M)]) C dX6_finish_17 rfl (by decide) rfl ?_
  have loop : ∀ (r i : Nat), i + r = (Mhs).toNatClampNeg → ∀ (MR_ : Nat → Int32), lp_X6_finish MH MR i = MR_ → zV X g 2 0 0 18 [(0, .ref M), (1, .int (nI i))] [] [(M, .inr (5, [.int Mft, .int Msz, .int Mal, .ref ab, .int Mbs, .ref au, .int Mpl, .int Mbg, .int Mlo, .int Mhs, .int Mhf, .ref ah, .int Mhp, .int Mhs, .int Mhp, .ref ar, .int Mto, .int Mtb, .ref aw, .ref ay, .int Mfr, .int Mln, .int Mhb])), (ab, .inl (g.2.2.1, 4096, .inl MB)), (au, .inl (g.2.2.1, 400, .inl MU)), (ah, .inl (g.2.2.1, 4096, .inl MH)), (ar, .inl (g.2.2.1, 4096, .inl MR_)), (aw, .inl (g.2.2.1, 100, .inl MW)), (ay, .inl (g.2.2.1, 100, .inl MY))] := by
    intro r
    induction r with
    | zero =>
      intro i hi MR_ hv 
      have hi : i = (Mhs).toNatClampNeg := hi
      refine z_iload_n C dX6_finish_18 rfl 1 rfl ?_
      refine z_aload_n C dX6_finish_19 rfl 0 rfl ?_
      refine z_get (ci := 5) (v := .int Mhs) (Cn := RX6) (T := TX6) (N := 23) C dX6_finish_20 (fun w h => List.mem_cons_of_mem _ (List.mem_append_right _ h)) 0 rfl rfl 9 (by decide) (List.mem_of_getElem? (i := 1) rfl) rfl rfl ?_
      refine z_icmp_ge (tgt := 44) C dX6_finish_23 (by decide) (fun c_1 => ?_) (fun c_1 => absurd (zfor_out hi) c_1)
      refine z_aload_n C dX6_finish_44 rfl 0 rfl ?_
      refine z_callVv (n := 0) (isC := [0, 1, 2, 3, 4, 5, 6]) (isR := []) (isP := [0, 1, 2, 3, 4, 5, 6]) (As := []) (rest := []) (wr := []) (ws2 := [(M, .inr (5, [.int Mft, .int Msz, .int Mal, .ref ab, .int Mbs, .ref au, .int Mpl, .int Mbg, .int Mlo, .int 0, .int 0, .ref ah, .int Mhp, .int Mhs, .int Mhp, .ref ar, .int Mto, .int Mtb, .ref aw, .ref ay, .int Mfr, .int Mln, .int Mhb])), (ab, .inl (g.2.2.1, 4096, .inl MB)), (au, .inl (g.2.2.1, 400, .inl MU)), (ah, .inl (g.2.2.1, 4096, .inl MH)), (ar, .inl (g.2.2.1, 4096, .inl MR_)), (aw, .inl (g.2.2.1, 100, .inl MW)), (ay, .inl (g.2.2.1, 100, .inl MY))]) C dX6_finish_45 (c_X6_drop (zl X) g M ab au ah ar aw ay MB MU MH MR_ MW MY Mft Msz Mal Mbs Mpl Mbg Mlo Mhs Mhf Mhp Mhs Mhp Mto Mtb Mfr Mln Mhb) gX6_finish_X6_drop rfl ⟨rfl, rfl⟩ (by decide +kernel) (by decide) (by decide) rfl rfl rfl rfl (Nat.le_of_ble_eq_true rfl) rfl rfl ⟨rfl, rfl, rfl⟩ (by decide) rfl ?_
      have he : (f_X6_finish MH MR Mhs Mhp) = (MR_, 0, 0, Mhs, Mhp) := by simp only [f_X6_finish, ← hi, hv]
      exact hret _ _ _ dX6_finish_48 (by first | rw [he] | rfl)
    | succ r ih =>
      intro i hi MR_ hv 
      refine z_iload_n C dX6_finish_18 rfl 1 rfl ?_
      refine z_aload_n C dX6_finish_19 rfl 0 rfl ?_
      refine z_get (ci := 5) (v := .int Mhs) (Cn := RX6) (T := TX6) (N := 23) C dX6_finish_20 (fun w h => List.mem_cons_of_mem _ (List.mem_append_right _ h)) 0 rfl rfl 9 (by decide) (List.mem_of_getElem? (i := 1) rfl) rfl rfl ?_
      refine z_icmp_ge (tgt := 44) C dX6_finish_23 (by decide) (fun c_3 => absurd c_3 (zfor_in hi)) (fun c_3 => ?_)
      refine z_aload_n C dX6_finish_26 rfl 0 rfl ?_
      refine z_get (ci := 5) (v := .ref ar) (Cn := RX6) (T := TX6) (N := 23) C dX6_finish_27 (fun w h => List.mem_cons_of_mem _ (List.mem_append_right _ h)) 0 rfl rfl 15 (by decide) (List.mem_of_getElem? (i := 5) rfl) rfl rfl ?_
      refine z_iload_n C dX6_finish_30 rfl 1 rfl ?_
      refine z_aload_n C dX6_finish_31 rfl 0 rfl ?_
      refine z_get (ci := 5) (v := .ref ah) (Cn := RX6) (T := TX6) (N := 23) C dX6_finish_32 (fun w h => List.mem_cons_of_mem _ (List.mem_append_right _ h)) 0 rfl rfl 11 (by decide) (List.mem_of_getElem? (i := 6) rfl) rfl rfl ?_
      refine z_iload_n C dX6_finish_35 rfl 1 rfl ?_
      refine z_iald C dX6_finish_36 3 rfl (zfin_in hh hi) ?_
      refine z_iast (ws' := [(M, .inr (5, [.int Mft, .int Msz, .int Mal, .ref ab, .int Mbs, .ref au, .int Mpl, .int Mbg, .int Mlo, .int Mhs, .int Mhf, .ref ah, .int Mhp, .int Mhs, .int Mhp, .ref ar, .int Mto, .int Mtb, .ref aw, .ref ay, .int Mfr, .int Mln, .int Mhb])), (ab, .inl (g.2.2.1, 4096, .inl MB)), (au, .inl (g.2.2.1, 400, .inl MU)), (ah, .inl (g.2.2.1, 4096, .inl MH)), (ar, .inl (g.2.2.1, 4096, .inl (upd MR_ ((nI i)).toNatClampNeg (MH ((nI i)).toNatClampNeg)))), (aw, .inl (g.2.2.1, 100, .inl MW)), (ay, .inl (g.2.2.1, 100, .inl MY))]) C dX6_finish_37 4 rfl (zfin_in hh hi) rfl ?_
      refine z_iinc (v := (nI (i + 1))) (lv' := [(1, .int (nI (i + 1))), (0, .ref M)]) C dX6_finish_38 1 rfl (nI_1 i) (by decide) rfl ?_
      refine z_goto (tgt := 18) C dX6_finish_41 (by decide) ?_
      have hs : lp_X6_finish MH MR (i + 1) = (upd MR_ ((nI i)).toNatClampNeg (MH ((nI i)).toNatClampNeg)) := by
        show b_X6_finish MH (nI i) (lp_X6_finish MH MR i) = _
        rw [hv]
        rfl
      exact z_lv [1, 0] rfl (ih (i + 1) (by omega) (upd MR_ ((nI i)).toNatClampNeg (MH ((nI i)).toNatClampNeg)) hs )
  exact z_lv [1, 0] rfl (loop (Mhs).toNatClampNeg 0 (Nat.zero_add _) MR rfl)
def f_X6_start (MB : Nat → Int32) (MH : Nat → Int32) (MW : Nat → Int32) (MY : Nat → Int32) (Mhs : Int32) (Mhf : Int32) (Mto : Int32) (Mtb : Int32) (Mfr : Int32) (Mln : Int32) : (Nat → Int32) × (Nat → Int32) × (Nat → Int32) × Int32 × Int32 × Int32 × Int32 × Int32 :=
  if Mhf = 0 then
    match (f_X6_take MB MH 0 Mfr Mln) with
    | (MHq3, Mhsq3) =>
      (MHq3, MW, MY, Mhsq3, 1, Mfr, Mto, Mtb)
  else
    if Mhs ≤ 0 then
      match (f_X6_take MB MH 0 Mfr Mln) with
      | (MHq6, Mhsq6) =>
        (MHq6, MW, MY, Mhsq6, 1, Mfr, Mto, Mtb)
    else
      match (f_X6_tell MW MY Mto Mtb 4 Mhs) with
      | (MWq7, MYq7, Mtoq7, Mtbq7) =>
        match (f_X6_take MB MH 0 Mfr Mln) with
        | (MHq9, Mhsq9) =>
          (MHq9, MWq7, MYq7, Mhsq9, 1, Mfr, Mtoq7, Mtbq7)
set_option maxHeartbeats 4000000 in
set_option maxRecDepth 100000 in
theorem c_X6_start (l : Launch) (g : zG) (M ab au ah ar aw ay : Nat) (MB : Nat → Int32) (MU : Nat → Int32) (MH : Nat → Int32) (MR : Nat → Int32) (MW : Nat → Int32) (MY : Nat → Int32) (Mft : Int32) (Msz : Int32) (Mal : Int32) (Mbs : Int32) (Mpl : Int32) (Mbg : Int32) (Mlo : Int32) (Mhs : Int32) (Mhf : Int32) (Mhp : Int32) (Mrs : Int32) (Mrf : Int32) (Mto : Int32) (Mtb : Int32) (Mfr : Int32) (Mln : Int32) (Mhb : Int32) (ht : zdok 1 Mto) (hl : zroom 4096 (Mln.toNatClampNeg) 0) (hs : zseg 4096 (Mfr + 7) Mln) : zMV l yX6_start wsX6_start ({ frames := 1, cells := 0, slots := 0, locals := 22 }) g [.ref M] [(M, .inr (5, [.int Mft, .int Msz, .int Mal, .ref ab, .int Mbs, .ref au, .int Mpl, .int Mbg, .int Mlo, .int Mhs, .int Mhf, .ref ah, .int Mhp, .int Mrs, .int Mrf, .ref ar, .int Mto, .int Mtb, .ref aw, .ref ay, .int Mfr, .int Mln, .int Mhb])), (ab, .inl (g.2.2.1, 4096, .inl MB)), (au, .inl (g.2.2.1, 400, .inl MU)), (ah, .inl (g.2.2.1, 4096, .inl MH)), (ar, .inl (g.2.2.1, 4096, .inl MR)), (aw, .inl (g.2.2.1, 100, .inl MW)), (ay, .inl (g.2.2.1, 100, .inl MY))] [(M, .inr (5, [.int Mft, .int Msz, .int Mal, .ref ab, .int Mbs, .ref au, .int Mpl, .int Mbg, .int Mlo, .int ((f_X6_start MB MH MW MY Mhs Mhf Mto Mtb Mfr Mln).2.2.2.1), .int ((f_X6_start MB MH MW MY Mhs Mhf Mto Mtb Mfr Mln).2.2.2.2.1), .ref ah, .int ((f_X6_start MB MH MW MY Mhs Mhf Mto Mtb Mfr Mln).2.2.2.2.2.1), .int Mrs, .int Mrf, .ref ar, .int ((f_X6_start MB MH MW MY Mhs Mhf Mto Mtb Mfr Mln).2.2.2.2.2.2.1), .int ((f_X6_start MB MH MW MY Mhs Mhf Mto Mtb Mfr Mln).2.2.2.2.2.2.2), .ref aw, .ref ay, .int Mfr, .int Mln, .int Mhb])), (ab, .inl (g.2.2.1, 4096, .inl MB)), (au, .inl (g.2.2.1, 400, .inl MU)), (ah, .inl (g.2.2.1, 4096, .inl ((f_X6_start MB MH MW MY Mhs Mhf Mto Mtb Mfr Mln).1))), (ar, .inl (g.2.2.1, 4096, .inl MR)), (aw, .inl (g.2.2.1, 100, .inl ((f_X6_start MB MH MW MY Mhs Mhf Mto Mtb Mfr Mln).2.1))), (ay, .inl (g.2.2.1, 100, .inl ((f_X6_start MB MH MW MY Mhs Mhf Mto Mtb Mfr Mln).2.2.1)))] := by
  refine zMV_of (cc := cX6_start) (nL := 1) (by decide) rfl (Nat.le_of_ble_eq_true rfl) ?_
  intro X C hret
  refine z_lv (lv' := [(0, .ref M)]) [0] rfl ?_
  refine z_aload_n C dX6_start_0 rfl 0 rfl ?_
  refine z_get (ci := 5) (v := .int Mhf) (Cn := RX6) (T := TX6) (N := 23) C dX6_start_1 (fun w h => List.mem_cons_of_mem _ (List.mem_append_right _ h)) 0 rfl rfl 10 (by decide) (List.mem_of_getElem? (i := 1) rfl) rfl rfl ?_
  refine z_if_eq (tgt := 23) C dX6_start_4 (by decide) (fun c_1 => ?_) (fun c_1 => ?_)
  · skip
    refine z_aload_n C dX6_start_23 rfl 0 rfl ?_
    refine z_callVv (n := 0) (isC := [0, 1, 2, 3, 4, 5, 6]) (isR := []) (isP := [0, 1, 2, 3, 4, 5, 6]) (As := []) (rest := []) (wr := []) (ws2 := [(M, .inr (5, [.int Mft, .int Msz, .int Mal, .ref ab, .int Mbs, .ref au, .int Mpl, .int Mbg, .int Mlo, .int 0, .int 0, .ref ah, .int Mhp, .int Mrs, .int Mrf, .ref ar, .int Mto, .int Mtb, .ref aw, .ref ay, .int Mfr, .int Mln, .int Mhb])), (ab, .inl (g.2.2.1, 4096, .inl MB)), (au, .inl (g.2.2.1, 400, .inl MU)), (ah, .inl (g.2.2.1, 4096, .inl MH)), (ar, .inl (g.2.2.1, 4096, .inl MR)), (aw, .inl (g.2.2.1, 100, .inl MW)), (ay, .inl (g.2.2.1, 100, .inl MY))]) C dX6_start_24 (c_X6_drop (zl X) g M ab au ah ar aw ay MB MU MH MR MW MY Mft Msz Mal Mbs Mpl Mbg Mlo Mhs Mhf Mhp Mrs Mrf Mto Mtb Mfr Mln Mhb) gX6_start_X6_drop rfl ⟨rfl, rfl⟩ (by decide +kernel) (by decide) (by decide) rfl rfl rfl rfl (Nat.le_of_ble_eq_true rfl) rfl rfl ⟨rfl, rfl, rfl⟩ (by decide) rfl ?_
    refine z_aload_n C dX6_start_27 rfl 0 rfl ?_
    refine z_iconst (v := 1) C dX6_start_28 (by decide) ?_
    refine z_put (ci := 5) (v := .int 1) (ty := .boolean) (Cn := RX6) (T := TX6) (N := 23) (ws' := [(M, .inr (5, [.int Mft, .int Msz, .int Mal, .ref ab, .int Mbs, .ref au, .int Mpl, .int Mbg, .int Mlo, .int 0, .int 1, .ref ah, .int Mhp, .int Mrs, .int Mrf, .ref ar, .int Mto, .int Mtb, .ref aw, .ref ay, .int Mfr, .int Mln, .int Mhb])), (ab, .inl (g.2.2.1, 4096, .inl MB)), (au, .inl (g.2.2.1, 400, .inl MU)), (ah, .inl (g.2.2.1, 4096, .inl MH)), (ar, .inl (g.2.2.1, 4096, .inl MR)), (aw, .inl (g.2.2.1, 100, .inl MW)), (ay, .inl (g.2.2.1, 100, .inl MY))]) C dX6_start_29 (fun w h => List.mem_cons_of_mem _ (List.mem_append_right _ h)) tyX6 tyX6_ok nmX6 0 rfl rfl 10 (by decide) (List.mem_of_getElem? (i := 1) rfl) rfl rfl (by decide +kernel) rfl rfl (Nat.le_of_ble_eq_true rfl) rfl ?_
    refine z_aload_n C dX6_start_32 rfl 0 rfl ?_
    refine z_aload_n C dX6_start_33 rfl 0 rfl ?_
    refine z_get (ci := 5) (v := .int Mfr) (Cn := RX6) (T := TX6) (N := 23) C dX6_start_34 (fun w h => List.mem_cons_of_mem _ (List.mem_append_right _ h)) 0 rfl rfl 20 (by decide) (List.mem_of_getElem? (i := 3) rfl) rfl rfl ?_
    refine z_put (ci := 5) (v := .int Mfr) (ty := .int) (Cn := RX6) (T := TX6) (N := 23) (ws' := [(M, .inr (5, [.int Mft, .int Msz, .int Mal, .ref ab, .int Mbs, .ref au, .int Mpl, .int Mbg, .int Mlo, .int 0, .int 1, .ref ah, .int Mfr, .int Mrs, .int Mrf, .ref ar, .int Mto, .int Mtb, .ref aw, .ref ay, .int Mfr, .int Mln, .int Mhb])), (ab, .inl (g.2.2.1, 4096, .inl MB)), (au, .inl (g.2.2.1, 400, .inl MU)), (ah, .inl (g.2.2.1, 4096, .inl MH)), (ar, .inl (g.2.2.1, 4096, .inl MR)), (aw, .inl (g.2.2.1, 100, .inl MW)), (ay, .inl (g.2.2.1, 100, .inl MY))]) C dX6_start_37 (fun w h => List.mem_cons_of_mem _ (List.mem_append_right _ h)) tyX6 tyX6_ok nmX6 0 rfl rfl 12 (by decide) (List.mem_of_getElem? (i := 4) rfl) rfl rfl (by decide +kernel) rfl rfl (Nat.le_of_ble_eq_true rfl) rfl ?_
    refine z_aload_n C dX6_start_40 rfl 0 rfl ?_
    refine z_callVv (n := 0) (isC := [0, 1, 2, 3, 4, 5, 6]) (isR := []) (isP := [0, 1, 2, 3, 4, 5, 6]) (As := []) (rest := []) (wr := []) (ws2 := [(M, .inr (5, [.int Mft, .int Msz, .int Mal, .ref ab, .int Mbs, .ref au, .int Mpl, .int Mbg, .int Mlo, .int ((f_X6_take MB MH 0 Mfr Mln).2), .int 1, .ref ah, .int Mfr, .int Mrs, .int Mrf, .ref ar, .int Mto, .int Mtb, .ref aw, .ref ay, .int Mfr, .int Mln, .int Mhb])), (ab, .inl (g.2.2.1, 4096, .inl MB)), (au, .inl (g.2.2.1, 400, .inl MU)), (ah, .inl (g.2.2.1, 4096, .inl ((f_X6_take MB MH 0 Mfr Mln).1))), (ar, .inl (g.2.2.1, 4096, .inl MR)), (aw, .inl (g.2.2.1, 100, .inl MW)), (ay, .inl (g.2.2.1, 100, .inl MY))]) C dX6_start_41 (c_X6_take (zl X) g M ab au ah ar aw ay MB MU MH MR MW MY Mft Msz Mal Mbs Mpl Mbg Mlo 0 1 Mfr Mrs Mrf Mto Mtb Mfr Mln Mhb hl hs) gX6_start_X6_take rfl ⟨rfl, rfl⟩ (by decide +kernel) (by decide) (by decide) rfl rfl rfl rfl (Nat.le_of_ble_eq_true rfl) rfl rfl ⟨rfl, rfl, rfl⟩ (by decide) rfl ?_
    generalize hT3 : (f_X6_take MB MH 0 Mfr Mln) = T3
    obtain ⟨MHq3, Mhsq3⟩ := T3
    have he : (f_X6_start MB MH MW MY Mhs Mhf Mto Mtb Mfr Mln) = (MHq3, MW, MY, Mhsq3, 1, Mfr, Mto, Mtb) := by simp only [f_X6_start, if_pos c_1, hT3]
    exact hret _ _ _ dX6_start_44 (by first | rw [he] | rfl)
  · skip
    refine z_aload_n C dX6_start_7 rfl 0 rfl ?_
    refine z_get (ci := 5) (v := .int Mhs) (Cn := RX6) (T := TX6) (N := 23) C dX6_start_8 (fun w h => List.mem_cons_of_mem _ (List.mem_append_right _ h)) 0 rfl rfl 9 (by decide) (List.mem_of_getElem? (i := 2) rfl) rfl rfl ?_
    refine z_if_le (tgt := 23) C dX6_start_11 (by decide) (fun c_4 => ?_) (fun c_4 => ?_)
    · skip
      refine z_aload_n C dX6_start_23 rfl 0 rfl ?_
      refine z_callVv (n := 0) (isC := [0, 1, 2, 3, 4, 5, 6]) (isR := []) (isP := [0, 1, 2, 3, 4, 5, 6]) (As := []) (rest := []) (wr := []) (ws2 := [(M, .inr (5, [.int Mft, .int Msz, .int Mal, .ref ab, .int Mbs, .ref au, .int Mpl, .int Mbg, .int Mlo, .int 0, .int 0, .ref ah, .int Mhp, .int Mrs, .int Mrf, .ref ar, .int Mto, .int Mtb, .ref aw, .ref ay, .int Mfr, .int Mln, .int Mhb])), (ab, .inl (g.2.2.1, 4096, .inl MB)), (au, .inl (g.2.2.1, 400, .inl MU)), (ah, .inl (g.2.2.1, 4096, .inl MH)), (ar, .inl (g.2.2.1, 4096, .inl MR)), (aw, .inl (g.2.2.1, 100, .inl MW)), (ay, .inl (g.2.2.1, 100, .inl MY))]) C dX6_start_24 (c_X6_drop (zl X) g M ab au ah ar aw ay MB MU MH MR MW MY Mft Msz Mal Mbs Mpl Mbg Mlo Mhs Mhf Mhp Mrs Mrf Mto Mtb Mfr Mln Mhb) gX6_start_X6_drop rfl ⟨rfl, rfl⟩ (by decide +kernel) (by decide) (by decide) rfl rfl rfl rfl (Nat.le_of_ble_eq_true rfl) rfl rfl ⟨rfl, rfl, rfl⟩ (by decide) rfl ?_
      refine z_aload_n C dX6_start_27 rfl 0 rfl ?_
      refine z_iconst (v := 1) C dX6_start_28 (by decide) ?_
      refine z_put (ci := 5) (v := .int 1) (ty := .boolean) (Cn := RX6) (T := TX6) (N := 23) (ws' := [(M, .inr (5, [.int Mft, .int Msz, .int Mal, .ref ab, .int Mbs, .ref au, .int Mpl, .int Mbg, .int Mlo, .int 0, .int 1, .ref ah, .int Mhp, .int Mrs, .int Mrf, .ref ar, .int Mto, .int Mtb, .ref aw, .ref ay, .int Mfr, .int Mln, .int Mhb])), (ab, .inl (g.2.2.1, 4096, .inl MB)), (au, .inl (g.2.2.1, 400, .inl MU)), (ah, .inl (g.2.2.1, 4096, .inl MH)), (ar, .inl (g.2.2.1, 4096, .inl MR)), (aw, .inl (g.2.2.1, 100, .inl MW)), (ay, .inl (g.2.2.1, 100, .inl MY))]) C dX6_start_29 (fun w h => List.mem_cons_of_mem _ (List.mem_append_right _ h)) tyX6 tyX6_ok nmX6 0 rfl rfl 10 (by decide) (List.mem_of_getElem? (i := 1) rfl) rfl rfl (by decide +kernel) rfl rfl (Nat.le_of_ble_eq_true rfl) rfl ?_
      refine z_aload_n C dX6_start_32 rfl 0 rfl ?_
      refine z_aload_n C dX6_start_33 rfl 0 rfl ?_
      refine z_get (ci := 5) (v := .int Mfr) (Cn := RX6) (T := TX6) (N := 23) C dX6_start_34 (fun w h => List.mem_cons_of_mem _ (List.mem_append_right _ h)) 0 rfl rfl 20 (by decide) (List.mem_of_getElem? (i := 3) rfl) rfl rfl ?_
      refine z_put (ci := 5) (v := .int Mfr) (ty := .int) (Cn := RX6) (T := TX6) (N := 23) (ws' := [(M, .inr (5, [.int Mft, .int Msz, .int Mal, .ref ab, .int Mbs, .ref au, .int Mpl, .int Mbg, .int Mlo, .int 0, .int 1, .ref ah, .int Mfr, .int Mrs, .int Mrf, .ref ar, .int Mto, .int Mtb, .ref aw, .ref ay, .int Mfr, .int Mln, .int Mhb])), (ab, .inl (g.2.2.1, 4096, .inl MB)), (au, .inl (g.2.2.1, 400, .inl MU)), (ah, .inl (g.2.2.1, 4096, .inl MH)), (ar, .inl (g.2.2.1, 4096, .inl MR)), (aw, .inl (g.2.2.1, 100, .inl MW)), (ay, .inl (g.2.2.1, 100, .inl MY))]) C dX6_start_37 (fun w h => List.mem_cons_of_mem _ (List.mem_append_right _ h)) tyX6 tyX6_ok nmX6 0 rfl rfl 12 (by decide) (List.mem_of_getElem? (i := 4) rfl) rfl rfl (by decide +kernel) rfl rfl (Nat.le_of_ble_eq_true rfl) rfl ?_
      refine z_aload_n C dX6_start_40 rfl 0 rfl ?_
      refine z_callVv (n := 0) (isC := [0, 1, 2, 3, 4, 5, 6]) (isR := []) (isP := [0, 1, 2, 3, 4, 5, 6]) (As := []) (rest := []) (wr := []) (ws2 := [(M, .inr (5, [.int Mft, .int Msz, .int Mal, .ref ab, .int Mbs, .ref au, .int Mpl, .int Mbg, .int Mlo, .int ((f_X6_take MB MH 0 Mfr Mln).2), .int 1, .ref ah, .int Mfr, .int Mrs, .int Mrf, .ref ar, .int Mto, .int Mtb, .ref aw, .ref ay, .int Mfr, .int Mln, .int Mhb])), (ab, .inl (g.2.2.1, 4096, .inl MB)), (au, .inl (g.2.2.1, 400, .inl MU)), (ah, .inl (g.2.2.1, 4096, .inl ((f_X6_take MB MH 0 Mfr Mln).1))), (ar, .inl (g.2.2.1, 4096, .inl MR)), (aw, .inl (g.2.2.1, 100, .inl MW)), (ay, .inl (g.2.2.1, 100, .inl MY))]) C dX6_start_41 (c_X6_take (zl X) g M ab au ah ar aw ay MB MU MH MR MW MY Mft Msz Mal Mbs Mpl Mbg Mlo 0 1 Mfr Mrs Mrf Mto Mtb Mfr Mln Mhb hl hs) gX6_start_X6_take rfl ⟨rfl, rfl⟩ (by decide +kernel) (by decide) (by decide) rfl rfl rfl rfl (Nat.le_of_ble_eq_true rfl) rfl rfl ⟨rfl, rfl, rfl⟩ (by decide) rfl ?_
      generalize hT6 : (f_X6_take MB MH 0 Mfr Mln) = T6
      obtain ⟨MHq6, Mhsq6⟩ := T6
      have he : (f_X6_start MB MH MW MY Mhs Mhf Mto Mtb Mfr Mln) = (MHq6, MW, MY, Mhsq6, 1, Mfr, Mto, Mtb) := by simp only [f_X6_start, if_neg c_1, if_pos c_4, hT6]
      exact hret _ _ _ dX6_start_44 (by first | rw [he] | rfl)
    · skip
      refine z_aload_n C dX6_start_14 rfl 0 rfl ?_
      refine z_iconst (v := 4) C dX6_start_15 (by decide) ?_
      refine z_aload_n C dX6_start_16 rfl 0 rfl ?_
      refine z_get (ci := 5) (v := .int Mhs) (Cn := RX6) (T := TX6) (N := 23) C dX6_start_17 (fun w h => List.mem_cons_of_mem _ (List.mem_append_right _ h)) 0 rfl rfl 9 (by decide) (List.mem_of_getElem? (i := 2) rfl) rfl rfl ?_
      refine z_callVv (n := 2) (isC := [0, 1, 2, 3, 4, 5, 6]) (isR := []) (isP := [0, 1, 2, 3, 4, 5, 6]) (As := [.int 4, .int Mhs]) (rest := []) (wr := []) (ws2 := [(M, .inr (5, [.int Mft, .int Msz, .int Mal, .ref ab, .int Mbs, .ref au, .int Mpl, .int Mbg, .int Mlo, .int Mhs, .int Mhf, .ref ah, .int Mhp, .int Mrs, .int Mrf, .ref ar, .int ((f_X6_tell MW MY Mto Mtb 4 Mhs).2.2.1), .int ((f_X6_tell MW MY Mto Mtb 4 Mhs).2.2.2), .ref aw, .ref ay, .int Mfr, .int Mln, .int Mhb])), (ab, .inl (g.2.2.1, 4096, .inl MB)), (au, .inl (g.2.2.1, 400, .inl MU)), (ah, .inl (g.2.2.1, 4096, .inl MH)), (ar, .inl (g.2.2.1, 4096, .inl MR)), (aw, .inl (g.2.2.1, 100, .inl ((f_X6_tell MW MY Mto Mtb 4 Mhs).1))), (ay, .inl (g.2.2.1, 100, .inl ((f_X6_tell MW MY Mto Mtb 4 Mhs).2.1)))]) C dX6_start_20 (c_X6_tell (zl X) g M ab au ah ar aw ay MB MU MH MR MW MY Mft Msz Mal Mbs Mpl Mbg Mlo Mhs Mhf Mhp Mrs Mrf Mto Mtb Mfr Mln Mhb 4 Mhs ht) gX6_start_X6_tell rfl ⟨rfl, rfl⟩ (by decide +kernel) (by decide) (by decide) rfl rfl rfl rfl (Nat.le_of_ble_eq_true rfl) rfl rfl ⟨rfl, rfl, rfl⟩ (by decide) rfl ?_
      generalize hT7 : (f_X6_tell MW MY Mto Mtb 4 Mhs) = T7
      obtain ⟨MWq7, MYq7, Mtoq7, Mtbq7⟩ := T7
      have k7_Mto : zdok (0) Mtoq7 := zdok_X6_tell (zdok_le ht (by omega)) hT7
      refine z_aload_n C dX6_start_23 rfl 0 rfl ?_
      refine z_callVv (n := 0) (isC := [0, 1, 2, 3, 4, 5, 6]) (isR := []) (isP := [0, 1, 2, 3, 4, 5, 6]) (As := []) (rest := []) (wr := []) (ws2 := [(M, .inr (5, [.int Mft, .int Msz, .int Mal, .ref ab, .int Mbs, .ref au, .int Mpl, .int Mbg, .int Mlo, .int 0, .int 0, .ref ah, .int Mhp, .int Mrs, .int Mrf, .ref ar, .int Mtoq7, .int Mtbq7, .ref aw, .ref ay, .int Mfr, .int Mln, .int Mhb])), (ab, .inl (g.2.2.1, 4096, .inl MB)), (au, .inl (g.2.2.1, 400, .inl MU)), (ah, .inl (g.2.2.1, 4096, .inl MH)), (ar, .inl (g.2.2.1, 4096, .inl MR)), (aw, .inl (g.2.2.1, 100, .inl MWq7)), (ay, .inl (g.2.2.1, 100, .inl MYq7))]) C dX6_start_24 (c_X6_drop (zl X) g M ab au ah ar aw ay MB MU MH MR MWq7 MYq7 Mft Msz Mal Mbs Mpl Mbg Mlo Mhs Mhf Mhp Mrs Mrf Mtoq7 Mtbq7 Mfr Mln Mhb) gX6_start_X6_drop rfl ⟨rfl, rfl⟩ (by decide +kernel) (by decide) (by decide) rfl rfl rfl rfl (Nat.le_of_ble_eq_true rfl) rfl rfl ⟨rfl, rfl, rfl⟩ (by decide) rfl ?_
      refine z_aload_n C dX6_start_27 rfl 0 rfl ?_
      refine z_iconst (v := 1) C dX6_start_28 (by decide) ?_
      refine z_put (ci := 5) (v := .int 1) (ty := .boolean) (Cn := RX6) (T := TX6) (N := 23) (ws' := [(M, .inr (5, [.int Mft, .int Msz, .int Mal, .ref ab, .int Mbs, .ref au, .int Mpl, .int Mbg, .int Mlo, .int 0, .int 1, .ref ah, .int Mhp, .int Mrs, .int Mrf, .ref ar, .int Mtoq7, .int Mtbq7, .ref aw, .ref ay, .int Mfr, .int Mln, .int Mhb])), (ab, .inl (g.2.2.1, 4096, .inl MB)), (au, .inl (g.2.2.1, 400, .inl MU)), (ah, .inl (g.2.2.1, 4096, .inl MH)), (ar, .inl (g.2.2.1, 4096, .inl MR)), (aw, .inl (g.2.2.1, 100, .inl MWq7)), (ay, .inl (g.2.2.1, 100, .inl MYq7))]) C dX6_start_29 (fun w h => List.mem_cons_of_mem _ (List.mem_append_right _ h)) tyX6 tyX6_ok nmX6 0 rfl rfl 10 (by decide) (List.mem_of_getElem? (i := 1) rfl) rfl rfl (by decide +kernel) rfl rfl (Nat.le_of_ble_eq_true rfl) rfl ?_
      refine z_aload_n C dX6_start_32 rfl 0 rfl ?_
      refine z_aload_n C dX6_start_33 rfl 0 rfl ?_
      refine z_get (ci := 5) (v := .int Mfr) (Cn := RX6) (T := TX6) (N := 23) C dX6_start_34 (fun w h => List.mem_cons_of_mem _ (List.mem_append_right _ h)) 0 rfl rfl 20 (by decide) (List.mem_of_getElem? (i := 3) rfl) rfl rfl ?_
      refine z_put (ci := 5) (v := .int Mfr) (ty := .int) (Cn := RX6) (T := TX6) (N := 23) (ws' := [(M, .inr (5, [.int Mft, .int Msz, .int Mal, .ref ab, .int Mbs, .ref au, .int Mpl, .int Mbg, .int Mlo, .int 0, .int 1, .ref ah, .int Mfr, .int Mrs, .int Mrf, .ref ar, .int Mtoq7, .int Mtbq7, .ref aw, .ref ay, .int Mfr, .int Mln, .int Mhb])), (ab, .inl (g.2.2.1, 4096, .inl MB)), (au, .inl (g.2.2.1, 400, .inl MU)), (ah, .inl (g.2.2.1, 4096, .inl MH)), (ar, .inl (g.2.2.1, 4096, .inl MR)), (aw, .inl (g.2.2.1, 100, .inl MWq7)), (ay, .inl (g.2.2.1, 100, .inl MYq7))]) C dX6_start_37 (fun w h => List.mem_cons_of_mem _ (List.mem_append_right _ h)) tyX6 tyX6_ok nmX6 0 rfl rfl 12 (by decide) (List.mem_of_getElem? (i := 4) rfl) rfl rfl (by decide +kernel) rfl rfl (Nat.le_of_ble_eq_true rfl) rfl ?_
      refine z_aload_n C dX6_start_40 rfl 0 rfl ?_
      refine z_callVv (n := 0) (isC := [0, 1, 2, 3, 4, 5, 6]) (isR := []) (isP := [0, 1, 2, 3, 4, 5, 6]) (As := []) (rest := []) (wr := []) (ws2 := [(M, .inr (5, [.int Mft, .int Msz, .int Mal, .ref ab, .int Mbs, .ref au, .int Mpl, .int Mbg, .int Mlo, .int ((f_X6_take MB MH 0 Mfr Mln).2), .int 1, .ref ah, .int Mfr, .int Mrs, .int Mrf, .ref ar, .int Mtoq7, .int Mtbq7, .ref aw, .ref ay, .int Mfr, .int Mln, .int Mhb])), (ab, .inl (g.2.2.1, 4096, .inl MB)), (au, .inl (g.2.2.1, 400, .inl MU)), (ah, .inl (g.2.2.1, 4096, .inl ((f_X6_take MB MH 0 Mfr Mln).1))), (ar, .inl (g.2.2.1, 4096, .inl MR)), (aw, .inl (g.2.2.1, 100, .inl MWq7)), (ay, .inl (g.2.2.1, 100, .inl MYq7))]) C dX6_start_41 (c_X6_take (zl X) g M ab au ah ar aw ay MB MU MH MR MWq7 MYq7 Mft Msz Mal Mbs Mpl Mbg Mlo 0 1 Mfr Mrs Mrf Mtoq7 Mtbq7 Mfr Mln Mhb hl hs) gX6_start_X6_take rfl ⟨rfl, rfl⟩ (by decide +kernel) (by decide) (by decide) rfl rfl rfl rfl (Nat.le_of_ble_eq_true rfl) rfl rfl ⟨rfl, rfl, rfl⟩ (by decide) rfl ?_
      generalize hT9 : (f_X6_take MB MH 0 Mfr Mln) = T9
      obtain ⟨MHq9, Mhsq9⟩ := T9
      have he : (f_X6_start MB MH MW MY Mhs Mhf Mto Mtb Mfr Mln) = (MHq9, MWq7, MYq7, Mhsq9, 1, Mfr, Mtoq7, Mtbq7) := by simp only [f_X6_start, if_neg c_1, if_neg c_4, hT7, hT9]
      exact hret _ _ _ dX6_start_44 (by first | rw [he] | rfl)
def f_X6_octet (MR : Nat → Int32) (Mrs : Int32) (v : Int32) : Int32 × Int32 :=
  if (f_X6_isIn v 0 (Mrs - 1)) = 0 then
    ((-1), 0)
  else
    ((MR (v).toNatClampNeg), 0)
theorem zoct_in {a v r : Int32} (ha : zrs a) (h : f_X6_isIn v 0 (a - 1) = r) (c : ¬ r = 0) : vp_in v 4096 := by
  obtain ⟨h1, h2⟩ := zisIn h c
  obtain ⟨a1, a2⟩ := ha
  have o1 : (1 : Int32).toInt = 1 := rfl
  have e : (a - 1).toInt = a.toInt - 1 := by rw [zsub] <;> rw [o1] <;> omega
  exact zin_tw h1 h2 (by decide) (by omega)
set_option maxHeartbeats 4000000 in
set_option maxRecDepth 100000 in
theorem c_X6_octet (l : Launch) (g : zG) (M ab au ah ar aw ay : Nat) (MB : Nat → Int32) (MU : Nat → Int32) (MH : Nat → Int32) (MR : Nat → Int32) (MW : Nat → Int32) (MY : Nat → Int32) (Mft : Int32) (Msz : Int32) (Mal : Int32) (Mbs : Int32) (Mpl : Int32) (Mbg : Int32) (Mlo : Int32) (Mhs : Int32) (Mhf : Int32) (Mhp : Int32) (Mrs : Int32) (Mrf : Int32) (Mto : Int32) (Mtb : Int32) (Mfr : Int32) (Mln : Int32) (Mhb : Int32) (v : Int32) (hr : zrs Mrs) : zMI l yX6_octet wsX6_octet ({ frames := 1, cells := 0, slots := 0, locals := 22 }) g [.ref M, .int v] [(M, .inr (5, [.int Mft, .int Msz, .int Mal, .ref ab, .int Mbs, .ref au, .int Mpl, .int Mbg, .int Mlo, .int Mhs, .int Mhf, .ref ah, .int Mhp, .int Mrs, .int Mrf, .ref ar, .int Mto, .int Mtb, .ref aw, .ref ay, .int Mfr, .int Mln, .int Mhb])), (ab, .inl (g.2.2.1, 4096, .inl MB)), (au, .inl (g.2.2.1, 400, .inl MU)), (ah, .inl (g.2.2.1, 4096, .inl MH)), (ar, .inl (g.2.2.1, 4096, .inl MR)), (aw, .inl (g.2.2.1, 100, .inl MW)), (ay, .inl (g.2.2.1, 100, .inl MY))] ((f_X6_octet MR Mrs v).1) [(M, .inr (5, [.int ((f_X6_octet MR Mrs v).2), .int Msz, .int Mal, .ref ab, .int Mbs, .ref au, .int Mpl, .int Mbg, .int Mlo, .int Mhs, .int Mhf, .ref ah, .int Mhp, .int Mrs, .int Mrf, .ref ar, .int Mto, .int Mtb, .ref aw, .ref ay, .int Mfr, .int Mln, .int Mhb])), (ab, .inl (g.2.2.1, 4096, .inl MB)), (au, .inl (g.2.2.1, 400, .inl MU)), (ah, .inl (g.2.2.1, 4096, .inl MH)), (ar, .inl (g.2.2.1, 4096, .inl MR)), (aw, .inl (g.2.2.1, 100, .inl MW)), (ay, .inl (g.2.2.1, 100, .inl MY))] := by
  refine zMI_of (cc := cX6_octet) (nL := 2) (ty := .int) (by decide) rfl (Nat.le_of_ble_eq_true rfl) rfl ?_
  intro X C hret
  refine z_lv (lv' := [(0, .ref M), (1, .int v)]) [0, 1] rfl ?_
  refine z_aload_n C dX6_octet_0 rfl 0 rfl ?_
  refine z_iconst (v := 0) C dX6_octet_1 (by decide) ?_
  refine z_put (ci := 5) (v := .int 0) (ty := .int) (Cn := RX6) (T := TX6) (N := 23) (ws' := [(M, .inr (5, [.int 0, .int Msz, .int Mal, .ref ab, .int Mbs, .ref au, .int Mpl, .int Mbg, .int Mlo, .int Mhs, .int Mhf, .ref ah, .int Mhp, .int Mrs, .int Mrf, .ref ar, .int Mto, .int Mtb, .ref aw, .ref ay, .int Mfr, .int Mln, .int Mhb])), (ab, .inl (g.2.2.1, 4096, .inl MB)), (au, .inl (g.2.2.1, 400, .inl MU)), (ah, .inl (g.2.2.1, 4096, .inl MH)), (ar, .inl (g.2.2.1, 4096, .inl MR)), (aw, .inl (g.2.2.1, 100, .inl MW)), (ay, .inl (g.2.2.1, 100, .inl MY))]) C dX6_octet_2 (fun w h => List.mem_cons_of_mem _ (List.mem_append_right _ h)) tyX6 tyX6_ok nmX6 0 rfl rfl 0 (by decide) (List.mem_of_getElem? (i := 1) rfl) rfl rfl (by decide +kernel) rfl rfl (Nat.le_of_ble_eq_true rfl) rfl ?_
  refine z_iload_n C dX6_octet_5 rfl 1 rfl ?_
  refine z_iconst (v := 0) C dX6_octet_6 (by decide) ?_
  refine z_aload_n C dX6_octet_7 rfl 0 rfl ?_
  refine z_get (ci := 5) (v := .int Mrs) (Cn := RX6) (T := TX6) (N := 23) C dX6_octet_8 (fun w h => List.mem_cons_of_mem _ (List.mem_append_right _ h)) 0 rfl rfl 13 (by decide) (List.mem_of_getElem? (i := 2) rfl) rfl rfl ?_
  refine z_iconst (v := 1) C dX6_octet_11 (by decide) ?_
  refine z_isub C dX6_octet_12 ?_
  refine z_callSi (n := 3) (isC := []) (isR := [0, 1, 2, 3, 4, 5, 6]) (isP := [0, 1, 2, 3, 4, 5, 6]) (As := [.int v, .int 0, .int (Mrs - 1)]) (rest := []) (wr := [(M, .inr (5, [.int 0, .int Msz, .int Mal, .ref ab, .int Mbs, .ref au, .int Mpl, .int Mbg, .int Mlo, .int Mhs, .int Mhf, .ref ah, .int Mhp, .int Mrs, .int Mrf, .ref ar, .int Mto, .int Mtb, .ref aw, .ref ay, .int Mfr, .int Mln, .int Mhb])), (ab, .inl (g.2.2.1, 4096, .inl MB)), (au, .inl (g.2.2.1, 400, .inl MU)), (ah, .inl (g.2.2.1, 4096, .inl MH)), (ar, .inl (g.2.2.1, 4096, .inl MR)), (aw, .inl (g.2.2.1, 100, .inl MW)), (ay, .inl (g.2.2.1, 100, .inl MY))]) (ws2 := [(M, .inr (5, [.int 0, .int Msz, .int Mal, .ref ab, .int Mbs, .ref au, .int Mpl, .int Mbg, .int Mlo, .int Mhs, .int Mhf, .ref ah, .int Mhp, .int Mrs, .int Mrf, .ref ar, .int Mto, .int Mtb, .ref aw, .ref ay, .int Mfr, .int Mln, .int Mhb])), (ab, .inl (g.2.2.1, 4096, .inl MB)), (au, .inl (g.2.2.1, 400, .inl MU)), (ah, .inl (g.2.2.1, 4096, .inl MH)), (ar, .inl (g.2.2.1, 4096, .inl MR)), (aw, .inl (g.2.2.1, 100, .inl MW)), (ay, .inl (g.2.2.1, 100, .inl MY))]) C dX6_octet_13 (c_X6_isIn (zl X) g v 0 (Mrs - 1)) gX6_octet_X6_isIn rfl ⟨rfl, rfl⟩ (by decide +kernel) (by decide) (by decide) rfl rfl (Nat.le_of_ble_eq_true rfl) rfl rfl ⟨rfl, rfl, rfl⟩ (by decide) rfl ?_
  generalize hT1 : (f_X6_isIn v 0 (Mrs - 1)) = rq1
  refine z_if_eq (tgt := 28) C dX6_octet_16 (by decide) (fun c_2 => ?_) (fun c_2 => ?_)
  · skip
    refine z_iconst (v := (-1)) C dX6_octet_28 (by decide) ?_
    have he : (f_X6_octet MR Mrs v) = ((-1), 0) := by simp only [f_X6_octet, hT1, if_pos c_2]
    exact hret _ _ _ _ dX6_octet_29 (by first | rw [he] | rfl) (by first | rw [he] | rfl)
  · skip
    refine z_aload_n C dX6_octet_19 rfl 0 rfl ?_
    refine z_get (ci := 5) (v := .ref ar) (Cn := RX6) (T := TX6) (N := 23) C dX6_octet_20 (fun w h => List.mem_cons_of_mem _ (List.mem_append_right _ h)) 0 rfl rfl 15 (by decide) (List.mem_of_getElem? (i := 3) rfl) rfl rfl ?_
    refine z_iload_n C dX6_octet_23 rfl 1 rfl ?_
    refine z_iald C dX6_octet_24 4 rfl (zoct_in hr hT1 c_2) ?_
    refine z_goto (tgt := 29) C dX6_octet_25 (by decide) ?_
    have he : (f_X6_octet MR Mrs v) = ((MR (v).toNatClampNeg), 0) := by simp only [f_X6_octet, hT1, if_neg c_2]
    exact hret _ _ _ _ dX6_octet_29 (by first | rw [he] | rfl) (by first | rw [he] | rfl)
set_option maxHeartbeats 4000000 in
set_option maxRecDepth 100000 in
theorem c_X6_first (l : Launch) (g : zG) (M ab au ah ar aw ay : Nat) (MB : Nat → Int32) (MU : Nat → Int32) (MH : Nat → Int32) (MR : Nat → Int32) (MW : Nat → Int32) (MY : Nat → Int32) (Mft : Int32) (Msz : Int32) (Mal : Int32) (Mbs : Int32) (Mpl : Int32) (Mbg : Int32) (Mlo : Int32) (Mhs : Int32) (Mhf : Int32) (Mhp : Int32) (Mrs : Int32) (Mrf : Int32) (Mto : Int32) (Mtb : Int32) (Mfr : Int32) (Mln : Int32) (Mhb : Int32) : zMI l yX6_first wsX6_first ({ frames := 0, cells := 0, slots := 0, locals := 0 }) g [.ref M] [(M, .inr (5, [.int Mft, .int Msz, .int Mal, .ref ab, .int Mbs, .ref au, .int Mpl, .int Mbg, .int Mlo, .int Mhs, .int Mhf, .ref ah, .int Mhp, .int Mrs, .int Mrf, .ref ar, .int Mto, .int Mtb, .ref aw, .ref ay, .int Mfr, .int Mln, .int Mhb])), (ab, .inl (g.2.2.1, 4096, .inl MB)), (au, .inl (g.2.2.1, 400, .inl MU)), (ah, .inl (g.2.2.1, 4096, .inl MH)), (ar, .inl (g.2.2.1, 4096, .inl MR)), (aw, .inl (g.2.2.1, 100, .inl MW)), (ay, .inl (g.2.2.1, 100, .inl MY))] Mrf [(M, .inr (5, [.int 0, .int Msz, .int Mal, .ref ab, .int Mbs, .ref au, .int Mpl, .int Mbg, .int Mlo, .int Mhs, .int Mhf, .ref ah, .int Mhp, .int Mrs, .int Mrf, .ref ar, .int Mto, .int Mtb, .ref aw, .ref ay, .int Mfr, .int Mln, .int Mhb])), (ab, .inl (g.2.2.1, 4096, .inl MB)), (au, .inl (g.2.2.1, 400, .inl MU)), (ah, .inl (g.2.2.1, 4096, .inl MH)), (ar, .inl (g.2.2.1, 4096, .inl MR)), (aw, .inl (g.2.2.1, 100, .inl MW)), (ay, .inl (g.2.2.1, 100, .inl MY))] := by
  refine zMI_of (cc := cX6_first) (nL := 1) (ty := .int) (by decide) rfl (Nat.le_of_ble_eq_true rfl) rfl ?_
  intro X C hret
  refine z_lv (lv' := [(0, .ref M)]) [0] rfl ?_
  refine z_aload_n C dX6_first_0 rfl 0 rfl ?_
  refine z_iconst (v := 0) C dX6_first_1 (by decide) ?_
  refine z_put (ci := 5) (v := .int 0) (ty := .int) (Cn := RX6) (T := TX6) (N := 23) (ws' := [(M, .inr (5, [.int 0, .int Msz, .int Mal, .ref ab, .int Mbs, .ref au, .int Mpl, .int Mbg, .int Mlo, .int Mhs, .int Mhf, .ref ah, .int Mhp, .int Mrs, .int Mrf, .ref ar, .int Mto, .int Mtb, .ref aw, .ref ay, .int Mfr, .int Mln, .int Mhb])), (ab, .inl (g.2.2.1, 4096, .inl MB)), (au, .inl (g.2.2.1, 400, .inl MU)), (ah, .inl (g.2.2.1, 4096, .inl MH)), (ar, .inl (g.2.2.1, 4096, .inl MR)), (aw, .inl (g.2.2.1, 100, .inl MW)), (ay, .inl (g.2.2.1, 100, .inl MY))]) C dX6_first_2 (fun w h => List.mem_cons_of_mem _ (List.mem_append_right _ h)) tyX6 tyX6_ok nmX6 0 rfl rfl 0 (by decide) (List.mem_of_getElem? (i := 1) rfl) rfl rfl (by decide +kernel) rfl rfl (Nat.le_of_ble_eq_true rfl) rfl ?_
  refine z_aload_n C dX6_first_5 rfl 0 rfl ?_
  refine z_get (ci := 5) (v := .int Mrf) (Cn := RX6) (T := TX6) (N := 23) C dX6_first_6 (fun w h => List.mem_cons_of_mem _ (List.mem_append_right _ h)) 0 rfl rfl 14 (by decide) (List.mem_of_getElem? (i := 2) rfl) rfl rfl ?_
  exact hret _ _ _ _ dX6_first_9 rfl rfl
def f_X6_log (MB : Nat → Int32) (Mal : Int32) (v : Int32) : Int32 × Int32 :=
  if (f_X6_isIn v 0 (Mal - 1)) = 0 then
    ((-1), 0)
  else
    ((MB (v).toNatClampNeg), 0)
set_option maxHeartbeats 4000000 in
set_option maxRecDepth 100000 in
theorem c_X6_log (l : Launch) (g : zG) (M ab au ah ar aw ay : Nat) (MB : Nat → Int32) (MU : Nat → Int32) (MH : Nat → Int32) (MR : Nat → Int32) (MW : Nat → Int32) (MY : Nat → Int32) (Mft : Int32) (Msz : Int32) (Mal : Int32) (Mbs : Int32) (Mpl : Int32) (Mbg : Int32) (Mlo : Int32) (Mhs : Int32) (Mhf : Int32) (Mhp : Int32) (Mrs : Int32) (Mrf : Int32) (Mto : Int32) (Mtb : Int32) (Mfr : Int32) (Mln : Int32) (Mhb : Int32) (v : Int32) (ha : zok 4096 Mal) : zMI l yX6_log wsX6_log ({ frames := 1, cells := 0, slots := 0, locals := 22 }) g [.ref M, .int v] [(M, .inr (5, [.int Mft, .int Msz, .int Mal, .ref ab, .int Mbs, .ref au, .int Mpl, .int Mbg, .int Mlo, .int Mhs, .int Mhf, .ref ah, .int Mhp, .int Mrs, .int Mrf, .ref ar, .int Mto, .int Mtb, .ref aw, .ref ay, .int Mfr, .int Mln, .int Mhb])), (ab, .inl (g.2.2.1, 4096, .inl MB)), (au, .inl (g.2.2.1, 400, .inl MU)), (ah, .inl (g.2.2.1, 4096, .inl MH)), (ar, .inl (g.2.2.1, 4096, .inl MR)), (aw, .inl (g.2.2.1, 100, .inl MW)), (ay, .inl (g.2.2.1, 100, .inl MY))] ((f_X6_log MB Mal v).1) [(M, .inr (5, [.int ((f_X6_log MB Mal v).2), .int Msz, .int Mal, .ref ab, .int Mbs, .ref au, .int Mpl, .int Mbg, .int Mlo, .int Mhs, .int Mhf, .ref ah, .int Mhp, .int Mrs, .int Mrf, .ref ar, .int Mto, .int Mtb, .ref aw, .ref ay, .int Mfr, .int Mln, .int Mhb])), (ab, .inl (g.2.2.1, 4096, .inl MB)), (au, .inl (g.2.2.1, 400, .inl MU)), (ah, .inl (g.2.2.1, 4096, .inl MH)), (ar, .inl (g.2.2.1, 4096, .inl MR)), (aw, .inl (g.2.2.1, 100, .inl MW)), (ay, .inl (g.2.2.1, 100, .inl MY))] := by
  refine zMI_of (cc := cX6_log) (nL := 2) (ty := .int) (by decide) rfl (Nat.le_of_ble_eq_true rfl) rfl ?_
  intro X C hret
  refine z_lv (lv' := [(0, .ref M), (1, .int v)]) [0, 1] rfl ?_
  refine z_aload_n C dX6_log_0 rfl 0 rfl ?_
  refine z_iconst (v := 0) C dX6_log_1 (by decide) ?_
  refine z_put (ci := 5) (v := .int 0) (ty := .int) (Cn := RX6) (T := TX6) (N := 23) (ws' := [(M, .inr (5, [.int 0, .int Msz, .int Mal, .ref ab, .int Mbs, .ref au, .int Mpl, .int Mbg, .int Mlo, .int Mhs, .int Mhf, .ref ah, .int Mhp, .int Mrs, .int Mrf, .ref ar, .int Mto, .int Mtb, .ref aw, .ref ay, .int Mfr, .int Mln, .int Mhb])), (ab, .inl (g.2.2.1, 4096, .inl MB)), (au, .inl (g.2.2.1, 400, .inl MU)), (ah, .inl (g.2.2.1, 4096, .inl MH)), (ar, .inl (g.2.2.1, 4096, .inl MR)), (aw, .inl (g.2.2.1, 100, .inl MW)), (ay, .inl (g.2.2.1, 100, .inl MY))]) C dX6_log_2 (fun w h => List.mem_cons_of_mem _ (List.mem_append_right _ h)) tyX6 tyX6_ok nmX6 0 rfl rfl 0 (by decide) (List.mem_of_getElem? (i := 1) rfl) rfl rfl (by decide +kernel) rfl rfl (Nat.le_of_ble_eq_true rfl) rfl ?_
  refine z_iload_n C dX6_log_5 rfl 1 rfl ?_
  refine z_iconst (v := 0) C dX6_log_6 (by decide) ?_
  refine z_aload_n C dX6_log_7 rfl 0 rfl ?_
  refine z_get (ci := 5) (v := .int Mal) (Cn := RX6) (T := TX6) (N := 23) C dX6_log_8 (fun w h => List.mem_cons_of_mem _ (List.mem_append_right _ h)) 0 rfl rfl 2 (by decide) (List.mem_of_getElem? (i := 2) rfl) rfl rfl ?_
  refine z_iconst (v := 1) C dX6_log_11 (by decide) ?_
  refine z_isub C dX6_log_12 ?_
  refine z_callSi (n := 3) (isC := []) (isR := [0, 1, 2, 3, 4, 5, 6]) (isP := [0, 1, 2, 3, 4, 5, 6]) (As := [.int v, .int 0, .int (Mal - 1)]) (rest := []) (wr := [(M, .inr (5, [.int 0, .int Msz, .int Mal, .ref ab, .int Mbs, .ref au, .int Mpl, .int Mbg, .int Mlo, .int Mhs, .int Mhf, .ref ah, .int Mhp, .int Mrs, .int Mrf, .ref ar, .int Mto, .int Mtb, .ref aw, .ref ay, .int Mfr, .int Mln, .int Mhb])), (ab, .inl (g.2.2.1, 4096, .inl MB)), (au, .inl (g.2.2.1, 400, .inl MU)), (ah, .inl (g.2.2.1, 4096, .inl MH)), (ar, .inl (g.2.2.1, 4096, .inl MR)), (aw, .inl (g.2.2.1, 100, .inl MW)), (ay, .inl (g.2.2.1, 100, .inl MY))]) (ws2 := [(M, .inr (5, [.int 0, .int Msz, .int Mal, .ref ab, .int Mbs, .ref au, .int Mpl, .int Mbg, .int Mlo, .int Mhs, .int Mhf, .ref ah, .int Mhp, .int Mrs, .int Mrf, .ref ar, .int Mto, .int Mtb, .ref aw, .ref ay, .int Mfr, .int Mln, .int Mhb])), (ab, .inl (g.2.2.1, 4096, .inl MB)), (au, .inl (g.2.2.1, 400, .inl MU)), (ah, .inl (g.2.2.1, 4096, .inl MH)), (ar, .inl (g.2.2.1, 4096, .inl MR)), (aw, .inl (g.2.2.1, 100, .inl MW)), (ay, .inl (g.2.2.1, 100, .inl MY))]) C dX6_log_13 (c_X6_isIn (zl X) g v 0 (Mal - 1)) gX6_log_X6_isIn rfl ⟨rfl, rfl⟩ (by decide +kernel) (by decide) (by decide) rfl rfl (Nat.le_of_ble_eq_true rfl) rfl rfl ⟨rfl, rfl, rfl⟩ (by decide) rfl ?_
  generalize hT1 : (f_X6_isIn v 0 (Mal - 1)) = rq1
  refine z_if_eq (tgt := 28) C dX6_log_16 (by decide) (fun c_2 => ?_) (fun c_2 => ?_)
  · skip
    refine z_iconst (v := (-1)) C dX6_log_28 (by decide) ?_
    have he : (f_X6_log MB Mal v) = ((-1), 0) := by simp only [f_X6_log, hT1, if_pos c_2]
    exact hret _ _ _ _ dX6_log_29 (by first | rw [he] | rfl) (by first | rw [he] | rfl)
  · skip
    refine z_aload_n C dX6_log_19 rfl 0 rfl ?_
    refine z_get (ci := 5) (v := .ref ab) (Cn := RX6) (T := TX6) (N := 23) C dX6_log_20 (fun w h => List.mem_cons_of_mem _ (List.mem_append_right _ h)) 0 rfl rfl 3 (by decide) (List.mem_of_getElem? (i := 3) rfl) rfl rfl ?_
    refine z_iload_n C dX6_log_23 rfl 1 rfl ?_
    refine z_iald C dX6_log_24 1 rfl (zput_in ha hT1 c_2) ?_
    refine z_goto (tgt := 29) C dX6_log_25 (by decide) ?_
    have he : (f_X6_log MB Mal v) = ((MB (v).toNatClampNeg), 0) := by simp only [f_X6_log, hT1, if_neg c_2]
    exact hret _ _ _ _ dX6_log_29 (by first | rw [he] | rfl) (by first | rw [he] | rfl)
