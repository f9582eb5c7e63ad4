def bc_X6_fragment (MB : Nat → Int32) (Mpl_ : Int32) (k : Int32) (z_ : Int32) : Int32 :=
  match z_ with
  | w =>
    (f_X6_more w (MB (((Mpl_ + 6) + k)).toNatClampNeg))
def lpc_X6_fragment (MB : Nat → Int32) (Mpl_ : Int32) (z_ : Int32) : Nat → Int32
  | 0 => z_
  | i + 1 => bc_X6_fragment MB Mpl_ (nI i) (lpc_X6_fragment MB Mpl_ z_ i)
def lp_X6_fragment (MB : Nat → Int32) (MW : Nat → Int32) (MY : Nat → Int32) (Msz : Int32) (Mal : Int32) (Mbg : Int32) (Mto : Int32) (Mtb : Int32) (Mfr : Int32) (Mln : Int32) : Nat → Int32 → Int32 → Int32 → Int32 × (Nat → Int32) × (Nat → Int32) × Int32 × Int32 × Int32 × Int32 × Int32
  | 0, _, _, _ => (0, fun _ => 0, fun _ => 0, 0, 0, 0, 0, 0)
  | n + 1, iw, en, Mpl_ =>
    if 7 ≤ (en - Mpl_) then
      if (7 + ((MB ((Mpl_ + 4)).toNatClampNeg) ||| ((MB ((Mpl_ + 5)).toNatClampNeg) <<< ((8 : Int32) &&& 31)))) ≤ (en - Mpl_) then
        if (MB ((Mpl_ + 6)).toNatClampNeg) = 0 then
          if ((MB ((Mpl_ + 4)).toNatClampNeg) ||| ((MB ((Mpl_ + 5)).toNatClampNeg) <<< ((8 : Int32) &&& 31))) = 0 then
            ((-2), MW, MY, en, Mto, Mtb, Mpl_, ((MB ((Mpl_ + 4)).toNatClampNeg) ||| ((MB ((Mpl_ + 5)).toNatClampNeg) <<< ((8 : Int32) &&& 31))))
          else
            if (((zUshr ((lpc_X6_fragment MB Mpl_ (-1) ((((MB ((Mpl_ + 4)).toNatClampNeg) ||| ((MB ((Mpl_ + 5)).toNatClampNeg) <<< ((8 : Int32) &&& 31))) + 1)).toNatClampNeg) ^^^ (-1)) 15) ||| (((lpc_X6_fragment MB Mpl_ (-1) ((((MB ((Mpl_ + 4)).toNatClampNeg) ||| ((MB ((Mpl_ + 5)).toNatClampNeg) <<< ((8 : Int32) &&& 31))) + 1)).toNatClampNeg) ^^^ (-1)) <<< ((17 : Int32) &&& 31))) + (-1568478504)) = ((((MB (Mpl_).toNatClampNeg) ||| ((MB ((Mpl_ + 1)).toNatClampNeg) <<< ((8 : Int32) &&& 31))) ||| ((MB ((Mpl_ + 2)).toNatClampNeg) <<< ((16 : Int32) &&& 31))) ||| ((MB ((Mpl_ + 3)).toNatClampNeg) <<< ((24 : Int32) &&& 31))) then
              if Mbg ≤ Mpl_ then
                ((MB ((Mpl_ + 6)).toNatClampNeg), MW, MY, ((Mpl_ + 7) + ((MB ((Mpl_ + 4)).toNatClampNeg) ||| ((MB ((Mpl_ + 5)).toNatClampNeg) <<< ((8 : Int32) &&& 31)))), Mto, Mtb, Mpl_, ((MB ((Mpl_ + 4)).toNatClampNeg) ||| ((MB ((Mpl_ + 5)).toNatClampNeg) <<< ((8 : Int32) &&& 31))))
              else
                ((-2), MW, MY, ((Mpl_ + 7) + ((MB ((Mpl_ + 4)).toNatClampNeg) ||| ((MB ((Mpl_ + 5)).toNatClampNeg) <<< ((8 : Int32) &&& 31)))), Mto, Mtb, Mpl_, ((MB ((Mpl_ + 4)).toNatClampNeg) ||| ((MB ((Mpl_ + 5)).toNatClampNeg) <<< ((8 : Int32) &&& 31))))
            else
              match (f_X6_tell MW MY Mto Mtb 2 (en - Mpl_)) with
              | (MWq18, MYq18, Mtoq18, Mtbq18) =>
                ((-2), MWq18, MYq18, en, Mtoq18, Mtbq18, Mpl_, ((MB ((Mpl_ + 4)).toNatClampNeg) ||| ((MB ((Mpl_ + 5)).toNatClampNeg) <<< ((8 : Int32) &&& 31))))
        else
          if (((zUshr ((lpc_X6_fragment MB Mpl_ (-1) ((((MB ((Mpl_ + 4)).toNatClampNeg) ||| ((MB ((Mpl_ + 5)).toNatClampNeg) <<< ((8 : Int32) &&& 31))) + 1)).toNatClampNeg) ^^^ (-1)) 15) ||| (((lpc_X6_fragment MB Mpl_ (-1) ((((MB ((Mpl_ + 4)).toNatClampNeg) ||| ((MB ((Mpl_ + 5)).toNatClampNeg) <<< ((8 : Int32) &&& 31))) + 1)).toNatClampNeg) ^^^ (-1)) <<< ((17 : Int32) &&& 31))) + (-1568478504)) = ((((MB (Mpl_).toNatClampNeg) ||| ((MB ((Mpl_ + 1)).toNatClampNeg) <<< ((8 : Int32) &&& 31))) ||| ((MB ((Mpl_ + 2)).toNatClampNeg) <<< ((16 : Int32) &&& 31))) ||| ((MB ((Mpl_ + 3)).toNatClampNeg) <<< ((24 : Int32) &&& 31))) then
            if Mbg ≤ Mpl_ then
              ((MB ((Mpl_ + 6)).toNatClampNeg), MW, MY, ((Mpl_ + 7) + ((MB ((Mpl_ + 4)).toNatClampNeg) ||| ((MB ((Mpl_ + 5)).toNatClampNeg) <<< ((8 : Int32) &&& 31)))), Mto, Mtb, Mpl_, ((MB ((Mpl_ + 4)).toNatClampNeg) ||| ((MB ((Mpl_ + 5)).toNatClampNeg) <<< ((8 : Int32) &&& 31))))
            else
              ((-2), MW, MY, ((Mpl_ + 7) + ((MB ((Mpl_ + 4)).toNatClampNeg) ||| ((MB ((Mpl_ + 5)).toNatClampNeg) <<< ((8 : Int32) &&& 31)))), Mto, Mtb, Mpl_, ((MB ((Mpl_ + 4)).toNatClampNeg) ||| ((MB ((Mpl_ + 5)).toNatClampNeg) <<< ((8 : Int32) &&& 31))))
          else
            match (f_X6_tell MW MY Mto Mtb 2 (en - Mpl_)) with
            | (MWq10, MYq10, Mtoq10, Mtbq10) =>
              ((-2), MWq10, MYq10, en, Mtoq10, Mtbq10, Mpl_, ((MB ((Mpl_ + 4)).toNatClampNeg) ||| ((MB ((Mpl_ + 5)).toNatClampNeg) <<< ((8 : Int32) &&& 31))))
      else
        if iw = 0 then
          ((-1), MW, MY, Mpl_, Mto, Mtb, Mpl_, ((MB ((Mpl_ + 4)).toNatClampNeg) ||| ((MB ((Mpl_ + 5)).toNatClampNeg) <<< ((8 : Int32) &&& 31))))
        else
          match (f_X6_tell MW MY Mto Mtb 1 (en - Mpl_)) with
          | (MWq22, MYq22, Mtoq22, Mtbq22) =>
            ((-2), MWq22, MYq22, en, Mtoq22, Mtbq22, Mpl_, ((MB ((Mpl_ + 4)).toNatClampNeg) ||| ((MB ((Mpl_ + 5)).toNatClampNeg) <<< ((8 : Int32) &&& 31))))
    else
      if iw = 0 then
        ((-1), MW, MY, Mpl_, Mto, Mtb, Mfr, Mln)
      else
        if Mal < (en + Msz) then
          lp_X6_fragment MB MW MY Msz Mal Mbg Mto Mtb Mfr Mln n 0 Mal en
        else
          lp_X6_fragment MB MW MY Msz Mal Mbg Mto Mtb Mfr Mln n 1 (en + Msz) en
def f_X6_fragment (MB : Nat → Int32) (MW : Nat → Int32) (MY : Nat → Int32) (Msz : Int32) (Mal : Int32) (Mpl : Int32) (Mbg : Int32) (Mto : Int32) (Mtb : Int32) (Mfr : Int32) (Mln : Int32) : Int32 × (Nat → Int32) × (Nat → Int32) × Int32 × Int32 × Int32 × Int32 × Int32 :=
  if Mal < (((Mpl / Msz) + 1) * Msz) then
    lp_X6_fragment MB MW MY Msz Mal Mbg Mto Mtb Mfr Mln 4 0 Mal Mpl
  else
    lp_X6_fragment MB MW MY Msz Mal Mbg Mto Mtb Mfr Mln 4 1 (((Mpl / Msz) + 1) * Msz) Mpl
theorem zdok_lp_X6_fragment {k : Nat} {MB MW MY : Nat → Int32} {z al bg to tb fr ln : Int32} (hd : zdok (k + 1) to) : ∀ (n : Nat) (iw en pl : Int32), zdok k (lp_X6_fragment MB MW MY z al bg to tb fr ln n iw en pl).2.2.2.2.1 := by
  intro n
  induction n with
  | zero => intro iw en pl; show zdok k 0; exact ⟨by decide, by have := hd.1; have := hd.2; have o : (0 : Int32).toInt = 0 := rfl; omega⟩
  | succ n ih =>
    intro iw en pl
    unfold lp_X6_fragment
    split
    · split
      · split
        · split
          · exact zdok_le hd (by omega)
          · split
            · split <;> exact zdok_le hd (by omega)
            · split
              next e => exact zdok_X6_tell hd e
        · split
          · split <;> exact zdok_le hd (by omega)
          · split
            next e => exact zdok_X6_tell hd e
      · split
        · exact zdok_le hd (by omega)
        · split
          next e => exact zdok_X6_tell hd e
    · split
      · exact zdok_le hd (by omega)
      · split <;> exact ih _ _ _
theorem zdok_X6_fragment {k : Nat} {MB MW MY W1 Y1 : Nat → Int32} {z al pl bg to tb fr ln r p1 t1 b1 f1 l1 : Int32} (hd : zdok (k + 1) to) (e : f_X6_fragment MB MW MY z al pl bg to tb fr ln = (r, W1, Y1, p1, t1, b1, f1, l1)) : zdok k t1 := by
  unfold f_X6_fragment at e
  split at e
  · have h := zdok_lp_X6_fragment (MB := MB) (MW := MW) (MY := MY) (z := z) (al := al) (bg := bg) (tb := tb) (fr := fr) (ln := ln) hd 4 0 al pl
    rw [e] at h
    exact h
  · have h := zdok_lp_X6_fragment (MB := MB) (MW := MW) (MY := MY) (z := z) (al := al) (bg := bg) (tb := tb) (fr := fr) (ln := ln) hd 4 1 (((pl / z) + 1) * z) pl
    rw [e] at h
    exact h
set_option maxHeartbeats 4000000 in
set_option maxRecDepth 100000 in
theorem c_X6_fragment (l : Launch) (g : zG) (M ab au ah ar aw ay : Nat) (MB : Nat → Int32) (MU : Nat → Int32) (MH : Nat → Int32) (MR : Nat → Int32) (MW : Nat → Int32) (MY : Nat → Int32) (Mft : Int32) (Msz : Int32) (Mal : Int32) (Mbs : Int32) (Mpl : Int32) (Mbg : Int32) (Mlo : Int32) (Mhs : Int32) (Mhf : Int32) (Mhp : Int32) (Mrs : Int32) (Mrf : Int32) (Mto : Int32) (Mtb : Int32) (Mfr : Int32) (Mln : Int32) (Mhb : Int32) (hz : zsz Msz) (ha : zok 4096 Mal) (hB : zby 4096 MB) (hpl : zpl Mpl) (ht : zdok 1 Mto) : zMI l yX6_fragment wsX6_fragment ({ frames := 1, cells := 0, slots := 0, locals := 23 }) g [.ref M] [(M, .inr (5, [.int Mft, .int Msz, .int Mal, .ref ab, .int Mbs, .ref au, .int Mpl, .int Mbg, .int Mlo, .int Mhs, .int Mhf, .ref ah, .int Mhp, .int Mrs, .int Mrf, .ref ar, .int Mto, .int Mtb, .ref aw, .ref ay, .int Mfr, .int Mln, .int Mhb])), (ab, .inl (g.2.2.1, 4096, .inl MB)), (au, .inl (g.2.2.1, 400, .inl MU)), (ah, .inl (g.2.2.1, 4096, .inl MH)), (ar, .inl (g.2.2.1, 4096, .inl MR)), (aw, .inl (g.2.2.1, 100, .inl MW)), (ay, .inl (g.2.2.1, 100, .inl MY))] ((f_X6_fragment MB MW MY Msz Mal Mpl Mbg Mto Mtb Mfr Mln).1) [(M, .inr (5, [.int Mft, .int Msz, .int Mal, .ref ab, .int Mbs, .ref au, .int ((f_X6_fragment MB MW MY Msz Mal Mpl Mbg Mto Mtb Mfr Mln).2.2.2.1), .int Mbg, .int Mlo, .int Mhs, .int Mhf, .ref ah, .int Mhp, .int Mrs, .int Mrf, .ref ar, .int ((f_X6_fragment MB MW MY Msz Mal Mpl Mbg Mto Mtb Mfr Mln).2.2.2.2.1), .int ((f_X6_fragment MB MW MY Msz Mal Mpl Mbg Mto Mtb Mfr Mln).2.2.2.2.2.1), .ref aw, .ref ay, .int ((f_X6_fragment MB MW MY Msz Mal Mpl Mbg Mto Mtb Mfr Mln).2.2.2.2.2.2.1), .int ((f_X6_fragment MB MW MY Msz Mal Mpl Mbg Mto Mtb Mfr Mln).2.2.2.2.2.2.2), .int Mhb])), (ab, .inl (g.2.2.1, 4096, .inl MB)), (au, .inl (g.2.2.1, 400, .inl MU)), (ah, .inl (g.2.2.1, 4096, .inl MH)), (ar, .inl (g.2.2.1, 4096, .inl MR)), (aw, .inl (g.2.2.1, 100, .inl ((f_X6_fragment MB MW MY Msz Mal Mpl Mbg Mto Mtb Mfr Mln).2.1))), (ay, .inl (g.2.2.1, 100, .inl ((f_X6_fragment MB MW MY Msz Mal Mpl Mbg Mto Mtb Mfr Mln).2.2.1)))] := by
  refine zMI_of (cc := cX6_fragment) (nL := 7) (ty := .int) (by decide) rfl (Nat.le_of_ble_eq_true rfl) rfl ?_
  intro X C hret
  refine z_lv (lv' := [(0, .ref M)]) [0] rfl ?_
  refine z_aload_n C dX6_fragment_0 rfl 0 rfl ?_
  refine z_get (ci := 5) (v := .int Mpl) (Cn := RX6) (T := TX6) (N := 23) C dX6_fragment_1 (fun w h => List.mem_cons_of_mem _ (List.mem_append_right _ h)) 0 rfl rfl 6 (by decide) (List.mem_of_getElem? (i := 1) rfl) rfl rfl ?_
  refine z_aload_n C dX6_fragment_4 rfl 0 rfl ?_
  refine z_get (ci := 5) (v := .int Msz) (Cn := RX6) (T := TX6) (N := 23) C dX6_fragment_5 (fun w h => List.mem_cons_of_mem _ (List.mem_append_right _ h)) 0 rfl rfl 1 (by decide) (List.mem_of_getElem? (i := 2) rfl) rfl rfl ?_
  refine z_idiv C dX6_fragment_8 (zsz_ne hz) ?_
  refine z_iconst (v := 1) C dX6_fragment_9 (by decide) ?_
  refine z_iadd C dX6_fragment_10 ?_
  refine z_aload_n C dX6_fragment_11 rfl 0 rfl ?_
  refine z_get (ci := 5) (v := .int Msz) (Cn := RX6) (T := TX6) (N := 23) C dX6_fragment_12 (fun w h => List.mem_cons_of_mem _ (List.mem_append_right _ h)) 0 rfl rfl 1 (by decide) (List.mem_of_getElem? (i := 2) rfl) rfl rfl ?_
  refine z_imul C dX6_fragment_15 ?_
  refine z_aload_n C dX6_fragment_16 rfl 0 rfl ?_
  refine z_get (ci := 5) (v := .int Mal) (Cn := RX6) (T := TX6) (N := 23) C dX6_fragment_17 (fun w h => List.mem_cons_of_mem _ (List.mem_append_right _ h)) 0 rfl rfl 2 (by decide) (List.mem_of_getElem? (i := 3) rfl) rfl rfl ?_
  refine z_icmp_gt (tgt := 27) C dX6_fragment_20 (by decide) (fun c_1 => ?_) (fun c_1 => ?_)
  · skip
    refine z_iconst (v := 0) C dX6_fragment_27 (by decide) ?_
    refine z_istore_n (lv' := [(1, .int 0), (0, .ref M)]) C dX6_fragment_28 rfl (by decide) rfl ?_
    refine z_iload_n C dX6_fragment_29 rfl 0 rfl ?_
    refine z_if_eq (tgt := 52) C dX6_fragment_30 (by decide) (fun c_2 => ?_) (fun c_2 => absurd (by decide) c_2)
    refine z_aload_n C dX6_fragment_52 rfl 1 rfl ?_
    refine z_get (ci := 5) (v := .int Mal) (Cn := RX6) (T := TX6) (N := 23) C dX6_fragment_53 (fun w h => List.mem_cons_of_mem _ (List.mem_append_right _ h)) 0 rfl rfl 2 (by decide) (List.mem_of_getElem? (i := 3) rfl) rfl rfl ?_
    refine z_istore_n (lv' := [(2, .int Mal), (1, .int 0), (0, .ref M)]) C dX6_fragment_56 rfl (by decide) rfl ?_
    have loop : ∀ (n : Nat) (iw : Int32) (en : Int32) (Mpl_ : Int32), zfr Msz Mal n iw en Mpl_ → lp_X6_fragment MB MW MY Msz Mal Mbg Mto Mtb Mfr Mln n iw en Mpl_ = (f_X6_fragment MB MW MY Msz Mal Mpl Mbg Mto Mtb Mfr Mln) → zV X g 7 0 0 57 [(0, .ref M), (1, .int iw), (2, .int en)] [] [(M, .inr (5, [.int Mft, .int Msz, .int Mal, .ref ab, .int Mbs, .ref au, .int Mpl_, .int Mbg, .int Mlo, .int Mhs, .int Mhf, .ref ah, .int Mhp, .int Mrs, .int Mrf, .ref ar, .int Mto, .int Mtb, .ref aw, .ref ay, .int Mfr, .int Mln, .int Mhb])), (ab, .inl (g.2.2.1, 4096, .inl MB)), (au, .inl (g.2.2.1, 400, .inl MU)), (ah, .inl (g.2.2.1, 4096, .inl MH)), (ar, .inl (g.2.2.1, 4096, .inl MR)), (aw, .inl (g.2.2.1, 100, .inl MW)), (ay, .inl (g.2.2.1, 100, .inl MY))] := by
      intro n
      induction n with
      | zero =>
        intro iw en Mpl_ hp hv
        exact absurd (zfr_z hp) id
      | succ n ih =>
        intro iw en Mpl_ hp hv
        refine z_iload_n C dX6_fragment_57 rfl 2 rfl ?_
        refine z_aload_n C dX6_fragment_58 rfl 0 rfl ?_
        refine z_get (ci := 5) (v := .int Mpl_) (Cn := RX6) (T := TX6) (N := 23) C dX6_fragment_59 (fun w h => List.mem_cons_of_mem _ (List.mem_append_right _ h)) 0 rfl rfl 6 (by decide) (List.mem_of_getElem? (i := 1) rfl) rfl rfl ?_
        refine z_isub C dX6_fragment_62 ?_
        refine z_bipush (v := 7) C dX6_fragment_63 (by decide) ?_
        refine z_icmp_ge (tgt := 125) C dX6_fragment_65 (by decide) (fun c_3 => ?_) (fun c_3 => ?_)
        · skip
          refine z_aload_n C dX6_fragment_125 rfl 0 rfl ?_
          refine z_aload_n C dX6_fragment_126 rfl 0 rfl ?_
          refine z_get (ci := 5) (v := .int Mpl_) (Cn := RX6) (T := TX6) (N := 23) C dX6_fragment_127 (fun w h => List.mem_cons_of_mem _ (List.mem_append_right _ h)) 0 rfl rfl 6 (by decide) (List.mem_of_getElem? (i := 1) rfl) rfl rfl ?_
          refine z_put (ci := 5) (v := .int Mpl_) (ty := .int) (Cn := RX6) (T := TX6) (N := 23) (ws' := [(M, .inr (5, [.int Mft, .int Msz, .int Mal, .ref ab, .int Mbs, .ref au, .int Mpl_, .int Mbg, .int Mlo, .int Mhs, .int Mhf, .ref ah, .int Mhp, .int Mrs, .int Mrf, .ref ar, .int Mto, .int Mtb, .ref aw, .ref ay, .int Mpl_, .int Mln, .int Mhb])), (ab, .inl (g.2.2.1, 4096, .inl MB)), (au, .inl (g.2.2.1, 400, .inl MU)), (ah, .inl (g.2.2.1, 4096, .inl MH)), (ar, .inl (g.2.2.1, 4096, .inl MR)), (aw, .inl (g.2.2.1, 100, .inl MW)), (ay, .inl (g.2.2.1, 100, .inl MY))]) C dX6_fragment_130 (fun w h => List.mem_cons_of_mem _ (List.mem_append_right _ h)) tyX6 tyX6_ok nmX6 0 rfl rfl 20 (by decide) (List.mem_of_getElem? (i := 4) rfl) rfl rfl (by decide +kernel) rfl rfl (Nat.le_of_ble_eq_true rfl) rfl ?_
          refine z_aload_n C dX6_fragment_133 rfl 0 rfl ?_
          refine z_aload_n C dX6_fragment_134 rfl 0 rfl ?_
          refine z_get (ci := 5) (v := .ref ab) (Cn := RX6) (T := TX6) (N := 23) C dX6_fragment_135 (fun w h => List.mem_cons_of_mem _ (List.mem_append_right _ h)) 0 rfl rfl 3 (by decide) (List.mem_of_getElem? (i := 5) rfl) rfl rfl ?_
          refine z_aload_n C dX6_fragment_138 rfl 0 rfl ?_
          refine z_get (ci := 5) (v := .int Mpl_) (Cn := RX6) (T := TX6) (N := 23) C dX6_fragment_139 (fun w h => List.mem_cons_of_mem _ (List.mem_append_right _ h)) 0 rfl rfl 6 (by decide) (List.mem_of_getElem? (i := 1) rfl) rfl rfl ?_
          refine z_iconst (v := 4) C dX6_fragment_142 (by decide) ?_
          refine z_iadd C dX6_fragment_143 ?_
          refine z_iald C dX6_fragment_144 1 rfl (zfr_in4 ha hp c_3) ?_
          refine z_aload_n C dX6_fragment_145 rfl 0 rfl ?_
          refine z_get (ci := 5) (v := .ref ab) (Cn := RX6) (T := TX6) (N := 23) C dX6_fragment_146 (fun w h => List.mem_cons_of_mem _ (List.mem_append_right _ h)) 0 rfl rfl 3 (by decide) (List.mem_of_getElem? (i := 5) rfl) rfl rfl ?_
          refine z_aload_n C dX6_fragment_149 rfl 0 rfl ?_
          refine z_get (ci := 5) (v := .int Mpl_) (Cn := RX6) (T := TX6) (N := 23) C dX6_fragment_150 (fun w h => List.mem_cons_of_mem _ (List.mem_append_right _ h)) 0 rfl rfl 6 (by decide) (List.mem_of_getElem? (i := 1) rfl) rfl rfl ?_
          refine z_iconst (v := 5) C dX6_fragment_153 (by decide) ?_
          refine z_iadd C dX6_fragment_154 ?_
          refine z_iald C dX6_fragment_155 1 rfl (zfr_in5 ha hp c_3) ?_
          refine z_bipush (v := 8) C dX6_fragment_156 (by decide) ?_
          refine z_ishl C dX6_fragment_158 ?_
          refine z_ior C dX6_fragment_159 ?_
          refine z_put (ci := 5) (v := .int ((MB ((Mpl_ + 4)).toNatClampNeg) ||| ((MB ((Mpl_ + 5)).toNatClampNeg) <<< ((8 : Int32) &&& 31)))) (ty := .int) (Cn := RX6) (T := TX6) (N := 23) (ws' := [(M, .inr (5, [.int Mft, .int Msz, .int Mal, .ref ab, .int Mbs, .ref au, .int Mpl_, .int Mbg, .int Mlo, .int Mhs, .int Mhf, .ref ah, .int Mhp, .int Mrs, .int Mrf, .ref ar, .int Mto, .int Mtb, .ref aw, .ref ay, .int Mpl_, .int ((MB ((Mpl_ + 4)).toNatClampNeg) ||| ((MB ((Mpl_ + 5)).toNatClampNeg) <<< ((8 : Int32) &&& 31))), .int Mhb])), (ab, .inl (g.2.2.1, 4096, .inl MB)), (au, .inl (g.2.2.1, 400, .inl MU)), (ah, .inl (g.2.2.1, 4096, .inl MH)), (ar, .inl (g.2.2.1, 4096, .inl MR)), (aw, .inl (g.2.2.1, 100, .inl MW)), (ay, .inl (g.2.2.1, 100, .inl MY))]) C dX6_fragment_160 (fun w h => List.mem_cons_of_mem _ (List.mem_append_right _ h)) tyX6 tyX6_ok nmX6 0 rfl rfl 21 (by decide) (List.mem_of_getElem? (i := 6) rfl) rfl rfl (by decide +kernel) rfl rfl (Nat.le_of_ble_eq_true rfl) rfl ?_
          refine z_aload_n C dX6_fragment_163 rfl 0 rfl ?_
          refine z_get (ci := 5) (v := .ref ab) (Cn := RX6) (T := TX6) (N := 23) C dX6_fragment_164 (fun w h => List.mem_cons_of_mem _ (List.mem_append_right _ h)) 0 rfl rfl 3 (by decide) (List.mem_of_getElem? (i := 5) rfl) rfl rfl ?_
          refine z_aload_n C dX6_fragment_167 rfl 0 rfl ?_
          refine z_get (ci := 5) (v := .int Mpl_) (Cn := RX6) (T := TX6) (N := 23) C dX6_fragment_168 (fun w h => List.mem_cons_of_mem _ (List.mem_append_right _ h)) 0 rfl rfl 6 (by decide) (List.mem_of_getElem? (i := 1) rfl) rfl rfl ?_
          refine z_bipush (v := 6) C dX6_fragment_171 (by decide) ?_
          refine z_iadd C dX6_fragment_173 ?_
          refine z_iald C dX6_fragment_174 1 rfl (zfr_in6 ha hp c_3) ?_
          refine z_istore_n (lv' := [(3, .int (MB ((Mpl_ + 6)).toNatClampNeg)), (0, .ref M), (1, .int iw), (2, .int en)]) C dX6_fragment_175 rfl (by decide) rfl ?_
          refine z_iload_n C dX6_fragment_176 rfl 3 rfl ?_
          refine z_aload_n C dX6_fragment_177 rfl 1 rfl ?_
          refine z_get (ci := 5) (v := .int Mpl_) (Cn := RX6) (T := TX6) (N := 23) C dX6_fragment_178 (fun w h => List.mem_cons_of_mem _ (List.mem_append_right _ h)) 0 rfl rfl 6 (by decide) (List.mem_of_getElem? (i := 1) rfl) rfl rfl ?_
          refine z_isub C dX6_fragment_181 ?_
          refine z_istore (lv' := [(4, .int (en - Mpl_)), (3, .int (MB ((Mpl_ + 6)).toNatClampNeg)), (0, .ref M), (1, .int iw), (2, .int en)]) C dX6_fragment_182 (by decide) rfl ?_
          refine z_bipush (v := 7) C dX6_fragment_184 (by decide) ?_
          refine z_aload_n C dX6_fragment_186 rfl 2 rfl ?_
          refine z_get (ci := 5) (v := .int ((MB ((Mpl_ + 4)).toNatClampNeg) ||| ((MB ((Mpl_ + 5)).toNatClampNeg) <<< ((8 : Int32) &&& 31)))) (Cn := RX6) (T := TX6) (N := 23) C dX6_fragment_187 (fun w h => List.mem_cons_of_mem _ (List.mem_append_right _ h)) 0 rfl rfl 21 (by decide) (List.mem_of_getElem? (i := 6) rfl) rfl rfl ?_
          refine z_iadd C dX6_fragment_190 ?_
          refine z_iload C dX6_fragment_191 0 rfl ?_
          refine z_icmp_le (tgt := 217) C dX6_fragment_193 (by decide) (fun c_4 => ?_) (fun c_4 => ?_)
          · skip
            refine z_iload_n C dX6_fragment_217 rfl 1 rfl ?_
            refine z_if_ne (tgt := 236) C dX6_fragment_218 (by decide) (fun c_5 => ?_) (fun c_5 => ?_)
            · skip
              refine z_iconst (v := (-1)) C dX6_fragment_236 (by decide) ?_
              refine z_istore (lv' := [(5, .int (-1)), (4, .int (en - Mpl_)), (3, .int (MB ((Mpl_ + 6)).toNatClampNeg)), (0, .ref M), (1, .int iw), (2, .int en)]) C dX6_fragment_237 (by decide) rfl ?_
              refine z_iconst (v := 0) C dX6_fragment_239 (by decide) ?_
              refine z_istore (lv' := [(6, .int 0), (5, .int (-1)), (4, .int (en - Mpl_)), (3, .int (MB ((Mpl_ + 6)).toNatClampNeg)), (0, .ref M), (1, .int iw), (2, .int en)]) C dX6_fragment_240 (by decide) rfl ?_
              have loopc : ∀ (rc ic : Nat), ic + rc = ((((MB ((Mpl_ + 4)).toNatClampNeg) ||| ((MB ((Mpl_ + 5)).toNatClampNeg) <<< ((8 : Int32) &&& 31))) + 1)).toNatClampNeg → ∀ (w : Int32), lpc_X6_fragment MB Mpl_ (-1) ic = w → zV X g 7 0 0 242 [(0, .ref M), (1, .int iw), (2, .int en), (3, .int (MB ((Mpl_ + 6)).toNatClampNeg)), (4, .int (en - Mpl_)), (5, .int w), (6, .int (nI ic))] [] [(M, .inr (5, [.int Mft, .int Msz, .int Mal, .ref ab, .int Mbs, .ref au, .int Mpl_, .int Mbg, .int Mlo, .int Mhs, .int Mhf, .ref ah, .int Mhp, .int Mrs, .int Mrf, .ref ar, .int Mto, .int Mtb, .ref aw, .ref ay, .int Mpl_, .int ((MB ((Mpl_ + 4)).toNatClampNeg) ||| ((MB ((Mpl_ + 5)).toNatClampNeg) <<< ((8 : Int32) &&& 31))), .int Mhb])), (ab, .inl (g.2.2.1, 4096, .inl MB)), (au, .inl (g.2.2.1, 400, .inl MU)), (ah, .inl (g.2.2.1, 4096, .inl MH)), (ar, .inl (g.2.2.1, 4096, .inl MR)), (aw, .inl (g.2.2.1, 100, .inl MW)), (ay, .inl (g.2.2.1, 100, .inl MY))] := by
                intro rc
                induction rc with
                | zero =>
                  intro ic hic w hvc 
                  have hic : ic = ((((MB ((Mpl_ + 4)).toNatClampNeg) ||| ((MB ((Mpl_ + 5)).toNatClampNeg) <<< ((8 : Int32) &&& 31))) + 1)).toNatClampNeg := hic
                  refine z_iload C dX6_fragment_242 6 rfl ?_
                  refine z_aload_n C dX6_fragment_244 rfl 0 rfl ?_
                  refine z_get (ci := 5) (v := .int ((MB ((Mpl_ + 4)).toNatClampNeg) ||| ((MB ((Mpl_ + 5)).toNatClampNeg) <<< ((8 : Int32) &&& 31)))) (Cn := RX6) (T := TX6) (N := 23) C dX6_fragment_245 (fun w h => List.mem_cons_of_mem _ (List.mem_append_right _ h)) 0 rfl rfl 21 (by decide) (List.mem_of_getElem? (i := 6) rfl) rfl rfl ?_
                  refine z_icmp_gt (tgt := 279) C dX6_fragment_248 (by decide) (fun c_6 => ?_) (fun c_6 => absurd (zfor_outg (zfr_lnG ha hB hp c_3) hic) c_6)
                  refine z_iload C dX6_fragment_279 5 rfl ?_
                  refine z_callSi (n := 1) (isC := []) (isR := [0, 1, 2, 3, 4, 5, 6]) (isP := [0, 1, 2, 3, 4, 5, 6]) (As := [.int w]) (rest := []) (wr := [(M, .inr (5, [.int Mft, .int Msz, .int Mal, .ref ab, .int Mbs, .ref au, .int Mpl_, .int Mbg, .int Mlo, .int Mhs, .int Mhf, .ref ah, .int Mhp, .int Mrs, .int Mrf, .ref ar, .int Mto, .int Mtb, .ref aw, .ref ay, .int Mpl_, .int ((MB ((Mpl_ + 4)).toNatClampNeg) ||| ((MB ((Mpl_ + 5)).toNatClampNeg) <<< ((8 : Int32) &&& 31))), .int Mhb])), (ab, .inl (g.2.2.1, 4096, .inl MB)), (au, .inl (g.2.2.1, 400, .inl MU)), (ah, .inl (g.2.2.1, 4096, .inl MH)), (ar, .inl (g.2.2.1, 4096, .inl MR)), (aw, .inl (g.2.2.1, 100, .inl MW)), (ay, .inl (g.2.2.1, 100, .inl MY))]) (ws2 := [(M, .inr (5, [.int Mft, .int Msz, .int Mal, .ref ab, .int Mbs, .ref au, .int Mpl_, .int Mbg, .int Mlo, .int Mhs, .int Mhf, .ref ah, .int Mhp, .int Mrs, .int Mrf, .ref ar, .int Mto, .int Mtb, .ref aw, .ref ay, .int Mpl_, .int ((MB ((Mpl_ + 4)).toNatClampNeg) ||| ((MB ((Mpl_ + 5)).toNatClampNeg) <<< ((8 : Int32) &&& 31))), .int Mhb])), (ab, .inl (g.2.2.1, 4096, .inl MB)), (au, .inl (g.2.2.1, 400, .inl MU)), (ah, .inl (g.2.2.1, 4096, .inl MH)), (ar, .inl (g.2.2.1, 4096, .inl MR)), (aw, .inl (g.2.2.1, 100, .inl MW)), (ay, .inl (g.2.2.1, 100, .inl MY))]) C dX6_fragment_281 (c_X6_masked (zl X) g w) gX6_fragment_X6_masked rfl ⟨rfl, rfl⟩ (by decide +kernel) (by decide) (by decide) rfl rfl (Nat.le_of_ble_eq_true rfl) rfl rfl ⟨rfl, rfl, rfl⟩ (by decide) rfl ?_
                  refine z_istore (lv' := [(5, .int (((zUshr (w ^^^ (-1)) 15) ||| ((w ^^^ (-1)) <<< ((17 : Int32) &&& 31))) + (-1568478504))), (0, .ref M), (1, .int iw), (2, .int en), (3, .int (MB ((Mpl_ + 6)).toNatClampNeg)), (4, .int (en - Mpl_)), (6, .int (nI ic))]) C dX6_fragment_284 (by decide) rfl ?_
                  refine z_iload C dX6_fragment_286 0 rfl ?_
                  refine z_aload_n C dX6_fragment_288 rfl 1 rfl ?_
                  refine z_get (ci := 5) (v := .ref ab) (Cn := RX6) (T := TX6) (N := 23) C dX6_fragment_289 (fun w h => List.mem_cons_of_mem _ (List.mem_append_right _ h)) 0 rfl rfl 3 (by decide) (List.mem_of_getElem? (i := 5) rfl) rfl rfl ?_
                  refine z_aload_n C dX6_fragment_292 rfl 1 rfl ?_
                  refine z_get (ci := 5) (v := .int Mpl_) (Cn := RX6) (T := TX6) (N := 23) C dX6_fragment_293 (fun w h => List.mem_cons_of_mem _ (List.mem_append_right _ h)) 0 rfl rfl 6 (by decide) (List.mem_of_getElem? (i := 1) rfl) rfl rfl ?_
                  refine z_iald C dX6_fragment_296 1 rfl (zfr_in0 ha hp c_3) ?_
                  refine z_aload_n C dX6_fragment_297 rfl 1 rfl ?_
                  refine z_get (ci := 5) (v := .ref ab) (Cn := RX6) (T := TX6) (N := 23) C dX6_fragment_298 (fun w h => List.mem_cons_of_mem _ (List.mem_append_right _ h)) 0 rfl rfl 3 (by decide) (List.mem_of_getElem? (i := 5) rfl) rfl rfl ?_
                  refine z_aload_n C dX6_fragment_301 rfl 1 rfl ?_
                  refine z_get (ci := 5) (v := .int Mpl_) (Cn := RX6) (T := TX6) (N := 23) C dX6_fragment_302 (fun w h => List.mem_cons_of_mem _ (List.mem_append_right _ h)) 0 rfl rfl 6 (by decide) (List.mem_of_getElem? (i := 1) rfl) rfl rfl ?_
                  refine z_iconst (v := 1) C dX6_fragment_305 (by decide) ?_
                  refine z_iadd C dX6_fragment_306 ?_
                  refine z_iald C dX6_fragment_307 1 rfl (zfr_in1 ha hp c_3) ?_
                  refine z_bipush (v := 8) C dX6_fragment_308 (by decide) ?_
                  refine z_ishl C dX6_fragment_310 ?_
                  refine z_ior C dX6_fragment_311 ?_
                  refine z_aload_n C dX6_fragment_312 rfl 1 rfl ?_
                  refine z_get (ci := 5) (v := .ref ab) (Cn := RX6) (T := TX6) (N := 23) C dX6_fragment_313 (fun w h => List.mem_cons_of_mem _ (List.mem_append_right _ h)) 0 rfl rfl 3 (by decide) (List.mem_of_getElem? (i := 5) rfl) rfl rfl ?_
                  refine z_aload_n C dX6_fragment_316 rfl 1 rfl ?_
                  refine z_get (ci := 5) (v := .int Mpl_) (Cn := RX6) (T := TX6) (N := 23) C dX6_fragment_317 (fun w h => List.mem_cons_of_mem _ (List.mem_append_right _ h)) 0 rfl rfl 6 (by decide) (List.mem_of_getElem? (i := 1) rfl) rfl rfl ?_
                  refine z_iconst (v := 2) C dX6_fragment_320 (by decide) ?_
                  refine z_iadd C dX6_fragment_321 ?_
                  refine z_iald C dX6_fragment_322 1 rfl (zfr_in2 ha hp c_3) ?_
                  refine z_bipush (v := 16) C dX6_fragment_323 (by decide) ?_
                  refine z_ishl C dX6_fragment_325 ?_
                  refine z_ior C dX6_fragment_326 ?_
                  refine z_aload_n C dX6_fragment_327 rfl 1 rfl ?_
                  refine z_get (ci := 5) (v := .ref ab) (Cn := RX6) (T := TX6) (N := 23) C dX6_fragment_328 (fun w h => List.mem_cons_of_mem _ (List.mem_append_right _ h)) 0 rfl rfl 3 (by decide) (List.mem_of_getElem? (i := 5) rfl) rfl rfl ?_
                  refine z_aload_n C dX6_fragment_331 rfl 1 rfl ?_
                  refine z_get (ci := 5) (v := .int Mpl_) (Cn := RX6) (T := TX6) (N := 23) C dX6_fragment_332 (fun w h => List.mem_cons_of_mem _ (List.mem_append_right _ h)) 0 rfl rfl 6 (by decide) (List.mem_of_getElem? (i := 1) rfl) rfl rfl ?_
                  refine z_iconst (v := 3) C dX6_fragment_335 (by decide) ?_
                  refine z_iadd C dX6_fragment_336 ?_
                  refine z_iald C dX6_fragment_337 1 rfl (zfr_in3 ha hp c_3) ?_
                  refine z_bipush (v := 24) C dX6_fragment_338 (by decide) ?_
                  refine z_ishl C dX6_fragment_340 ?_
                  refine z_ior C dX6_fragment_341 ?_
                  refine z_icmp_eq (tgt := 360) C dX6_fragment_342 (by decide) (fun c_8 => ?_) (fun c_8 => ?_)
                  · skip
                    refine z_aload_n C dX6_fragment_360 rfl 1 rfl ?_
                    refine z_aload_n C dX6_fragment_361 rfl 1 rfl ?_
                    refine z_get (ci := 5) (v := .int Mpl_) (Cn := RX6) (T := TX6) (N := 23) C dX6_fragment_362 (fun w h => List.mem_cons_of_mem _ (List.mem_append_right _ h)) 0 rfl rfl 6 (by decide) (List.mem_of_getElem? (i := 1) rfl) rfl rfl ?_
                    refine z_bipush (v := 7) C dX6_fragment_365 (by decide) ?_
                    refine z_iadd C dX6_fragment_367 ?_
                    refine z_aload_n C dX6_fragment_368 rfl 1 rfl ?_
                    refine z_get (ci := 5) (v := .int ((MB ((Mpl_ + 4)).toNatClampNeg) ||| ((MB ((Mpl_ + 5)).toNatClampNeg) <<< ((8 : Int32) &&& 31)))) (Cn := RX6) (T := TX6) (N := 23) C dX6_fragment_369 (fun w h => List.mem_cons_of_mem _ (List.mem_append_right _ h)) 0 rfl rfl 21 (by decide) (List.mem_of_getElem? (i := 6) rfl) rfl rfl ?_
                    refine z_iadd C dX6_fragment_372 ?_
                    refine z_put (ci := 5) (v := .int ((Mpl_ + 7) + ((MB ((Mpl_ + 4)).toNatClampNeg) ||| ((MB ((Mpl_ + 5)).toNatClampNeg) <<< ((8 : Int32) &&& 31))))) (ty := .int) (Cn := RX6) (T := TX6) (N := 23) (ws' := [(M, .inr (5, [.int Mft, .int Msz, .int Mal, .ref ab, .int Mbs, .ref au, .int ((Mpl_ + 7) + ((MB ((Mpl_ + 4)).toNatClampNeg) ||| ((MB ((Mpl_ + 5)).toNatClampNeg) <<< ((8 : Int32) &&& 31)))), .int Mbg, .int Mlo, .int Mhs, .int Mhf, .ref ah, .int Mhp, .int Mrs, .int Mrf, .ref ar, .int Mto, .int Mtb, .ref aw, .ref ay, .int Mpl_, .int ((MB ((Mpl_ + 4)).toNatClampNeg) ||| ((MB ((Mpl_ + 5)).toNatClampNeg) <<< ((8 : Int32) &&& 31))), .int Mhb])), (ab, .inl (g.2.2.1, 4096, .inl MB)), (au, .inl (g.2.2.1, 400, .inl MU)), (ah, .inl (g.2.2.1, 4096, .inl MH)), (ar, .inl (g.2.2.1, 4096, .inl MR)), (aw, .inl (g.2.2.1, 100, .inl MW)), (ay, .inl (g.2.2.1, 100, .inl MY))]) C dX6_fragment_373 (fun w h => List.mem_cons_of_mem _ (List.mem_append_right _ h)) tyX6 tyX6_ok nmX6 0 rfl rfl 6 (by decide) (List.mem_of_getElem? (i := 1) rfl) rfl rfl (by decide +kernel) rfl rfl (Nat.le_of_ble_eq_true rfl) rfl ?_
                    refine z_aload_n C dX6_fragment_376 rfl 1 rfl ?_
                    refine z_get (ci := 5) (v := .int Mpl_) (Cn := RX6) (T := TX6) (N := 23) C dX6_fragment_377 (fun w h => List.mem_cons_of_mem _ (List.mem_append_right _ h)) 0 rfl rfl 20 (by decide) (List.mem_of_getElem? (i := 4) rfl) rfl rfl ?_
                    refine z_aload_n C dX6_fragment_380 rfl 1 rfl ?_
                    refine z_get (ci := 5) (v := .int Mbg) (Cn := RX6) (T := TX6) (N := 23) C dX6_fragment_381 (fun w h => List.mem_cons_of_mem _ (List.mem_append_right _ h)) 0 rfl rfl 7 (by decide) (List.mem_of_getElem? (i := 7) rfl) rfl rfl ?_
                    refine z_icmp_ge (tgt := 392) C dX6_fragment_384 (by decide) (fun c_9 => ?_) (fun c_9 => ?_)
                    · skip
                      refine z_iload_n C dX6_fragment_392 rfl 4 rfl ?_
                      have he : (f_X6_fragment MB MW MY Msz Mal Mpl Mbg Mto Mtb Mfr Mln) = ((MB ((Mpl_ + 6)).toNatClampNeg), MW, MY, ((Mpl_ + 7) + ((MB ((Mpl_ + 4)).toNatClampNeg) ||| ((MB ((Mpl_ + 5)).toNatClampNeg) <<< ((8 : Int32) &&& 31)))), Mto, Mtb, Mpl_, ((MB ((Mpl_ + 4)).toNatClampNeg) ||| ((MB ((Mpl_ + 5)).toNatClampNeg) <<< ((8 : Int32) &&& 31)))) := by rw [← hv]; simp only [lp_X6_fragment, if_pos c_3, if_pos c_4, if_neg c_5, ← hic, hvc, if_pos c_8, if_pos c_9]
                      exact hret _ _ _ _ dX6_fragment_393 (by first | rw [he] | rfl) (by first | rw [he] | rfl)
                    · skip
                      refine z_bipush (v := (-2)) C dX6_fragment_387 (by decide) ?_
                      refine z_goto (tgt := 393) C dX6_fragment_389 (by decide) ?_
                      have he : (f_X6_fragment MB MW MY Msz Mal Mpl Mbg Mto Mtb Mfr Mln) = ((-2), MW, MY, ((Mpl_ + 7) + ((MB ((Mpl_ + 4)).toNatClampNeg) ||| ((MB ((Mpl_ + 5)).toNatClampNeg) <<< ((8 : Int32) &&& 31)))), Mto, Mtb, Mpl_, ((MB ((Mpl_ + 4)).toNatClampNeg) ||| ((MB ((Mpl_ + 5)).toNatClampNeg) <<< ((8 : Int32) &&& 31)))) := by rw [← hv]; simp only [lp_X6_fragment, if_pos c_3, if_pos c_4, if_neg c_5, ← hic, hvc, if_pos c_8, if_neg c_9]
                      exact hret _ _ _ _ dX6_fragment_393 (by first | rw [he] | rfl) (by first | rw [he] | rfl)
                  · skip
                    refine z_aload_n C dX6_fragment_345 rfl 1 rfl ?_
                    refine z_iload_n C dX6_fragment_346 rfl 3 rfl ?_
                    refine z_put (ci := 5) (v := .int en) (ty := .int) (Cn := RX6) (T := TX6) (N := 23) (ws' := [(M, .inr (5, [.int Mft, .int Msz, .int Mal, .ref ab, .int Mbs, .ref au, .int en, .int Mbg, .int Mlo, .int Mhs, .int Mhf, .ref ah, .int Mhp, .int Mrs, .int Mrf, .ref ar, .int Mto, .int Mtb, .ref aw, .ref ay, .int Mpl_, .int ((MB ((Mpl_ + 4)).toNatClampNeg) ||| ((MB ((Mpl_ + 5)).toNatClampNeg) <<< ((8 : Int32) &&& 31))), .int Mhb])), (ab, .inl (g.2.2.1, 4096, .inl MB)), (au, .inl (g.2.2.1, 400, .inl MU)), (ah, .inl (g.2.2.1, 4096, .inl MH)), (ar, .inl (g.2.2.1, 4096, .inl MR)), (aw, .inl (g.2.2.1, 100, .inl MW)), (ay, .inl (g.2.2.1, 100, .inl MY))]) C dX6_fragment_347 (fun w h => List.mem_cons_of_mem _ (List.mem_append_right _ h)) tyX6 tyX6_ok nmX6 0 rfl rfl 6 (by decide) (List.mem_of_getElem? (i := 1) rfl) rfl rfl (by decide +kernel) rfl rfl (Nat.le_of_ble_eq_true rfl) rfl ?_
                    refine z_aload_n C dX6_fragment_350 rfl 1 rfl ?_
                    refine z_iconst (v := 2) C dX6_fragment_351 (by decide) ?_
                    refine z_iload C dX6_fragment_352 5 rfl ?_
                    refine z_callVv (n := 2) (isC := [0, 1, 2, 3, 4, 5, 6]) (isR := []) (isP := [0, 1, 2, 3, 4, 5, 6]) (As := [.int 2, .int (en - Mpl_)]) (rest := []) (wr := []) (ws2 := [(M, .inr (5, [.int Mft, .int Msz, .int Mal, .ref ab, .int Mbs, .ref au, .int en, .int Mbg, .int Mlo, .int Mhs, .int Mhf, .ref ah, .int Mhp, .int Mrs, .int Mrf, .ref ar, .int ((f_X6_tell MW MY Mto Mtb 2 (en - Mpl_)).2.2.1), .int ((f_X6_tell MW MY Mto Mtb 2 (en - Mpl_)).2.2.2), .ref aw, .ref ay, .int Mpl_, .int ((MB ((Mpl_ + 4)).toNatClampNeg) ||| ((MB ((Mpl_ + 5)).toNatClampNeg) <<< ((8 : Int32) &&& 31))), .int Mhb])), (ab, .inl (g.2.2.1, 4096, .inl MB)), (au, .inl (g.2.2.1, 400, .inl MU)), (ah, .inl (g.2.2.1, 4096, .inl MH)), (ar, .inl (g.2.2.1, 4096, .inl MR)), (aw, .inl (g.2.2.1, 100, .inl ((f_X6_tell MW MY Mto Mtb 2 (en - Mpl_)).1))), (ay, .inl (g.2.2.1, 100, .inl ((f_X6_tell MW MY Mto Mtb 2 (en - Mpl_)).2.1)))]) C dX6_fragment_354 (c_X6_tell (zl X) g M ab au ah ar aw ay MB MU MH MR MW MY Mft Msz Mal Mbs en Mbg Mlo Mhs Mhf Mhp Mrs Mrf Mto Mtb Mpl_ ((MB ((Mpl_ + 4)).toNatClampNeg) ||| ((MB ((Mpl_ + 5)).toNatClampNeg) <<< ((8 : Int32) &&& 31))) Mhb 2 (en - Mpl_) ht) gX6_fragment_X6_tell rfl ⟨rfl, rfl⟩ (by decide +kernel) (by decide) (by decide) rfl rfl rfl rfl (Nat.le_of_ble_eq_true rfl) rfl rfl ⟨rfl, rfl, rfl⟩ (by decide) rfl ?_
                    generalize hT10 : (f_X6_tell MW MY Mto Mtb 2 (en - Mpl_)) = T10
                    obtain ⟨MWq10, MYq10, Mtoq10, Mtbq10⟩ := T10
                    have k10_Mto : zdok (0) Mtoq10 := zdok_X6_tell (zdok_le ht (by omega)) hT10
                    refine z_bipush (v := (-2)) C dX6_fragment_357 (by decide) ?_
                    have he : (f_X6_fragment MB MW MY Msz Mal Mpl Mbg Mto Mtb Mfr Mln) = ((-2), MWq10, MYq10, en, Mtoq10, Mtbq10, Mpl_, ((MB ((Mpl_ + 4)).toNatClampNeg) ||| ((MB ((Mpl_ + 5)).toNatClampNeg) <<< ((8 : Int32) &&& 31)))) := by rw [← hv]; simp only [lp_X6_fragment, if_pos c_3, if_pos c_4, if_neg c_5, ← hic, hvc, if_neg c_8, hT10]
                    exact hret _ _ _ _ dX6_fragment_359 (by first | rw [he] | rfl) (by first | rw [he] | rfl)
                | succ rc ihc =>
                  intro ic hic w hvc 
                  refine z_iload C dX6_fragment_242 6 rfl ?_
                  refine z_aload_n C dX6_fragment_244 rfl 0 rfl ?_
                  refine z_get (ci := 5) (v := .int ((MB ((Mpl_ + 4)).toNatClampNeg) ||| ((MB ((Mpl_ + 5)).toNatClampNeg) <<< ((8 : Int32) &&& 31)))) (Cn := RX6) (T := TX6) (N := 23) C dX6_fragment_245 (fun w h => List.mem_cons_of_mem _ (List.mem_append_right _ h)) 0 rfl rfl 21 (by decide) (List.mem_of_getElem? (i := 6) rfl) rfl rfl ?_
                  refine z_icmp_gt (tgt := 279) C dX6_fragment_248 (by decide) (fun c_11 => absurd c_11 (zfor_ing (zfr_lnG ha hB hp c_3) hic)) (fun c_11 => ?_)
                  refine z_iload C dX6_fragment_251 5 rfl ?_
                  refine z_aload_n C dX6_fragment_253 rfl 0 rfl ?_
                  refine z_get (ci := 5) (v := .ref ab) (Cn := RX6) (T := TX6) (N := 23) C dX6_fragment_254 (fun w h => List.mem_cons_of_mem _ (List.mem_append_right _ h)) 0 rfl rfl 3 (by decide) (List.mem_of_getElem? (i := 5) rfl) rfl rfl ?_
                  refine z_aload_n C dX6_fragment_257 rfl 0 rfl ?_
                  refine z_get (ci := 5) (v := .int Mpl_) (Cn := RX6) (T := TX6) (N := 23) C dX6_fragment_258 (fun w h => List.mem_cons_of_mem _ (List.mem_append_right _ h)) 0 rfl rfl 6 (by decide) (List.mem_of_getElem? (i := 1) rfl) rfl rfl ?_
                  refine z_bipush (v := 6) C dX6_fragment_261 (by decide) ?_
                  refine z_iadd C dX6_fragment_263 ?_
                  refine z_iload C dX6_fragment_264 6 rfl ?_
                  refine z_iadd C dX6_fragment_266 ?_
                  refine z_iald C dX6_fragment_267 1 rfl (zfr_inL ha hp c_3 (zfr_ln ha hB hp c_3) c_4 hic) ?_
                  refine z_callSi (n := 2) (isC := []) (isR := [0, 1, 2, 3, 4, 5, 6]) (isP := [0, 1, 2, 3, 4, 5, 6]) (As := [.int w, .int (MB (((Mpl_ + 6) + (nI ic))).toNatClampNeg)]) (rest := []) (wr := [(M, .inr (5, [.int Mft, .int Msz, .int Mal, .ref ab, .int Mbs, .ref au, .int Mpl_, .int Mbg, .int Mlo, .int Mhs, .int Mhf, .ref ah, .int Mhp, .int Mrs, .int Mrf, .ref ar, .int Mto, .int Mtb, .ref aw, .ref ay, .int Mpl_, .int ((MB ((Mpl_ + 4)).toNatClampNeg) ||| ((MB ((Mpl_ + 5)).toNatClampNeg) <<< ((8 : Int32) &&& 31))), .int Mhb])), (ab, .inl (g.2.2.1, 4096, .inl MB)), (au, .inl (g.2.2.1, 400, .inl MU)), (ah, .inl (g.2.2.1, 4096, .inl MH)), (ar, .inl (g.2.2.1, 4096, .inl MR)), (aw, .inl (g.2.2.1, 100, .inl MW)), (ay, .inl (g.2.2.1, 100, .inl MY))]) (ws2 := [(M, .inr (5, [.int Mft, .int Msz, .int Mal, .ref ab, .int Mbs, .ref au, .int Mpl_, .int Mbg, .int Mlo, .int Mhs, .int Mhf, .ref ah, .int Mhp, .int Mrs, .int Mrf, .ref ar, .int Mto, .int Mtb, .ref aw, .ref ay, .int Mpl_, .int ((MB ((Mpl_ + 4)).toNatClampNeg) ||| ((MB ((Mpl_ + 5)).toNatClampNeg) <<< ((8 : Int32) &&& 31))), .int Mhb])), (ab, .inl (g.2.2.1, 4096, .inl MB)), (au, .inl (g.2.2.1, 400, .inl MU)), (ah, .inl (g.2.2.1, 4096, .inl MH)), (ar, .inl (g.2.2.1, 4096, .inl MR)), (aw, .inl (g.2.2.1, 100, .inl MW)), (ay, .inl (g.2.2.1, 100, .inl MY))]) C dX6_fragment_268 (c_X6_more (zl X) g w (MB (((Mpl_ + 6) + (nI ic))).toNatClampNeg)) gX6_fragment_X6_more rfl ⟨rfl, rfl⟩ (by decide +kernel) (by decide) (by decide) rfl rfl (Nat.le_of_ble_eq_true rfl) rfl rfl ⟨rfl, rfl, rfl⟩ (by decide) rfl ?_
                  generalize hT12 : (f_X6_more w (MB (((Mpl_ + 6) + (nI ic))).toNatClampNeg)) = rq12
                  refine z_istore (lv' := [(5, .int rq12), (0, .ref M), (1, .int iw), (2, .int en), (3, .int (MB ((Mpl_ + 6)).toNatClampNeg)), (4, .int (en - Mpl_)), (6, .int (nI ic))]) C dX6_fragment_271 (by decide) rfl ?_
                  refine z_iinc (v := (nI (ic + 1))) (lv' := [(6, .int (nI (ic + 1))), (5, .int rq12), (0, .ref M), (1, .int iw), (2, .int en), (3, .int (MB ((Mpl_ + 6)).toNatClampNeg)), (4, .int (en - Mpl_))]) C dX6_fragment_273 6 rfl (nI_1 ic) (by decide) rfl ?_
                  refine z_goto (tgt := 242) C dX6_fragment_276 (by decide) ?_
                  have hsc : lpc_X6_fragment MB Mpl_ (-1) (ic + 1) = rq12 := by
                    show bc_X6_fragment MB Mpl_ (nI ic) (lpc_X6_fragment MB Mpl_ (-1) ic) = _
                    rw [hvc]
                    simp only [bc_X6_fragment, hT12]
                  exact z_lv [2, 3, 4, 5, 6, 1, 0] rfl (ihc (ic + 1) (by omega) rq12 hsc )
              exact z_lv [4, 5, 6, 3, 2, 1, 0] rfl (loopc ((((MB ((Mpl_ + 4)).toNatClampNeg) ||| ((MB ((Mpl_ + 5)).toNatClampNeg) <<< ((8 : Int32) &&& 31))) + 1)).toNatClampNeg 0 (Nat.zero_add _) (-1) rfl)
            · skip
              refine z_aload_n C dX6_fragment_221 rfl 2 rfl ?_
              refine z_get (ci := 5) (v := .int ((MB ((Mpl_ + 4)).toNatClampNeg) ||| ((MB ((Mpl_ + 5)).toNatClampNeg) <<< ((8 : Int32) &&& 31)))) (Cn := RX6) (T := TX6) (N := 23) C dX6_fragment_222 (fun w h => List.mem_cons_of_mem _ (List.mem_append_right _ h)) 0 rfl rfl 21 (by decide) (List.mem_of_getElem? (i := 6) rfl) rfl rfl ?_
              refine z_if_ne (tgt := 236) C dX6_fragment_225 (by decide) (fun c_13 => ?_) (fun c_13 => ?_)
              · skip
                refine z_iconst (v := (-1)) C dX6_fragment_236 (by decide) ?_
                refine z_istore (lv' := [(5, .int (-1)), (4, .int (en - Mpl_)), (3, .int (MB ((Mpl_ + 6)).toNatClampNeg)), (0, .ref M), (1, .int iw), (2, .int en)]) C dX6_fragment_237 (by decide) rfl ?_
                refine z_iconst (v := 0) C dX6_fragment_239 (by decide) ?_
                refine z_istore (lv' := [(6, .int 0), (5, .int (-1)), (4, .int (en - Mpl_)), (3, .int (MB ((Mpl_ + 6)).toNatClampNeg)), (0, .ref M), (1, .int iw), (2, .int en)]) C dX6_fragment_240 (by decide) rfl ?_
                have loopc : ∀ (rc ic : Nat), ic + rc = ((((MB ((Mpl_ + 4)).toNatClampNeg) ||| ((MB ((Mpl_ + 5)).toNatClampNeg) <<< ((8 : Int32) &&& 31))) + 1)).toNatClampNeg → ∀ (w : Int32), lpc_X6_fragment MB Mpl_ (-1) ic = w → zV X g 7 0 0 242 [(0, .ref M), (1, .int iw), (2, .int en), (3, .int (MB ((Mpl_ + 6)).toNatClampNeg)), (4, .int (en - Mpl_)), (5, .int w), (6, .int (nI ic))] [] [(M, .inr (5, [.int Mft, .int Msz, .int Mal, .ref ab, .int Mbs, .ref au, .int Mpl_, .int Mbg, .int Mlo, .int Mhs, .int Mhf, .ref ah, .int Mhp, .int Mrs, .int Mrf, .ref ar, .int Mto, .int Mtb, .ref aw, .ref ay, .int Mpl_, .int ((MB ((Mpl_ + 4)).toNatClampNeg) ||| ((MB ((Mpl_ + 5)).toNatClampNeg) <<< ((8 : Int32) &&& 31))), .int Mhb])), (ab, .inl (g.2.2.1, 4096, .inl MB)), (au, .inl (g.2.2.1, 400, .inl MU)), (ah, .inl (g.2.2.1, 4096, .inl MH)), (ar, .inl (g.2.2.1, 4096, .inl MR)), (aw, .inl (g.2.2.1, 100, .inl MW)), (ay, .inl (g.2.2.1, 100, .inl MY))] := by
                  intro rc
                  induction rc with
                  | zero =>
                    intro ic hic w hvc 
                    have hic : ic = ((((MB ((Mpl_ + 4)).toNatClampNeg) ||| ((MB ((Mpl_ + 5)).toNatClampNeg) <<< ((8 : Int32) &&& 31))) + 1)).toNatClampNeg := hic
                    refine z_iload C dX6_fragment_242 6 rfl ?_
                    refine z_aload_n C dX6_fragment_244 rfl 0 rfl ?_
                    refine z_get (ci := 5) (v := .int ((MB ((Mpl_ + 4)).toNatClampNeg) ||| ((MB ((Mpl_ + 5)).toNatClampNeg) <<< ((8 : Int32) &&& 31)))) (Cn := RX6) (T := TX6) (N := 23) C dX6_fragment_245 (fun w h => List.mem_cons_of_mem _ (List.mem_append_right _ h)) 0 rfl rfl 21 (by decide) (List.mem_of_getElem? (i := 6) rfl) rfl rfl ?_
                    refine z_icmp_gt (tgt := 279) C dX6_fragment_248 (by decide) (fun c_14 => ?_) (fun c_14 => absurd (zfor_outg (zfr_lnG ha hB hp c_3) hic) c_14)
                    refine z_iload C dX6_fragment_279 5 rfl ?_
                    refine z_callSi (n := 1) (isC := []) (isR := [0, 1, 2, 3, 4, 5, 6]) (isP := [0, 1, 2, 3, 4, 5, 6]) (As := [.int w]) (rest := []) (wr := [(M, .inr (5, [.int Mft, .int Msz, .int Mal, .ref ab, .int Mbs, .ref au, .int Mpl_, .int Mbg, .int Mlo, .int Mhs, .int Mhf, .ref ah, .int Mhp, .int Mrs, .int Mrf, .ref ar, .int Mto, .int Mtb, .ref aw, .ref ay, .int Mpl_, .int ((MB ((Mpl_ + 4)).toNatClampNeg) ||| ((MB ((Mpl_ + 5)).toNatClampNeg) <<< ((8 : Int32) &&& 31))), .int Mhb])), (ab, .inl (g.2.2.1, 4096, .inl MB)), (au, .inl (g.2.2.1, 400, .inl MU)), (ah, .inl (g.2.2.1, 4096, .inl MH)), (ar, .inl (g.2.2.1, 4096, .inl MR)), (aw, .inl (g.2.2.1, 100, .inl MW)), (ay, .inl (g.2.2.1, 100, .inl MY))]) (ws2 := [(M, .inr (5, [.int Mft, .int Msz, .int Mal, .ref ab, .int Mbs, .ref au, .int Mpl_, .int Mbg, .int Mlo, .int Mhs, .int Mhf, .ref ah, .int Mhp, .int Mrs, .int Mrf, .ref ar, .int Mto, .int Mtb, .ref aw, .ref ay, .int Mpl_, .int ((MB ((Mpl_ + 4)).toNatClampNeg) ||| ((MB ((Mpl_ + 5)).toNatClampNeg) <<< ((8 : Int32) &&& 31))), .int Mhb])), (ab, .inl (g.2.2.1, 4096, .inl MB)), (au, .inl (g.2.2.1, 400, .inl MU)), (ah, .inl (g.2.2.1, 4096, .inl MH)), (ar, .inl (g.2.2.1, 4096, .inl MR)), (aw, .inl (g.2.2.1, 100, .inl MW)), (ay, .inl (g.2.2.1, 100, .inl MY))]) C dX6_fragment_281 (c_X6_masked (zl X) g w) gX6_fragment_X6_masked rfl ⟨rfl, rfl⟩ (by decide +kernel) (by decide) (by decide) rfl rfl (Nat.le_of_ble_eq_true rfl) rfl rfl ⟨rfl, rfl, rfl⟩ (by decide) rfl ?_
                    refine z_istore (lv' := [(5, .int (((zUshr (w ^^^ (-1)) 15) ||| ((w ^^^ (-1)) <<< ((17 : Int32) &&& 31))) + (-1568478504))), (0, .ref M), (1, .int iw), (2, .int en), (3, .int (MB ((Mpl_ + 6)).toNatClampNeg)), (4, .int (en - Mpl_)), (6, .int (nI ic))]) C dX6_fragment_284 (by decide) rfl ?_
                    refine z_iload C dX6_fragment_286 0 rfl ?_
                    refine z_aload_n C dX6_fragment_288 rfl 1 rfl ?_
                    refine z_get (ci := 5) (v := .ref ab) (Cn := RX6) (T := TX6) (N := 23) C dX6_fragment_289 (fun w h => List.mem_cons_of_mem _ (List.mem_append_right _ h)) 0 rfl rfl 3 (by decide) (List.mem_of_getElem? (i := 5) rfl) rfl rfl ?_
                    refine z_aload_n C dX6_fragment_292 rfl 1 rfl ?_
                    refine z_get (ci := 5) (v := .int Mpl_) (Cn := RX6) (T := TX6) (N := 23) C dX6_fragment_293 (fun w h => List.mem_cons_of_mem _ (List.mem_append_right _ h)) 0 rfl rfl 6 (by decide) (List.mem_of_getElem? (i := 1) rfl) rfl rfl ?_
                    refine z_iald C dX6_fragment_296 1 rfl (zfr_in0 ha hp c_3) ?_
                    refine z_aload_n C dX6_fragment_297 rfl 1 rfl ?_
                    refine z_get (ci := 5) (v := .ref ab) (Cn := RX6) (T := TX6) (N := 23) C dX6_fragment_298 (fun w h => List.mem_cons_of_mem _ (List.mem_append_right _ h)) 0 rfl rfl 3 (by decide) (List.mem_of_getElem? (i := 5) rfl) rfl rfl ?_
                    refine z_aload_n C dX6_fragment_301 rfl 1 rfl ?_
                    refine z_get (ci := 5) (v := .int Mpl_) (Cn := RX6) (T := TX6) (N := 23) C dX6_fragment_302 (fun w h => List.mem_cons_of_mem _ (List.mem_append_right _ h)) 0 rfl rfl 6 (by decide) (List.mem_of_getElem? (i := 1) rfl) rfl rfl ?_
                    refine z_iconst (v := 1) C dX6_fragment_305 (by decide) ?_
                    refine z_iadd C dX6_fragment_306 ?_
                    refine z_iald C dX6_fragment_307 1 rfl (zfr_in1 ha hp c_3) ?_
                    refine z_bipush (v := 8) C dX6_fragment_308 (by decide) ?_
                    refine z_ishl C dX6_fragment_310 ?_
                    refine z_ior C dX6_fragment_311 ?_
                    refine z_aload_n C dX6_fragment_312 rfl 1 rfl ?_
                    refine z_get (ci := 5) (v := .ref ab) (Cn := RX6) (T := TX6) (N := 23) C dX6_fragment_313 (fun w h => List.mem_cons_of_mem _ (List.mem_append_right _ h)) 0 rfl rfl 3 (by decide) (List.mem_of_getElem? (i := 5) rfl) rfl rfl ?_
                    refine z_aload_n C dX6_fragment_316 rfl 1 rfl ?_
                    refine z_get (ci := 5) (v := .int Mpl_) (Cn := RX6) (T := TX6) (N := 23) C dX6_fragment_317 (fun w h => List.mem_cons_of_mem _ (List.mem_append_right _ h)) 0 rfl rfl 6 (by decide) (List.mem_of_getElem? (i := 1) rfl) rfl rfl ?_
                    refine z_iconst (v := 2) C dX6_fragment_320 (by decide) ?_
                    refine z_iadd C dX6_fragment_321 ?_
                    refine z_iald C dX6_fragment_322 1 rfl (zfr_in2 ha hp c_3) ?_
                    refine z_bipush (v := 16) C dX6_fragment_323 (by decide) ?_
                    refine z_ishl C dX6_fragment_325 ?_
                    refine z_ior C dX6_fragment_326 ?_
                    refine z_aload_n C dX6_fragment_327 rfl 1 rfl ?_
                    refine z_get (ci := 5) (v := .ref ab) (Cn := RX6) (T := TX6) (N := 23) C dX6_fragment_328 (fun w h => List.mem_cons_of_mem _ (List.mem_append_right _ h)) 0 rfl rfl 3 (by decide) (List.mem_of_getElem? (i := 5) rfl) rfl rfl ?_
                    refine z_aload_n C dX6_fragment_331 rfl 1 rfl ?_
                    refine z_get (ci := 5) (v := .int Mpl_) (Cn := RX6) (T := TX6) (N := 23) C dX6_fragment_332 (fun w h => List.mem_cons_of_mem _ (List.mem_append_right _ h)) 0 rfl rfl 6 (by decide) (List.mem_of_getElem? (i := 1) rfl) rfl rfl ?_
                    refine z_iconst (v := 3) C dX6_fragment_335 (by decide) ?_
                    refine z_iadd C dX6_fragment_336 ?_
                    refine z_iald C dX6_fragment_337 1 rfl (zfr_in3 ha hp c_3) ?_
                    refine z_bipush (v := 24) C dX6_fragment_338 (by decide) ?_
                    refine z_ishl C dX6_fragment_340 ?_
                    refine z_ior C dX6_fragment_341 ?_
                    refine z_icmp_eq (tgt := 360) C dX6_fragment_342 (by decide) (fun c_16 => ?_) (fun c_16 => ?_)
                    · skip
                      refine z_aload_n C dX6_fragment_360 rfl 1 rfl ?_
                      refine z_aload_n C dX6_fragment_361 rfl 1 rfl ?_
                      refine z_get (ci := 5) (v := .int Mpl_) (Cn := RX6) (T := TX6) (N := 23) C dX6_fragment_362 (fun w h => List.mem_cons_of_mem _ (List.mem_append_right _ h)) 0 rfl rfl 6 (by decide) (List.mem_of_getElem? (i := 1) rfl) rfl rfl ?_
                      refine z_bipush (v := 7) C dX6_fragment_365 (by decide) ?_
                      refine z_iadd C dX6_fragment_367 ?_
                      refine z_aload_n C dX6_fragment_368 rfl 1 rfl ?_
                      refine z_get (ci := 5) (v := .int ((MB ((Mpl_ + 4)).toNatClampNeg) ||| ((MB ((Mpl_ + 5)).toNatClampNeg) <<< ((8 : Int32) &&& 31)))) (Cn := RX6) (T := TX6) (N := 23) C dX6_fragment_369 (fun w h => List.mem_cons_of_mem _ (List.mem_append_right _ h)) 0 rfl rfl 21 (by decide) (List.mem_of_getElem? (i := 6) rfl) rfl rfl ?_
                      refine z_iadd C dX6_fragment_372 ?_
                      refine z_put (ci := 5) (v := .int ((Mpl_ + 7) + ((MB ((Mpl_ + 4)).toNatClampNeg) ||| ((MB ((Mpl_ + 5)).toNatClampNeg) <<< ((8 : Int32) &&& 31))))) (ty := .int) (Cn := RX6) (T := TX6) (N := 23) (ws' := [(M, .inr (5, [.int Mft, .int Msz, .int Mal, .ref ab, .int Mbs, .ref au, .int ((Mpl_ + 7) + ((MB ((Mpl_ + 4)).toNatClampNeg) ||| ((MB ((Mpl_ + 5)).toNatClampNeg) <<< ((8 : Int32) &&& 31)))), .int Mbg, .int Mlo, .int Mhs, .int Mhf, .ref ah, .int Mhp, .int Mrs, .int Mrf, .ref ar, .int Mto, .int Mtb, .ref aw, .ref ay, .int Mpl_, .int ((MB ((Mpl_ + 4)).toNatClampNeg) ||| ((MB ((Mpl_ + 5)).toNatClampNeg) <<< ((8 : Int32) &&& 31))), .int Mhb])), (ab, .inl (g.2.2.1, 4096, .inl MB)), (au, .inl (g.2.2.1, 400, .inl MU)), (ah, .inl (g.2.2.1, 4096, .inl MH)), (ar, .inl (g.2.2.1, 4096, .inl MR)), (aw, .inl (g.2.2.1, 100, .inl MW)), (ay, .inl (g.2.2.1, 100, .inl MY))]) C dX6_fragment_373 (fun w h => List.mem_cons_of_mem _ (List.mem_append_right _ h)) tyX6 tyX6_ok nmX6 0 rfl rfl 6 (by decide) (List.mem_of_getElem? (i := 1) rfl) rfl rfl (by decide +kernel) rfl rfl (Nat.le_of_ble_eq_true rfl) rfl ?_
                      refine z_aload_n C dX6_fragment_376 rfl 1 rfl ?_
                      refine z_get (ci := 5) (v := .int Mpl_) (Cn := RX6) (T := TX6) (N := 23) C dX6_fragment_377 (fun w h => List.mem_cons_of_mem _ (List.mem_append_right _ h)) 0 rfl rfl 20 (by decide) (List.mem_of_getElem? (i := 4) rfl) rfl rfl ?_
                      refine z_aload_n C dX6_fragment_380 rfl 1 rfl ?_
                      refine z_get (ci := 5) (v := .int Mbg) (Cn := RX6) (T := TX6) (N := 23) C dX6_fragment_381 (fun w h => List.mem_cons_of_mem _ (List.mem_append_right _ h)) 0 rfl rfl 7 (by decide) (List.mem_of_getElem? (i := 7) rfl) rfl rfl ?_
                      refine z_icmp_ge (tgt := 392) C dX6_fragment_384 (by decide) (fun c_17 => ?_) (fun c_17 => ?_)
                      · skip
                        refine z_iload_n C dX6_fragment_392 rfl 4 rfl ?_
                        have he : (f_X6_fragment MB MW MY Msz Mal Mpl Mbg Mto Mtb Mfr Mln) = ((MB ((Mpl_ + 6)).toNatClampNeg), MW, MY, ((Mpl_ + 7) + ((MB ((Mpl_ + 4)).toNatClampNeg) ||| ((MB ((Mpl_ + 5)).toNatClampNeg) <<< ((8 : Int32) &&& 31)))), Mto, Mtb, Mpl_, ((MB ((Mpl_ + 4)).toNatClampNeg) ||| ((MB ((Mpl_ + 5)).toNatClampNeg) <<< ((8 : Int32) &&& 31)))) := by rw [← hv]; simp only [lp_X6_fragment, if_pos c_3, if_pos c_4, if_pos c_5, if_neg c_13, ← hic, hvc, if_pos c_16, if_pos c_17]
                        exact hret _ _ _ _ dX6_fragment_393 (by first | rw [he] | rfl) (by first | rw [he] | rfl)
                      · skip
                        refine z_bipush (v := (-2)) C dX6_fragment_387 (by decide) ?_
                        refine z_goto (tgt := 393) C dX6_fragment_389 (by decide) ?_
                        have he : (f_X6_fragment MB MW MY Msz Mal Mpl Mbg Mto Mtb Mfr Mln) = ((-2), MW, MY, ((Mpl_ + 7) + ((MB ((Mpl_ + 4)).toNatClampNeg) ||| ((MB ((Mpl_ + 5)).toNatClampNeg) <<< ((8 : Int32) &&& 31)))), Mto, Mtb, Mpl_, ((MB ((Mpl_ + 4)).toNatClampNeg) ||| ((MB ((Mpl_ + 5)).toNatClampNeg) <<< ((8 : Int32) &&& 31)))) := by rw [← hv]; simp only [lp_X6_fragment, if_pos c_3, if_pos c_4, if_pos c_5, if_neg c_13, ← hic, hvc, if_pos c_16, if_neg c_17]
                        exact hret _ _ _ _ dX6_fragment_393 (by first | rw [he] | rfl) (by first | rw [he] | rfl)
                    · skip
                      refine z_aload_n C dX6_fragment_345 rfl 1 rfl ?_
                      refine z_iload_n C dX6_fragment_346 rfl 3 rfl ?_
                      refine z_put (ci := 5) (v := .int en) (ty := .int) (Cn := RX6) (T := TX6) (N := 23) (ws' := [(M, .inr (5, [.int Mft, .int Msz, .int Mal, .ref ab, .int Mbs, .ref au, .int en, .int Mbg, .int Mlo, .int Mhs, .int Mhf, .ref ah, .int Mhp, .int Mrs, .int Mrf, .ref ar, .int Mto, .int Mtb, .ref aw, .ref ay, .int Mpl_, .int ((MB ((Mpl_ + 4)).toNatClampNeg) ||| ((MB ((Mpl_ + 5)).toNatClampNeg) <<< ((8 : Int32) &&& 31))), .int Mhb])), (ab, .inl (g.2.2.1, 4096, .inl MB)), (au, .inl (g.2.2.1, 400, .inl MU)), (ah, .inl (g.2.2.1, 4096, .inl MH)), (ar, .inl (g.2.2.1, 4096, .inl MR)), (aw, .inl (g.2.2.1, 100, .inl MW)), (ay, .inl (g.2.2.1, 100, .inl MY))]) C dX6_fragment_347 (fun w h => List.mem_cons_of_mem _ (List.mem_append_right _ h)) tyX6 tyX6_ok nmX6 0 rfl rfl 6 (by decide) (List.mem_of_getElem? (i := 1) rfl) rfl rfl (by decide +kernel) rfl rfl (Nat.le_of_ble_eq_true rfl) rfl ?_
                      refine z_aload_n C dX6_fragment_350 rfl 1 rfl ?_
                      refine z_iconst (v := 2) C dX6_fragment_351 (by decide) ?_
                      refine z_iload C dX6_fragment_352 5 rfl ?_
                      refine z_callVv (n := 2) (isC := [0, 1, 2, 3, 4, 5, 6]) (isR := []) (isP := [0, 1, 2, 3, 4, 5, 6]) (As := [.int 2, .int (en - Mpl_)]) (rest := []) (wr := []) (ws2 := [(M, .inr (5, [.int Mft, .int Msz, .int Mal, .ref ab, .int Mbs, .ref au, .int en, .int Mbg, .int Mlo, .int Mhs, .int Mhf, .ref ah, .int Mhp, .int Mrs, .int Mrf, .ref ar, .int ((f_X6_tell MW MY Mto Mtb 2 (en - Mpl_)).2.2.1), .int ((f_X6_tell MW MY Mto Mtb 2 (en - Mpl_)).2.2.2), .ref aw, .ref ay, .int Mpl_, .int ((MB ((Mpl_ + 4)).toNatClampNeg) ||| ((MB ((Mpl_ + 5)).toNatClampNeg) <<< ((8 : Int32) &&& 31))), .int Mhb])), (ab, .inl (g.2.2.1, 4096, .inl MB)), (au, .inl (g.2.2.1, 400, .inl MU)), (ah, .inl (g.2.2.1, 4096, .inl MH)), (ar, .inl (g.2.2.1, 4096, .inl MR)), (aw, .inl (g.2.2.1, 100, .inl ((f_X6_tell MW MY Mto Mtb 2 (en - Mpl_)).1))), (ay, .inl (g.2.2.1, 100, .inl ((f_X6_tell MW MY Mto Mtb 2 (en - Mpl_)).2.1)))]) C dX6_fragment_354 (c_X6_tell (zl X) g M ab au ah ar aw ay MB MU MH MR MW MY Mft Msz Mal Mbs en Mbg Mlo Mhs Mhf Mhp Mrs Mrf Mto Mtb Mpl_ ((MB ((Mpl_ + 4)).toNatClampNeg) ||| ((MB ((Mpl_ + 5)).toNatClampNeg) <<< ((8 : Int32) &&& 31))) Mhb 2 (en - Mpl_) ht) gX6_fragment_X6_tell rfl ⟨rfl, rfl⟩ (by decide +kernel) (by decide) (by decide) rfl rfl rfl rfl (Nat.le_of_ble_eq_true rfl) rfl rfl ⟨rfl, rfl, rfl⟩ (by decide) rfl ?_
                      generalize hT18 : (f_X6_tell MW MY Mto Mtb 2 (en - Mpl_)) = T18
                      obtain ⟨MWq18, MYq18, Mtoq18, Mtbq18⟩ := T18
                      have k18_Mto : zdok (0) Mtoq18 := zdok_X6_tell (zdok_le ht (by omega)) hT18
                      refine z_bipush (v := (-2)) C dX6_fragment_357 (by decide) ?_
                      have he : (f_X6_fragment MB MW MY Msz Mal Mpl Mbg Mto Mtb Mfr Mln) = ((-2), MWq18, MYq18, en, Mtoq18, Mtbq18, Mpl_, ((MB ((Mpl_ + 4)).toNatClampNeg) ||| ((MB ((Mpl_ + 5)).toNatClampNeg) <<< ((8 : Int32) &&& 31)))) := by rw [← hv]; simp only [lp_X6_fragment, if_pos c_3, if_pos c_4, if_pos c_5, if_neg c_13, ← hic, hvc, if_neg c_16, hT18]
                      exact hret _ _ _ _ dX6_fragment_359 (by first | rw [he] | rfl) (by first | rw [he] | rfl)
                  | succ rc ihc =>
                    intro ic hic w hvc 
                    refine z_iload C dX6_fragment_242 6 rfl ?_
                    refine z_aload_n C dX6_fragment_244 rfl 0 rfl ?_
                    refine z_get (ci := 5) (v := .int ((MB ((Mpl_ + 4)).toNatClampNeg) ||| ((MB ((Mpl_ + 5)).toNatClampNeg) <<< ((8 : Int32) &&& 31)))) (Cn := RX6) (T := TX6) (N := 23) C dX6_fragment_245 (fun w h => List.mem_cons_of_mem _ (List.mem_append_right _ h)) 0 rfl rfl 21 (by decide) (List.mem_of_getElem? (i := 6) rfl) rfl rfl ?_
                    refine z_icmp_gt (tgt := 279) C dX6_fragment_248 (by decide) (fun c_19 => absurd c_19 (zfor_ing (zfr_lnG ha hB hp c_3) hic)) (fun c_19 => ?_)
                    refine z_iload C dX6_fragment_251 5 rfl ?_
                    refine z_aload_n C dX6_fragment_253 rfl 0 rfl ?_
                    refine z_get (ci := 5) (v := .ref ab) (Cn := RX6) (T := TX6) (N := 23) C dX6_fragment_254 (fun w h => List.mem_cons_of_mem _ (List.mem_append_right _ h)) 0 rfl rfl 3 (by decide) (List.mem_of_getElem? (i := 5) rfl) rfl rfl ?_
                    refine z_aload_n C dX6_fragment_257 rfl 0 rfl ?_
                    refine z_get (ci := 5) (v := .int Mpl_) (Cn := RX6) (T := TX6) (N := 23) C dX6_fragment_258 (fun w h => List.mem_cons_of_mem _ (List.mem_append_right _ h)) 0 rfl rfl 6 (by decide) (List.mem_of_getElem? (i := 1) rfl) rfl rfl ?_
                    refine z_bipush (v := 6) C dX6_fragment_261 (by decide) ?_
                    refine z_iadd C dX6_fragment_263 ?_
                    refine z_iload C dX6_fragment_264 6 rfl ?_
                    refine z_iadd C dX6_fragment_266 ?_
                    refine z_iald C dX6_fragment_267 1 rfl (zfr_inL ha hp c_3 (zfr_ln ha hB hp c_3) c_4 hic) ?_
                    refine z_callSi (n := 2) (isC := []) (isR := [0, 1, 2, 3, 4, 5, 6]) (isP := [0, 1, 2, 3, 4, 5, 6]) (As := [.int w, .int (MB (((Mpl_ + 6) + (nI ic))).toNatClampNeg)]) (rest := []) (wr := [(M, .inr (5, [.int Mft, .int Msz, .int Mal, .ref ab, .int Mbs, .ref au, .int Mpl_, .int Mbg, .int Mlo, .int Mhs, .int Mhf, .ref ah, .int Mhp, .int Mrs, .int Mrf, .ref ar, .int Mto, .int Mtb, .ref aw, .ref ay, .int Mpl_, .int ((MB ((Mpl_ + 4)).toNatClampNeg) ||| ((MB ((Mpl_ + 5)).toNatClampNeg) <<< ((8 : Int32) &&& 31))), .int Mhb])), (ab, .inl (g.2.2.1, 4096, .inl MB)), (au, .inl (g.2.2.1, 400, .inl MU)), (ah, .inl (g.2.2.1, 4096, .inl MH)), (ar, .inl (g.2.2.1, 4096, .inl MR)), (aw, .inl (g.2.2.1, 100, .inl MW)), (ay, .inl (g.2.2.1, 100, .inl MY))]) (ws2 := [(M, .inr (5, [.int Mft, .int Msz, .int Mal, .ref ab, .int Mbs, .ref au, .int Mpl_, .int Mbg, .int Mlo, .int Mhs, .int Mhf, .ref ah, .int Mhp, .int Mrs, .int Mrf, .ref ar, .int Mto, .int Mtb, .ref aw, .ref ay, .int Mpl_, .int ((MB ((Mpl_ + 4)).toNatClampNeg) ||| ((MB ((Mpl_ + 5)).toNatClampNeg) <<< ((8 : Int32) &&& 31))), .int Mhb])), (ab, .inl (g.2.2.1, 4096, .inl MB)), (au, .inl (g.2.2.1, 400, .inl MU)), (ah, .inl (g.2.2.1, 4096, .inl MH)), (ar, .inl (g.2.2.1, 4096, .inl MR)), (aw, .inl (g.2.2.1, 100, .inl MW)), (ay, .inl (g.2.2.1, 100, .inl MY))]) C dX6_fragment_268 (c_X6_more (zl X) g w (MB (((Mpl_ + 6) + (nI ic))).toNatClampNeg)) gX6_fragment_X6_more rfl ⟨rfl, rfl⟩ (by decide +kernel) (by decide) (by decide) rfl rfl (Nat.le_of_ble_eq_true rfl) rfl rfl ⟨rfl, rfl, rfl⟩ (by decide) rfl ?_
                    generalize hT20 : (f_X6_more w (MB (((Mpl_ + 6) + (nI ic))).toNatClampNeg)) = rq20
                    refine z_istore (lv' := [(5, .int rq20), (0, .ref M), (1, .int iw), (2, .int en), (3, .int (MB ((Mpl_ + 6)).toNatClampNeg)), (4, .int (en - Mpl_)), (6, .int (nI ic))]) C dX6_fragment_271 (by decide) rfl ?_
                    refine z_iinc (v := (nI (ic + 1))) (lv' := [(6, .int (nI (ic + 1))), (5, .int rq20), (0, .ref M), (1, .int iw), (2, .int en), (3, .int (MB ((Mpl_ + 6)).toNatClampNeg)), (4, .int (en - Mpl_))]) C dX6_fragment_273 6 rfl (nI_1 ic) (by decide) rfl ?_
                    refine z_goto (tgt := 242) C dX6_fragment_276 (by decide) ?_
                    have hsc : lpc_X6_fragment MB Mpl_ (-1) (ic + 1) = rq20 := by
                      show bc_X6_fragment MB Mpl_ (nI ic) (lpc_X6_fragment MB Mpl_ (-1) ic) = _
                      rw [hvc]
                      simp only [bc_X6_fragment, hT20]
                    exact z_lv [2, 3, 4, 5, 6, 1, 0] rfl (ihc (ic + 1) (by omega) rq20 hsc )
                exact z_lv [4, 5, 6, 3, 2, 1, 0] rfl (loopc ((((MB ((Mpl_ + 4)).toNatClampNeg) ||| ((MB ((Mpl_ + 5)).toNatClampNeg) <<< ((8 : Int32) &&& 31))) + 1)).toNatClampNeg 0 (Nat.zero_add _) (-1) rfl)
              · skip
                refine z_aload_n C dX6_fragment_228 rfl 2 rfl ?_
                refine z_iload_n C dX6_fragment_229 rfl 4 rfl ?_
                refine z_put (ci := 5) (v := .int en) (ty := .int) (Cn := RX6) (T := TX6) (N := 23) (ws' := [(M, .inr (5, [.int Mft, .int Msz, .int Mal, .ref ab, .int Mbs, .ref au, .int en, .int Mbg, .int Mlo, .int Mhs, .int Mhf, .ref ah, .int Mhp, .int Mrs, .int Mrf, .ref ar, .int Mto, .int Mtb, .ref aw, .ref ay, .int Mpl_, .int ((MB ((Mpl_ + 4)).toNatClampNeg) ||| ((MB ((Mpl_ + 5)).toNatClampNeg) <<< ((8 : Int32) &&& 31))), .int Mhb])), (ab, .inl (g.2.2.1, 4096, .inl MB)), (au, .inl (g.2.2.1, 400, .inl MU)), (ah, .inl (g.2.2.1, 4096, .inl MH)), (ar, .inl (g.2.2.1, 4096, .inl MR)), (aw, .inl (g.2.2.1, 100, .inl MW)), (ay, .inl (g.2.2.1, 100, .inl MY))]) C dX6_fragment_230 (fun w h => List.mem_cons_of_mem _ (List.mem_append_right _ h)) tyX6 tyX6_ok nmX6 0 rfl rfl 6 (by decide) (List.mem_of_getElem? (i := 1) rfl) rfl rfl (by decide +kernel) rfl rfl (Nat.le_of_ble_eq_true rfl) rfl ?_
                refine z_bipush (v := (-2)) C dX6_fragment_233 (by decide) ?_
                have he : (f_X6_fragment MB MW MY Msz Mal Mpl Mbg Mto Mtb Mfr Mln) = ((-2), MW, MY, en, Mto, Mtb, Mpl_, ((MB ((Mpl_ + 4)).toNatClampNeg) ||| ((MB ((Mpl_ + 5)).toNatClampNeg) <<< ((8 : Int32) &&& 31)))) := by rw [← hv]; simp only [lp_X6_fragment, if_pos c_3, if_pos c_4, if_pos c_5, if_pos c_13]
                exact hret _ _ _ _ dX6_fragment_235 (by first | rw [he] | rfl) (by first | rw [he] | rfl)
          · skip
            refine z_iload_n C dX6_fragment_196 rfl 3 rfl ?_
            refine z_if_ne (tgt := 202) C dX6_fragment_197 (by decide) (fun c_21 => ?_) (fun c_21 => ?_)
            · skip
              refine z_aload_n C dX6_fragment_202 rfl 2 rfl ?_
              refine z_iload_n C dX6_fragment_203 rfl 4 rfl ?_
              refine z_put (ci := 5) (v := .int en) (ty := .int) (Cn := RX6) (T := TX6) (N := 23) (ws' := [(M, .inr (5, [.int Mft, .int Msz, .int Mal, .ref ab, .int Mbs, .ref au, .int en, .int Mbg, .int Mlo, .int Mhs, .int Mhf, .ref ah, .int Mhp, .int Mrs, .int Mrf, .ref ar, .int Mto, .int Mtb, .ref aw, .ref ay, .int Mpl_, .int ((MB ((Mpl_ + 4)).toNatClampNeg) ||| ((MB ((Mpl_ + 5)).toNatClampNeg) <<< ((8 : Int32) &&& 31))), .int Mhb])), (ab, .inl (g.2.2.1, 4096, .inl MB)), (au, .inl (g.2.2.1, 400, .inl MU)), (ah, .inl (g.2.2.1, 4096, .inl MH)), (ar, .inl (g.2.2.1, 4096, .inl MR)), (aw, .inl (g.2.2.1, 100, .inl MW)), (ay, .inl (g.2.2.1, 100, .inl MY))]) C dX6_fragment_204 (fun w h => List.mem_cons_of_mem _ (List.mem_append_right _ h)) tyX6 tyX6_ok nmX6 0 rfl rfl 6 (by decide) (List.mem_of_getElem? (i := 1) rfl) rfl rfl (by decide +kernel) rfl rfl (Nat.le_of_ble_eq_true rfl) rfl ?_
              refine z_aload_n C dX6_fragment_207 rfl 2 rfl ?_
              refine z_iconst (v := 1) C dX6_fragment_208 (by decide) ?_
              refine z_iload C dX6_fragment_209 0 rfl ?_
              refine z_callVv (n := 2) (isC := [0, 1, 2, 3, 4, 5, 6]) (isR := []) (isP := [0, 1, 2, 3, 4, 5, 6]) (As := [.int 1, .int (en - Mpl_)]) (rest := []) (wr := []) (ws2 := [(M, .inr (5, [.int Mft, .int Msz, .int Mal, .ref ab, .int Mbs, .ref au, .int en, .int Mbg, .int Mlo, .int Mhs, .int Mhf, .ref ah, .int Mhp, .int Mrs, .int Mrf, .ref ar, .int ((f_X6_tell MW MY Mto Mtb 1 (en - Mpl_)).2.2.1), .int ((f_X6_tell MW MY Mto Mtb 1 (en - Mpl_)).2.2.2), .ref aw, .ref ay, .int Mpl_, .int ((MB ((Mpl_ + 4)).toNatClampNeg) ||| ((MB ((Mpl_ + 5)).toNatClampNeg) <<< ((8 : Int32) &&& 31))), .int Mhb])), (ab, .inl (g.2.2.1, 4096, .inl MB)), (au, .inl (g.2.2.1, 400, .inl MU)), (ah, .inl (g.2.2.1, 4096, .inl MH)), (ar, .inl (g.2.2.1, 4096, .inl MR)), (aw, .inl (g.2.2.1, 100, .inl ((f_X6_tell MW MY Mto Mtb 1 (en - Mpl_)).1))), (ay, .inl (g.2.2.1, 100, .inl ((f_X6_tell MW MY Mto Mtb 1 (en - Mpl_)).2.1)))]) C dX6_fragment_211 (c_X6_tell (zl X) g M ab au ah ar aw ay MB MU MH MR MW MY Mft Msz Mal Mbs en Mbg Mlo Mhs Mhf Mhp Mrs Mrf Mto Mtb Mpl_ ((MB ((Mpl_ + 4)).toNatClampNeg) ||| ((MB ((Mpl_ + 5)).toNatClampNeg) <<< ((8 : Int32) &&& 31))) Mhb 1 (en - Mpl_) ht) gX6_fragment_X6_tell rfl ⟨rfl, rfl⟩ (by decide +kernel) (by decide) (by decide) rfl rfl rfl rfl (Nat.le_of_ble_eq_true rfl) rfl rfl ⟨rfl, rfl, rfl⟩ (by decide) rfl ?_
              generalize hT22 : (f_X6_tell MW MY Mto Mtb 1 (en - Mpl_)) = T22
              obtain ⟨MWq22, MYq22, Mtoq22, Mtbq22⟩ := T22
              have k22_Mto : zdok (0) Mtoq22 := zdok_X6_tell (zdok_le ht (by omega)) hT22
              refine z_bipush (v := (-2)) C dX6_fragment_214 (by decide) ?_
              have he : (f_X6_fragment MB MW MY Msz Mal Mpl Mbg Mto Mtb Mfr Mln) = ((-2), MWq22, MYq22, en, Mtoq22, Mtbq22, Mpl_, ((MB ((Mpl_ + 4)).toNatClampNeg) ||| ((MB ((Mpl_ + 5)).toNatClampNeg) <<< ((8 : Int32) &&& 31)))) := by rw [← hv]; simp only [lp_X6_fragment, if_pos c_3, if_neg c_4, if_neg c_21, hT22]
              exact hret _ _ _ _ dX6_fragment_216 (by first | rw [he] | rfl) (by first | rw [he] | rfl)
            · skip
              refine z_iconst (v := (-1)) C dX6_fragment_200 (by decide) ?_
              have he : (f_X6_fragment MB MW MY Msz Mal Mpl Mbg Mto Mtb Mfr Mln) = ((-1), MW, MY, Mpl_, Mto, Mtb, Mpl_, ((MB ((Mpl_ + 4)).toNatClampNeg) ||| ((MB ((Mpl_ + 5)).toNatClampNeg) <<< ((8 : Int32) &&& 31)))) := by rw [← hv]; simp only [lp_X6_fragment, if_pos c_3, if_neg c_4, if_pos c_21]
              exact hret _ _ _ _ dX6_fragment_201 (by first | rw [he] | rfl) (by first | rw [he] | rfl)
        · skip
          refine z_iload_n C dX6_fragment_68 rfl 1 rfl ?_
          refine z_if_ne (tgt := 74) C dX6_fragment_69 (by decide) (fun c_23 => ?_) (fun c_23 => ?_)
          · skip
            refine z_aload_n C dX6_fragment_74 rfl 0 rfl ?_
            refine z_iload_n C dX6_fragment_75 rfl 2 rfl ?_
            refine z_put (ci := 5) (v := .int en) (ty := .int) (Cn := RX6) (T := TX6) (N := 23) (ws' := [(M, .inr (5, [.int Mft, .int Msz, .int Mal, .ref ab, .int Mbs, .ref au, .int en, .int Mbg, .int Mlo, .int Mhs, .int Mhf, .ref ah, .int Mhp, .int Mrs, .int Mrf, .ref ar, .int Mto, .int Mtb, .ref aw, .ref ay, .int Mfr, .int Mln, .int Mhb])), (ab, .inl (g.2.2.1, 4096, .inl MB)), (au, .inl (g.2.2.1, 400, .inl MU)), (ah, .inl (g.2.2.1, 4096, .inl MH)), (ar, .inl (g.2.2.1, 4096, .inl MR)), (aw, .inl (g.2.2.1, 100, .inl MW)), (ay, .inl (g.2.2.1, 100, .inl MY))]) C dX6_fragment_76 (fun w h => List.mem_cons_of_mem _ (List.mem_append_right _ h)) tyX6 tyX6_ok nmX6 0 rfl rfl 6 (by decide) (List.mem_of_getElem? (i := 1) rfl) rfl rfl (by decide +kernel) rfl rfl (Nat.le_of_ble_eq_true rfl) rfl ?_
            refine z_aload_n C dX6_fragment_79 rfl 0 rfl ?_
            refine z_get (ci := 5) (v := .int en) (Cn := RX6) (T := TX6) (N := 23) C dX6_fragment_80 (fun w h => List.mem_cons_of_mem _ (List.mem_append_right _ h)) 0 rfl rfl 6 (by decide) (List.mem_of_getElem? (i := 1) rfl) rfl rfl ?_
            refine z_aload_n C dX6_fragment_83 rfl 0 rfl ?_
            refine z_get (ci := 5) (v := .int Msz) (Cn := RX6) (T := TX6) (N := 23) C dX6_fragment_84 (fun w h => List.mem_cons_of_mem _ (List.mem_append_right _ h)) 0 rfl rfl 1 (by decide) (List.mem_of_getElem? (i := 2) rfl) rfl rfl ?_
            refine z_iadd C dX6_fragment_87 ?_
            refine z_aload_n C dX6_fragment_88 rfl 0 rfl ?_
            refine z_get (ci := 5) (v := .int Mal) (Cn := RX6) (T := TX6) (N := 23) C dX6_fragment_89 (fun w h => List.mem_cons_of_mem _ (List.mem_append_right _ h)) 0 rfl rfl 2 (by decide) (List.mem_of_getElem? (i := 3) rfl) rfl rfl ?_
            refine z_icmp_gt (tgt := 99) C dX6_fragment_92 (by decide) (fun c_24 => ?_) (fun c_24 => ?_)
            · skip
              refine z_iconst (v := 0) C dX6_fragment_99 (by decide) ?_
              refine z_istore_n (lv' := [(1, .int 0), (0, .ref M), (2, .int en)]) C dX6_fragment_100 rfl (by decide) rfl ?_
              refine z_iload_n C dX6_fragment_101 rfl 0 rfl ?_
              refine z_if_eq (tgt := 117) C dX6_fragment_102 (by decide) (fun c_25 => ?_) (fun c_25 => absurd (by decide) c_25)
              refine z_aload_n C dX6_fragment_117 rfl 1 rfl ?_
              refine z_get (ci := 5) (v := .int Mal) (Cn := RX6) (T := TX6) (N := 23) C dX6_fragment_118 (fun w h => List.mem_cons_of_mem _ (List.mem_append_right _ h)) 0 rfl rfl 2 (by decide) (List.mem_of_getElem? (i := 3) rfl) rfl rfl ?_
              refine z_istore_n (lv' := [(2, .int Mal), (1, .int 0), (0, .ref M)]) C dX6_fragment_121 rfl (by decide) rfl ?_
              refine z_goto (tgt := 57) C dX6_fragment_122 (by decide) ?_
              exact z_lv [2, 1, 0] rfl (ih 0 Mal en (zfr_back0 hz ha hp c_3 c_23 c_24) (by rw [← hv]; simp only [lp_X6_fragment, if_neg c_3, if_neg c_23, if_pos c_24]))
            · skip
              refine z_iconst (v := 1) C dX6_fragment_95 (by decide) ?_
              refine z_goto (tgt := 100) C dX6_fragment_96 (by decide) ?_
              refine z_istore_n (lv' := [(1, .int 1), (0, .ref M), (2, .int en)]) C dX6_fragment_100 rfl (by decide) rfl ?_
              refine z_iload_n C dX6_fragment_101 rfl 0 rfl ?_
              refine z_if_eq (tgt := 117) C dX6_fragment_102 (by decide) (fun c_26 => absurd c_26 (by decide)) (fun c_26 => ?_)
              refine z_aload_n C dX6_fragment_105 rfl 1 rfl ?_
              refine z_get (ci := 5) (v := .int en) (Cn := RX6) (T := TX6) (N := 23) C dX6_fragment_106 (fun w h => List.mem_cons_of_mem _ (List.mem_append_right _ h)) 0 rfl rfl 6 (by decide) (List.mem_of_getElem? (i := 1) rfl) rfl rfl ?_
              refine z_aload_n C dX6_fragment_109 rfl 1 rfl ?_
              refine z_get (ci := 5) (v := .int Msz) (Cn := RX6) (T := TX6) (N := 23) C dX6_fragment_110 (fun w h => List.mem_cons_of_mem _ (List.mem_append_right _ h)) 0 rfl rfl 1 (by decide) (List.mem_of_getElem? (i := 2) rfl) rfl rfl ?_
              refine z_iadd C dX6_fragment_113 ?_
              refine z_goto (tgt := 121) C dX6_fragment_114 (by decide) ?_
              refine z_istore_n (lv' := [(2, .int (en + Msz)), (1, .int 1), (0, .ref M)]) C dX6_fragment_121 rfl (by decide) rfl ?_
              refine z_goto (tgt := 57) C dX6_fragment_122 (by decide) ?_
              exact z_lv [2, 1, 0] rfl (ih 1 (en + Msz) en (zfr_back1 hz ha hp c_3 c_23 c_24) (by rw [← hv]; simp only [lp_X6_fragment, if_neg c_3, if_neg c_23, if_neg c_24]))
          · skip
            refine z_iconst (v := (-1)) C dX6_fragment_72 (by decide) ?_
            have he : (f_X6_fragment MB MW MY Msz Mal Mpl Mbg Mto Mtb Mfr Mln) = ((-1), MW, MY, Mpl_, Mto, Mtb, Mfr, Mln) := by rw [← hv]; simp only [lp_X6_fragment, if_neg c_3, if_pos c_23]
            exact hret _ _ _ _ dX6_fragment_73 (by first | rw [he] | rfl) (by first | rw [he] | rfl)
    exact z_lv [2, 1, 0] rfl (loop 4 0 Mal Mpl (zfr_init0 hz ha hpl c_1) (by simp only [f_X6_fragment, if_pos c_1]))
  · skip
    refine z_iconst (v := 1) C dX6_fragment_23 (by decide) ?_
    refine z_goto (tgt := 28) C dX6_fragment_24 (by decide) ?_
    refine z_istore_n (lv' := [(1, .int 1), (0, .ref M)]) C dX6_fragment_28 rfl (by decide) rfl ?_
    refine z_iload_n C dX6_fragment_29 rfl 0 rfl ?_
    refine z_if_eq (tgt := 52) C dX6_fragment_30 (by decide) (fun c_27 => absurd c_27 (by decide)) (fun c_27 => ?_)
    refine z_aload_n C dX6_fragment_33 rfl 1 rfl ?_
    refine z_get (ci := 5) (v := .int Mpl) (Cn := RX6) (T := TX6) (N := 23) C dX6_fragment_34 (fun w h => List.mem_cons_of_mem _ (List.mem_append_right _ h)) 0 rfl rfl 6 (by decide) (List.mem_of_getElem? (i := 1) rfl) rfl rfl ?_
    refine z_aload_n C dX6_fragment_37 rfl 1 rfl ?_
    refine z_get (ci := 5) (v := .int Msz) (Cn := RX6) (T := TX6) (N := 23) C dX6_fragment_38 (fun w h => List.mem_cons_of_mem _ (List.mem_append_right _ h)) 0 rfl rfl 1 (by decide) (List.mem_of_getElem? (i := 2) rfl) rfl rfl ?_
    refine z_idiv C dX6_fragment_41 (zsz_ne hz) ?_
    refine z_iconst (v := 1) C dX6_fragment_42 (by decide) ?_
    refine z_iadd C dX6_fragment_43 ?_
    refine z_aload_n C dX6_fragment_44 rfl 1 rfl ?_
    refine z_get (ci := 5) (v := .int Msz) (Cn := RX6) (T := TX6) (N := 23) C dX6_fragment_45 (fun w h => List.mem_cons_of_mem _ (List.mem_append_right _ h)) 0 rfl rfl 1 (by decide) (List.mem_of_getElem? (i := 2) rfl) rfl rfl ?_
    refine z_imul C dX6_fragment_48 ?_
    refine z_goto (tgt := 56) C dX6_fragment_49 (by decide) ?_
    refine z_istore_n (lv' := [(2, .int (((Mpl / Msz) + 1) * Msz)), (1, .int 1), (0, .ref M)]) C dX6_fragment_56 rfl (by decide) rfl ?_
    have loop : ∀ (n : Nat) (iw : Int32) (en : Int32) (Mpl_ : Int32), zfr Msz Mal n iw en Mpl_ → lp_X6_fragment MB MW MY Msz Mal Mbg Mto Mtb Mfr Mln n iw en Mpl_ = (f_X6_fragment MB MW MY Msz Mal Mpl Mbg Mto Mtb Mfr Mln) → zV X g 7 0 0 57 [(0, .ref M), (1, .int iw), (2, .int en)] [] [(M, .inr (5, [.int Mft, .int Msz, .int Mal, .ref ab, .int Mbs, .ref au, .int Mpl_, .int Mbg, .int Mlo, .int Mhs, .int Mhf, .ref ah, .int Mhp, .int Mrs, .int Mrf, .ref ar, .int Mto, .int Mtb, .ref aw, .ref ay, .int Mfr, .int Mln, .int Mhb])), (ab, .inl (g.2.2.1, 4096, .inl MB)), (au, .inl (g.2.2.1, 400, .inl MU)), (ah, .inl (g.2.2.1, 4096, .inl MH)), (ar, .inl (g.2.2.1, 4096, .inl MR)), (aw, .inl (g.2.2.1, 100, .inl MW)), (ay, .inl (g.2.2.1, 100, .inl MY))] := by
      intro n
      induction n with
      | zero =>
        intro iw en Mpl_ hp hv
        exact absurd (zfr_z hp) id
      | succ n ih =>
        intro iw en Mpl_ hp hv
        refine z_iload_n C dX6_fragment_57 rfl 2 rfl ?_
        refine z_aload_n C dX6_fragment_58 rfl 0 rfl ?_
        refine z_get (ci := 5) (v := .int Mpl_) (Cn := RX6) (T := TX6) (N := 23) C dX6_fragment_59 (fun w h => List.mem_cons_of_mem _ (List.mem_append_right _ h)) 0 rfl rfl 6 (by decide) (List.mem_of_getElem? (i := 1) rfl) rfl rfl ?_
        refine z_isub C dX6_fragment_62 ?_
        refine z_bipush (v := 7) C dX6_fragment_63 (by decide) ?_
        refine z_icmp_ge (tgt := 125) C dX6_fragment_65 (by decide) (fun c_28 => ?_) (fun c_28 => ?_)
        · skip
          refine z_aload_n C dX6_fragment_125 rfl 0 rfl ?_
          refine z_aload_n C dX6_fragment_126 rfl 0 rfl ?_
          refine z_get (ci := 5) (v := .int Mpl_) (Cn := RX6) (T := TX6) (N := 23) C dX6_fragment_127 (fun w h => List.mem_cons_of_mem _ (List.mem_append_right _ h)) 0 rfl rfl 6 (by decide) (List.mem_of_getElem? (i := 1) rfl) rfl rfl ?_
          refine z_put (ci := 5) (v := .int Mpl_) (ty := .int) (Cn := RX6) (T := TX6) (N := 23) (ws' := [(M, .inr (5, [.int Mft, .int Msz, .int Mal, .ref ab, .int Mbs, .ref au, .int Mpl_, .int Mbg, .int Mlo, .int Mhs, .int Mhf, .ref ah, .int Mhp, .int Mrs, .int Mrf, .ref ar, .int Mto, .int Mtb, .ref aw, .ref ay, .int Mpl_, .int Mln, .int Mhb])), (ab, .inl (g.2.2.1, 4096, .inl MB)), (au, .inl (g.2.2.1, 400, .inl MU)), (ah, .inl (g.2.2.1, 4096, .inl MH)), (ar, .inl (g.2.2.1, 4096, .inl MR)), (aw, .inl (g.2.2.1, 100, .inl MW)), (ay, .inl (g.2.2.1, 100, .inl MY))]) C dX6_fragment_130 (fun w h => List.mem_cons_of_mem _ (List.mem_append_right _ h)) tyX6 tyX6_ok nmX6 0 rfl rfl 20 (by decide) (List.mem_of_getElem? (i := 4) rfl) rfl rfl (by decide +kernel) rfl rfl (Nat.le_of_ble_eq_true rfl) rfl ?_
          refine z_aload_n C dX6_fragment_133 rfl 0 rfl ?_
          refine z_aload_n C dX6_fragment_134 rfl 0 rfl ?_
          refine z_get (ci := 5) (v := .ref ab) (Cn := RX6) (T := TX6) (N := 23) C dX6_fragment_135 (fun w h => List.mem_cons_of_mem _ (List.mem_append_right _ h)) 0 rfl rfl 3 (by decide) (List.mem_of_getElem? (i := 5) rfl) rfl rfl ?_
          refine z_aload_n C dX6_fragment_138 rfl 0 rfl ?_
          refine z_get (ci := 5) (v := .int Mpl_) (Cn := RX6) (T := TX6) (N := 23) C dX6_fragment_139 (fun w h => List.mem_cons_of_mem _ (List.mem_append_right _ h)) 0 rfl rfl 6 (by decide) (List.mem_of_getElem? (i := 1) rfl) rfl rfl ?_
          refine z_iconst (v := 4) C dX6_fragment_142 (by decide) ?_
          refine z_iadd C dX6_fragment_143 ?_
          refine z_iald C dX6_fragment_144 1 rfl (zfr_in4 ha hp c_28) ?_
          refine z_aload_n C dX6_fragment_145 rfl 0 rfl ?_
          refine z_get (ci := 5) (v := .ref ab) (Cn := RX6) (T := TX6) (N := 23) C dX6_fragment_146 (fun w h => List.mem_cons_of_mem _ (List.mem_append_right _ h)) 0 rfl rfl 3 (by decide) (List.mem_of_getElem? (i := 5) rfl) rfl rfl ?_
          refine z_aload_n C dX6_fragment_149 rfl 0 rfl ?_
          refine z_get (ci := 5) (v := .int Mpl_) (Cn := RX6) (T := TX6) (N := 23) C dX6_fragment_150 (fun w h => List.mem_cons_of_mem _ (List.mem_append_right _ h)) 0 rfl rfl 6 (by decide) (List.mem_of_getElem? (i := 1) rfl) rfl rfl ?_
          refine z_iconst (v := 5) C dX6_fragment_153 (by decide) ?_
          refine z_iadd C dX6_fragment_154 ?_
          refine z_iald C dX6_fragment_155 1 rfl (zfr_in5 ha hp c_28) ?_
          refine z_bipush (v := 8) C dX6_fragment_156 (by decide) ?_
          refine z_ishl C dX6_fragment_158 ?_
          refine z_ior C dX6_fragment_159 ?_
          refine z_put (ci := 5) (v := .int ((MB ((Mpl_ + 4)).toNatClampNeg) ||| ((MB ((Mpl_ + 5)).toNatClampNeg) <<< ((8 : Int32) &&& 31)))) (ty := .int) (Cn := RX6) (T := TX6) (N := 23) (ws' := [(M, .inr (5, [.int Mft, .int Msz, .int Mal, .ref ab, .int Mbs, .ref au, .int Mpl_, .int Mbg, .int Mlo, .int Mhs, .int Mhf, .ref ah, .int Mhp, .int Mrs, .int Mrf, .ref ar, .int Mto, .int Mtb, .ref aw, .ref ay, .int Mpl_, .int ((MB ((Mpl_ + 4)).toNatClampNeg) ||| ((MB ((Mpl_ + 5)).toNatClampNeg) <<< ((8 : Int32) &&& 31))), .int Mhb])), (ab, .inl (g.2.2.1, 4096, .inl MB)), (au, .inl (g.2.2.1, 400, .inl MU)), (ah, .inl (g.2.2.1, 4096, .inl MH)), (ar, .inl (g.2.2.1, 4096, .inl MR)), (aw, .inl (g.2.2.1, 100, .inl MW)), (ay, .inl (g.2.2.1, 100, .inl MY))]) C dX6_fragment_160 (fun w h => List.mem_cons_of_mem _ (List.mem_append_right _ h)) tyX6 tyX6_ok nmX6 0 rfl rfl 21 (by decide) (List.mem_of_getElem? (i := 6) rfl) rfl rfl (by decide +kernel) rfl rfl (Nat.le_of_ble_eq_true rfl) rfl ?_
          refine z_aload_n C dX6_fragment_163 rfl 0 rfl ?_
          refine z_get (ci := 5) (v := .ref ab) (Cn := RX6) (T := TX6) (N := 23) C dX6_fragment_164 (fun w h => List.mem_cons_of_mem _ (List.mem_append_right _ h)) 0 rfl rfl 3 (by decide) (List.mem_of_getElem? (i := 5) rfl) rfl rfl ?_
          refine z_aload_n C dX6_fragment_167 rfl 0 rfl ?_
          refine z_get (ci := 5) (v := .int Mpl_) (Cn := RX6) (T := TX6) (N := 23) C dX6_fragment_168 (fun w h => List.mem_cons_of_mem _ (List.mem_append_right _ h)) 0 rfl rfl 6 (by decide) (List.mem_of_getElem? (i := 1) rfl) rfl rfl ?_
          refine z_bipush (v := 6) C dX6_fragment_171 (by decide) ?_
          refine z_iadd C dX6_fragment_173 ?_
          refine z_iald C dX6_fragment_174 1 rfl (zfr_in6 ha hp c_28) ?_
          refine z_istore_n (lv' := [(3, .int (MB ((Mpl_ + 6)).toNatClampNeg)), (0, .ref M), (1, .int iw), (2, .int en)]) C dX6_fragment_175 rfl (by decide) rfl ?_
          refine z_iload_n C dX6_fragment_176 rfl 3 rfl ?_
          refine z_aload_n C dX6_fragment_177 rfl 1 rfl ?_
          refine z_get (ci := 5) (v := .int Mpl_) (Cn := RX6) (T := TX6) (N := 23) C dX6_fragment_178 (fun w h => List.mem_cons_of_mem _ (List.mem_append_right _ h)) 0 rfl rfl 6 (by decide) (List.mem_of_getElem? (i := 1) rfl) rfl rfl ?_
          refine z_isub C dX6_fragment_181 ?_
          refine z_istore (lv' := [(4, .int (en - Mpl_)), (3, .int (MB ((Mpl_ + 6)).toNatClampNeg)), (0, .ref M), (1, .int iw), (2, .int en)]) C dX6_fragment_182 (by decide) rfl ?_
          refine z_bipush (v := 7) C dX6_fragment_184 (by decide) ?_
          refine z_aload_n C dX6_fragment_186 rfl 2 rfl ?_
          refine z_get (ci := 5) (v := .int ((MB ((Mpl_ + 4)).toNatClampNeg) ||| ((MB ((Mpl_ + 5)).toNatClampNeg) <<< ((8 : Int32) &&& 31)))) (Cn := RX6) (T := TX6) (N := 23) C dX6_fragment_187 (fun w h => List.mem_cons_of_mem _ (List.mem_append_right _ h)) 0 rfl rfl 21 (by decide) (List.mem_of_getElem? (i := 6) rfl) rfl rfl ?_
          refine z_iadd C dX6_fragment_190 ?_
          refine z_iload C dX6_fragment_191 0 rfl ?_
          refine z_icmp_le (tgt := 217) C dX6_fragment_193 (by decide) (fun c_29 => ?_) (fun c_29 => ?_)
          · skip
            refine z_iload_n C dX6_fragment_217 rfl 1 rfl ?_
            refine z_if_ne (tgt := 236) C dX6_fragment_218 (by decide) (fun c_30 => ?_) (fun c_30 => ?_)
            · skip
              refine z_iconst (v := (-1)) C dX6_fragment_236 (by decide) ?_
              refine z_istore (lv' := [(5, .int (-1)), (4, .int (en - Mpl_)), (3, .int (MB ((Mpl_ + 6)).toNatClampNeg)), (0, .ref M), (1, .int iw), (2, .int en)]) C dX6_fragment_237 (by decide) rfl ?_
              refine z_iconst (v := 0) C dX6_fragment_239 (by decide) ?_
              refine z_istore (lv' := [(6, .int 0), (5, .int (-1)), (4, .int (en - Mpl_)), (3, .int (MB ((Mpl_ + 6)).toNatClampNeg)), (0, .ref M), (1, .int iw), (2, .int en)]) C dX6_fragment_240 (by decide) rfl ?_
              have loopc : ∀ (rc ic : Nat), ic + rc = ((((MB ((Mpl_ + 4)).toNatClampNeg) ||| ((MB ((Mpl_ + 5)).toNatClampNeg) <<< ((8 : Int32) &&& 31))) + 1)).toNatClampNeg → ∀ (w : Int32), lpc_X6_fragment MB Mpl_ (-1) ic = w → zV X g 7 0 0 242 [(0, .ref M), (1, .int iw), (2, .int en), (3, .int (MB ((Mpl_ + 6)).toNatClampNeg)), (4, .int (en - Mpl_)), (5, .int w), (6, .int (nI ic))] [] [(M, .inr (5, [.int Mft, .int Msz, .int Mal, .ref ab, .int Mbs, .ref au, .int Mpl_, .int Mbg, .int Mlo, .int Mhs, .int Mhf, .ref ah, .int Mhp, .int Mrs, .int Mrf, .ref ar, .int Mto, .int Mtb, .ref aw, .ref ay, .int Mpl_, .int ((MB ((Mpl_ + 4)).toNatClampNeg) ||| ((MB ((Mpl_ + 5)).toNatClampNeg) <<< ((8 : Int32) &&& 31))), .int Mhb])), (ab, .inl (g.2.2.1, 4096, .inl MB)), (au, .inl (g.2.2.1, 400, .inl MU)), (ah, .inl (g.2.2.1, 4096, .inl MH)), (ar, .inl (g.2.2.1, 4096, .inl MR)), (aw, .inl (g.2.2.1, 100, .inl MW)), (ay, .inl (g.2.2.1, 100, .inl MY))] := by
                intro rc
                induction rc with
                | zero =>
                  intro ic hic w hvc 
                  have hic : ic = ((((MB ((Mpl_ + 4)).toNatClampNeg) ||| ((MB ((Mpl_ + 5)).toNatClampNeg) <<< ((8 : Int32) &&& 31))) + 1)).toNatClampNeg := hic
                  refine z_iload C dX6_fragment_242 6 rfl ?_
                  refine z_aload_n C dX6_fragment_244 rfl 0 rfl ?_
                  refine z_get (ci := 5) (v := .int ((MB ((Mpl_ + 4)).toNatClampNeg) ||| ((MB ((Mpl_ + 5)).toNatClampNeg) <<< ((8 : Int32) &&& 31)))) (Cn := RX6) (T := TX6) (N := 23) C dX6_fragment_245 (fun w h => List.mem_cons_of_mem _ (List.mem_append_right _ h)) 0 rfl rfl 21 (by decide) (List.mem_of_getElem? (i := 6) rfl) rfl rfl ?_
                  refine z_icmp_gt (tgt := 279) C dX6_fragment_248 (by decide) (fun c_31 => ?_) (fun c_31 => absurd (zfor_outg (zfr_lnG ha hB hp c_28) hic) c_31)
                  refine z_iload C dX6_fragment_279 5 rfl ?_
                  refine z_callSi (n := 1) (isC := []) (isR := [0, 1, 2, 3, 4, 5, 6]) (isP := [0, 1, 2, 3, 4, 5, 6]) (As := [.int w]) (rest := []) (wr := [(M, .inr (5, [.int Mft, .int Msz, .int Mal, .ref ab, .int Mbs, .ref au, .int Mpl_, .int Mbg, .int Mlo, .int Mhs, .int Mhf, .ref ah, .int Mhp, .int Mrs, .int Mrf, .ref ar, .int Mto, .int Mtb, .ref aw, .ref ay, .int Mpl_, .int ((MB ((Mpl_ + 4)).toNatClampNeg) ||| ((MB ((Mpl_ + 5)).toNatClampNeg) <<< ((8 : Int32) &&& 31))), .int Mhb])), (ab, .inl (g.2.2.1, 4096, .inl MB)), (au, .inl (g.2.2.1, 400, .inl MU)), (ah, .inl (g.2.2.1, 4096, .inl MH)), (ar, .inl (g.2.2.1, 4096, .inl MR)), (aw, .inl (g.2.2.1, 100, .inl MW)), (ay, .inl (g.2.2.1, 100, .inl MY))]) (ws2 := [(M, .inr (5, [.int Mft, .int Msz, .int Mal, .ref ab, .int Mbs, .ref au, .int Mpl_, .int Mbg, .int Mlo, .int Mhs, .int Mhf, .ref ah, .int Mhp, .int Mrs, .int Mrf, .ref ar, .int Mto, .int Mtb, .ref aw, .ref ay, .int Mpl_, .int ((MB ((Mpl_ + 4)).toNatClampNeg) ||| ((MB ((Mpl_ + 5)).toNatClampNeg) <<< ((8 : Int32) &&& 31))), .int Mhb])), (ab, .inl (g.2.2.1, 4096, .inl MB)), (au, .inl (g.2.2.1, 400, .inl MU)), (ah, .inl (g.2.2.1, 4096, .inl MH)), (ar, .inl (g.2.2.1, 4096, .inl MR)), (aw, .inl (g.2.2.1, 100, .inl MW)), (ay, .inl (g.2.2.1, 100, .inl MY))]) C dX6_fragment_281 (c_X6_masked (zl X) g w) gX6_fragment_X6_masked rfl ⟨rfl, rfl⟩ (by decide +kernel) (by decide) (by decide) rfl rfl (Nat.le_of_ble_eq_true rfl) rfl rfl ⟨rfl, rfl, rfl⟩ (by decide) rfl ?_
                  refine z_istore (lv' := [(5, .int (((zUshr (w ^^^ (-1)) 15) ||| ((w ^^^ (-1)) <<< ((17 : Int32) &&& 31))) + (-1568478504))), (0, .ref M), (1, .int iw), (2, .int en), (3, .int (MB ((Mpl_ + 6)).toNatClampNeg)), (4, .int (en - Mpl_)), (6, .int (nI ic))]) C dX6_fragment_284 (by decide) rfl ?_
                  refine z_iload C dX6_fragment_286 0 rfl ?_
                  refine z_aload_n C dX6_fragment_288 rfl 1 rfl ?_
                  refine z_get (ci := 5) (v := .ref ab) (Cn := RX6) (T := TX6) (N := 23) C dX6_fragment_289 (fun w h => List.mem_cons_of_mem _ (List.mem_append_right _ h)) 0 rfl rfl 3 (by decide) (List.mem_of_getElem? (i := 5) rfl) rfl rfl ?_
                  refine z_aload_n C dX6_fragment_292 rfl 1 rfl ?_
                  refine z_get (ci := 5) (v := .int Mpl_) (Cn := RX6) (T := TX6) (N := 23) C dX6_fragment_293 (fun w h => List.mem_cons_of_mem _ (List.mem_append_right _ h)) 0 rfl rfl 6 (by decide) (List.mem_of_getElem? (i := 1) rfl) rfl rfl ?_
                  refine z_iald C dX6_fragment_296 1 rfl (zfr_in0 ha hp c_28) ?_
                  refine z_aload_n C dX6_fragment_297 rfl 1 rfl ?_
                  refine z_get (ci := 5) (v := .ref ab) (Cn := RX6) (T := TX6) (N := 23) C dX6_fragment_298 (fun w h => List.mem_cons_of_mem _ (List.mem_append_right _ h)) 0 rfl rfl 3 (by decide) (List.mem_of_getElem? (i := 5) rfl) rfl rfl ?_
                  refine z_aload_n C dX6_fragment_301 rfl 1 rfl ?_
                  refine z_get (ci := 5) (v := .int Mpl_) (Cn := RX6) (T := TX6) (N := 23) C dX6_fragment_302 (fun w h => List.mem_cons_of_mem _ (List.mem_append_right _ h)) 0 rfl rfl 6 (by decide) (List.mem_of_getElem? (i := 1) rfl) rfl rfl ?_
                  refine z_iconst (v := 1) C dX6_fragment_305 (by decide) ?_
                  refine z_iadd C dX6_fragment_306 ?_
                  refine z_iald C dX6_fragment_307 1 rfl (zfr_in1 ha hp c_28) ?_
                  refine z_bipush (v := 8) C dX6_fragment_308 (by decide) ?_
                  refine z_ishl C dX6_fragment_310 ?_
                  refine z_ior C dX6_fragment_311 ?_
                  refine z_aload_n C dX6_fragment_312 rfl 1 rfl ?_
                  refine z_get (ci := 5) (v := .ref ab) (Cn := RX6) (T := TX6) (N := 23) C dX6_fragment_313 (fun w h => List.mem_cons_of_mem _ (List.mem_append_right _ h)) 0 rfl rfl 3 (by decide) (List.mem_of_getElem? (i := 5) rfl) rfl rfl ?_
                  refine z_aload_n C dX6_fragment_316 rfl 1 rfl ?_
                  refine z_get (ci := 5) (v := .int Mpl_) (Cn := RX6) (T := TX6) (N := 23) C dX6_fragment_317 (fun w h => List.mem_cons_of_mem _ (List.mem_append_right _ h)) 0 rfl rfl 6 (by decide) (List.mem_of_getElem? (i := 1) rfl) rfl rfl ?_
                  refine z_iconst (v := 2) C dX6_fragment_320 (by decide) ?_
                  refine z_iadd C dX6_fragment_321 ?_
                  refine z_iald C dX6_fragment_322 1 rfl (zfr_in2 ha hp c_28) ?_
                  refine z_bipush (v := 16) C dX6_fragment_323 (by decide) ?_
                  refine z_ishl C dX6_fragment_325 ?_
                  refine z_ior C dX6_fragment_326 ?_
                  refine z_aload_n C dX6_fragment_327 rfl 1 rfl ?_
                  refine z_get (ci := 5) (v := .ref ab) (Cn := RX6) (T := TX6) (N := 23) C dX6_fragment_328 (fun w h => List.mem_cons_of_mem _ (List.mem_append_right _ h)) 0 rfl rfl 3 (by decide) (List.mem_of_getElem? (i := 5) rfl) rfl rfl ?_
                  refine z_aload_n C dX6_fragment_331 rfl 1 rfl ?_
                  refine z_get (ci := 5) (v := .int Mpl_) (Cn := RX6) (T := TX6) (N := 23) C dX6_fragment_332 (fun w h => List.mem_cons_of_mem _ (List.mem_append_right _ h)) 0 rfl rfl 6 (by decide) (List.mem_of_getElem? (i := 1) rfl) rfl rfl ?_
                  refine z_iconst (v := 3) C dX6_fragment_335 (by decide) ?_
                  refine z_iadd C dX6_fragment_336 ?_
                  refine z_iald C dX6_fragment_337 1 rfl (zfr_in3 ha hp c_28) ?_
                  refine z_bipush (v := 24) C dX6_fragment_338 (by decide) ?_
                  refine z_ishl C dX6_fragment_340 ?_
                  refine z_ior C dX6_fragment_341 ?_
                  refine z_icmp_eq (tgt := 360) C dX6_fragment_342 (by decide) (fun c_33 => ?_) (fun c_33 => ?_)
                  · skip
                    refine z_aload_n C dX6_fragment_360 rfl 1 rfl ?_
                    refine z_aload_n C dX6_fragment_361 rfl 1 rfl ?_
                    refine z_get (ci := 5) (v := .int Mpl_) (Cn := RX6) (T := TX6) (N := 23) C dX6_fragment_362 (fun w h => List.mem_cons_of_mem _ (List.mem_append_right _ h)) 0 rfl rfl 6 (by decide) (List.mem_of_getElem? (i := 1) rfl) rfl rfl ?_
                    refine z_bipush (v := 7) C dX6_fragment_365 (by decide) ?_
                    refine z_iadd C dX6_fragment_367 ?_
                    refine z_aload_n C dX6_fragment_368 rfl 1 rfl ?_
                    refine z_get (ci := 5) (v := .int ((MB ((Mpl_ + 4)).toNatClampNeg) ||| ((MB ((Mpl_ + 5)).toNatClampNeg) <<< ((8 : Int32) &&& 31)))) (Cn := RX6) (T := TX6) (N := 23) C dX6_fragment_369 (fun w h => List.mem_cons_of_mem _ (List.mem_append_right _ h)) 0 rfl rfl 21 (by decide) (List.mem_of_getElem? (i := 6) rfl) rfl rfl ?_
                    refine z_iadd C dX6_fragment_372 ?_
                    refine z_put (ci := 5) (v := .int ((Mpl_ + 7) + ((MB ((Mpl_ + 4)).toNatClampNeg) ||| ((MB ((Mpl_ + 5)).toNatClampNeg) <<< ((8 : Int32) &&& 31))))) (ty := .int) (Cn := RX6) (T := TX6) (N := 23) (ws' := [(M, .inr (5, [.int Mft, .int Msz, .int Mal, .ref ab, .int Mbs, .ref au, .int ((Mpl_ + 7) + ((MB ((Mpl_ + 4)).toNatClampNeg) ||| ((MB ((Mpl_ + 5)).toNatClampNeg) <<< ((8 : Int32) &&& 31)))), .int Mbg, .int Mlo, .int Mhs, .int Mhf, .ref ah, .int Mhp, .int Mrs, .int Mrf, .ref ar, .int Mto, .int Mtb, .ref aw, .ref ay, .int Mpl_, .int ((MB ((Mpl_ + 4)).toNatClampNeg) ||| ((MB ((Mpl_ + 5)).toNatClampNeg) <<< ((8 : Int32) &&& 31))), .int Mhb])), (ab, .inl (g.2.2.1, 4096, .inl MB)), (au, .inl (g.2.2.1, 400, .inl MU)), (ah, .inl (g.2.2.1, 4096, .inl MH)), (ar, .inl (g.2.2.1, 4096, .inl MR)), (aw, .inl (g.2.2.1, 100, .inl MW)), (ay, .inl (g.2.2.1, 100, .inl MY))]) C dX6_fragment_373 (fun w h => List.mem_cons_of_mem _ (List.mem_append_right _ h)) tyX6 tyX6_ok nmX6 0 rfl rfl 6 (by decide) (List.mem_of_getElem? (i := 1) rfl) rfl rfl (by decide +kernel) rfl rfl (Nat.le_of_ble_eq_true rfl) rfl ?_
                    refine z_aload_n C dX6_fragment_376 rfl 1 rfl ?_
                    refine z_get (ci := 5) (v := .int Mpl_) (Cn := RX6) (T := TX6) (N := 23) C dX6_fragment_377 (fun w h => List.mem_cons_of_mem _ (List.mem_append_right _ h)) 0 rfl rfl 20 (by decide) (List.mem_of_getElem? (i := 4) rfl) rfl rfl ?_
                    refine z_aload_n C dX6_fragment_380 rfl 1 rfl ?_
                    refine z_get (ci := 5) (v := .int Mbg) (Cn := RX6) (T := TX6) (N := 23) C dX6_fragment_381 (fun w h => List.mem_cons_of_mem _ (List.mem_append_right _ h)) 0 rfl rfl 7 (by decide) (List.mem_of_getElem? (i := 7) rfl) rfl rfl ?_
                    refine z_icmp_ge (tgt := 392) C dX6_fragment_384 (by decide) (fun c_34 => ?_) (fun c_34 => ?_)
                    · skip
                      refine z_iload_n C dX6_fragment_392 rfl 4 rfl ?_
                      have he : (f_X6_fragment MB MW MY Msz Mal Mpl Mbg Mto Mtb Mfr Mln) = ((MB ((Mpl_ + 6)).toNatClampNeg), MW, MY, ((Mpl_ + 7) + ((MB ((Mpl_ + 4)).toNatClampNeg) ||| ((MB ((Mpl_ + 5)).toNatClampNeg) <<< ((8 : Int32) &&& 31)))), Mto, Mtb, Mpl_, ((MB ((Mpl_ + 4)).toNatClampNeg) ||| ((MB ((Mpl_ + 5)).toNatClampNeg) <<< ((8 : Int32) &&& 31)))) := by rw [← hv]; simp only [lp_X6_fragment, if_pos c_28, if_pos c_29, if_neg c_30, ← hic, hvc, if_pos c_33, if_pos c_34]
                      exact hret _ _ _ _ dX6_fragment_393 (by first | rw [he] | rfl) (by first | rw [he] | rfl)
                    · skip
                      refine z_bipush (v := (-2)) C dX6_fragment_387 (by decide) ?_
                      refine z_goto (tgt := 393) C dX6_fragment_389 (by decide) ?_
                      have he : (f_X6_fragment MB MW MY Msz Mal Mpl Mbg Mto Mtb Mfr Mln) = ((-2), MW, MY, ((Mpl_ + 7) + ((MB ((Mpl_ + 4)).toNatClampNeg) ||| ((MB ((Mpl_ + 5)).toNatClampNeg) <<< ((8 : Int32) &&& 31)))), Mto, Mtb, Mpl_, ((MB ((Mpl_ + 4)).toNatClampNeg) ||| ((MB ((Mpl_ + 5)).toNatClampNeg) <<< ((8 : Int32) &&& 31)))) := by rw [← hv]; simp only [lp_X6_fragment, if_pos c_28, if_pos c_29, if_neg c_30, ← hic, hvc, if_pos c_33, if_neg c_34]
                      exact hret _ _ _ _ dX6_fragment_393 (by first | rw [he] | rfl) (by first | rw [he] | rfl)
                  · skip
                    refine z_aload_n C dX6_fragment_345 rfl 1 rfl ?_
                    refine z_iload_n C dX6_fragment_346 rfl 3 rfl ?_
                    refine z_put (ci := 5) (v := .int en) (ty := .int) (Cn := RX6) (T := TX6) (N := 23) (ws' := [(M, .inr (5, [.int Mft, .int Msz, .int Mal, .ref ab, .int Mbs, .ref au, .int en, .int Mbg, .int Mlo, .int Mhs, .int Mhf, .ref ah, .int Mhp, .int Mrs, .int Mrf, .ref ar, .int Mto, .int Mtb, .ref aw, .ref ay, .int Mpl_, .int ((MB ((Mpl_ + 4)).toNatClampNeg) ||| ((MB ((Mpl_ + 5)).toNatClampNeg) <<< ((8 : Int32) &&& 31))), .int Mhb])), (ab, .inl (g.2.2.1, 4096, .inl MB)), (au, .inl (g.2.2.1, 400, .inl MU)), (ah, .inl (g.2.2.1, 4096, .inl MH)), (ar, .inl (g.2.2.1, 4096, .inl MR)), (aw, .inl (g.2.2.1, 100, .inl MW)), (ay, .inl (g.2.2.1, 100, .inl MY))]) C dX6_fragment_347 (fun w h => List.mem_cons_of_mem _ (List.mem_append_right _ h)) tyX6 tyX6_ok nmX6 0 rfl rfl 6 (by decide) (List.mem_of_getElem? (i := 1) rfl) rfl rfl (by decide +kernel) rfl rfl (Nat.le_of_ble_eq_true rfl) rfl ?_
                    refine z_aload_n C dX6_fragment_350 rfl 1 rfl ?_
                    refine z_iconst (v := 2) C dX6_fragment_351 (by decide) ?_
                    refine z_iload C dX6_fragment_352 5 rfl ?_
                    refine z_callVv (n := 2) (isC := [0, 1, 2, 3, 4, 5, 6]) (isR := []) (isP := [0, 1, 2, 3, 4, 5, 6]) (As := [.int 2, .int (en - Mpl_)]) (rest := []) (wr := []) (ws2 := [(M, .inr (5, [.int Mft, .int Msz, .int Mal, .ref ab, .int Mbs, .ref au, .int en, .int Mbg, .int Mlo, .int Mhs, .int Mhf, .ref ah, .int Mhp, .int Mrs, .int Mrf, .ref ar, .int ((f_X6_tell MW MY Mto Mtb 2 (en - Mpl_)).2.2.1), .int ((f_X6_tell MW MY Mto Mtb 2 (en - Mpl_)).2.2.2), .ref aw, .ref ay, .int Mpl_, .int ((MB ((Mpl_ + 4)).toNatClampNeg) ||| ((MB ((Mpl_ + 5)).toNatClampNeg) <<< ((8 : Int32) &&& 31))), .int Mhb])), (ab, .inl (g.2.2.1, 4096, .inl MB)), (au, .inl (g.2.2.1, 400, .inl MU)), (ah, .inl (g.2.2.1, 4096, .inl MH)), (ar, .inl (g.2.2.1, 4096, .inl MR)), (aw, .inl (g.2.2.1, 100, .inl ((f_X6_tell MW MY Mto Mtb 2 (en - Mpl_)).1))), (ay, .inl (g.2.2.1, 100, .inl ((f_X6_tell MW MY Mto Mtb 2 (en - Mpl_)).2.1)))]) C dX6_fragment_354 (c_X6_tell (zl X) g M ab au ah ar aw ay MB MU MH MR MW MY Mft Msz Mal Mbs en Mbg Mlo Mhs Mhf Mhp Mrs Mrf Mto Mtb Mpl_ ((MB ((Mpl_ + 4)).toNatClampNeg) ||| ((MB ((Mpl_ + 5)).toNatClampNeg) <<< ((8 : Int32) &&& 31))) Mhb 2 (en - Mpl_) ht) gX6_fragment_X6_tell rfl ⟨rfl, rfl⟩ (by decide +kernel) (by decide) (by decide) rfl rfl rfl rfl (Nat.le_of_ble_eq_true rfl) rfl rfl ⟨rfl, rfl, rfl⟩ (by decide) rfl ?_
                    generalize hT35 : (f_X6_tell MW MY Mto Mtb 2 (en - Mpl_)) = T35
                    obtain ⟨MWq35, MYq35, Mtoq35, Mtbq35⟩ := T35
                    have k35_Mto : zdok (0) Mtoq35 := zdok_X6_tell (zdok_le ht (by omega)) hT35
                    refine z_bipush (v := (-2)) C dX6_fragment_357 (by decide) ?_
                    have he : (f_X6_fragment MB MW MY Msz Mal Mpl Mbg Mto Mtb Mfr Mln) = ((-2), MWq35, MYq35, en, Mtoq35, Mtbq35, Mpl_, ((MB ((Mpl_ + 4)).toNatClampNeg) ||| ((MB ((Mpl_ + 5)).toNatClampNeg) <<< ((8 : Int32) &&& 31)))) := by rw [← hv]; simp only [lp_X6_fragment, if_pos c_28, if_pos c_29, if_neg c_30, ← hic, hvc, if_neg c_33, hT35]
                    exact hret _ _ _ _ dX6_fragment_359 (by first | rw [he] | rfl) (by first | rw [he] | rfl)
                | succ rc ihc =>
                  intro ic hic w hvc 
                  refine z_iload C dX6_fragment_242 6 rfl ?_
                  refine z_aload_n C dX6_fragment_244 rfl 0 rfl ?_
                  refine z_get (ci := 5) (v := .int ((MB ((Mpl_ + 4)).toNatClampNeg) ||| ((MB ((Mpl_ + 5)).toNatClampNeg) <<< ((8 : Int32) &&& 31)))) (Cn := RX6) (T := TX6) (N := 23) C dX6_fragment_245 (fun w h => List.mem_cons_of_mem _ (List.mem_append_right _ h)) 0 rfl rfl 21 (by decide) (List.mem_of_getElem? (i := 6) rfl) rfl rfl ?_
                  refine z_icmp_gt (tgt := 279) C dX6_fragment_248 (by decide) (fun c_36 => absurd c_36 (zfor_ing (zfr_lnG ha hB hp c_28) hic)) (fun c_36 => ?_)
                  refine z_iload C dX6_fragment_251 5 rfl ?_
                  refine z_aload_n C dX6_fragment_253 rfl 0 rfl ?_
                  refine z_get (ci := 5) (v := .ref ab) (Cn := RX6) (T := TX6) (N := 23) C dX6_fragment_254 (fun w h => List.mem_cons_of_mem _ (List.mem_append_right _ h)) 0 rfl rfl 3 (by decide) (List.mem_of_getElem? (i := 5) rfl) rfl rfl ?_
                  refine z_aload_n C dX6_fragment_257 rfl 0 rfl ?_
                  refine z_get (ci := 5) (v := .int Mpl_) (Cn := RX6) (T := TX6) (N := 23) C dX6_fragment_258 (fun w h => List.mem_cons_of_mem _ (List.mem_append_right _ h)) 0 rfl rfl 6 (by decide) (List.mem_of_getElem? (i := 1) rfl) rfl rfl ?_
                  refine z_bipush (v := 6) C dX6_fragment_261 (by decide) ?_
                  refine z_iadd C dX6_fragment_263 ?_
                  refine z_iload C dX6_fragment_264 6 rfl ?_
                  refine z_iadd C dX6_fragment_266 ?_
                  refine z_iald C dX6_fragment_267 1 rfl (zfr_inL ha hp c_28 (zfr_ln ha hB hp c_28) c_29 hic) ?_
                  refine z_callSi (n := 2) (isC := []) (isR := [0, 1, 2, 3, 4, 5, 6]) (isP := [0, 1, 2, 3, 4, 5, 6]) (As := [.int w, .int (MB (((Mpl_ + 6) + (nI ic))).toNatClampNeg)]) (rest := []) (wr := [(M, .inr (5, [.int Mft, .int Msz, .int Mal, .ref ab, .int Mbs, .ref au, .int Mpl_, .int Mbg, .int Mlo, .int Mhs, .int Mhf, .ref ah, .int Mhp, .int Mrs, .int Mrf, .ref ar, .int Mto, .int Mtb, .ref aw, .ref ay, .int Mpl_, .int ((MB ((Mpl_ + 4)).toNatClampNeg) ||| ((MB ((Mpl_ + 5)).toNatClampNeg) <<< ((8 : Int32) &&& 31))), .int Mhb])), (ab, .inl (g.2.2.1, 4096, .inl MB)), (au, .inl (g.2.2.1, 400, .inl MU)), (ah, .inl (g.2.2.1, 4096, .inl MH)), (ar, .inl (g.2.2.1, 4096, .inl MR)), (aw, .inl (g.2.2.1, 100, .inl MW)), (ay, .inl (g.2.2.1, 100, .inl MY))]) (ws2 := [(M, .inr (5, [.int Mft, .int Msz, .int Mal, .ref ab, .int Mbs, .ref au, .int Mpl_, .int Mbg, .int Mlo, .int Mhs, .int Mhf, .ref ah, .int Mhp, .int Mrs, .int Mrf, .ref ar, .int Mto, .int Mtb, .ref aw, .ref ay, .int Mpl_, .int ((MB ((Mpl_ + 4)).toNatClampNeg) ||| ((MB ((Mpl_ + 5)).toNatClampNeg) <<< ((8 : Int32) &&& 31))), .int Mhb])), (ab, .inl (g.2.2.1, 4096, .inl MB)), (au, .inl (g.2.2.1, 400, .inl MU)), (ah, .inl (g.2.2.1, 4096, .inl MH)), (ar, .inl (g.2.2.1, 4096, .inl MR)), (aw, .inl (g.2.2.1, 100, .inl MW)), (ay, .inl (g.2.2.1, 100, .inl MY))]) C dX6_fragment_268 (c_X6_more (zl X) g w (MB (((Mpl_ + 6) + (nI ic))).toNatClampNeg)) gX6_fragment_X6_more rfl ⟨rfl, rfl⟩ (by decide +kernel) (by decide) (by decide) rfl rfl (Nat.le_of_ble_eq_true rfl) rfl rfl ⟨rfl, rfl, rfl⟩ (by decide) rfl ?_
                  generalize hT37 : (f_X6_more w (MB (((Mpl_ + 6) + (nI ic))).toNatClampNeg)) = rq37
                  refine z_istore (lv' := [(5, .int rq37), (0, .ref M), (1, .int iw), (2, .int en), (3, .int (MB ((Mpl_ + 6)).toNatClampNeg)), (4, .int (en - Mpl_)), (6, .int (nI ic))]) C dX6_fragment_271 (by decide) rfl ?_
                  refine z_iinc (v := (nI (ic + 1))) (lv' := [(6, .int (nI (ic + 1))), (5, .int rq37), (0, .ref M), (1, .int iw), (2, .int en), (3, .int (MB ((Mpl_ + 6)).toNatClampNeg)), (4, .int (en - Mpl_))]) C dX6_fragment_273 6 rfl (nI_1 ic) (by decide) rfl ?_
                  refine z_goto (tgt := 242) C dX6_fragment_276 (by decide) ?_
                  have hsc : lpc_X6_fragment MB Mpl_ (-1) (ic + 1) = rq37 := by
                    show bc_X6_fragment MB Mpl_ (nI ic) (lpc_X6_fragment MB Mpl_ (-1) ic) = _
                    rw [hvc]
                    simp only [bc_X6_fragment, hT37]
                  exact z_lv [2, 3, 4, 5, 6, 1, 0] rfl (ihc (ic + 1) (by omega) rq37 hsc )
              exact z_lv [4, 5, 6, 3, 2, 1, 0] rfl (loopc ((((MB ((Mpl_ + 4)).toNatClampNeg) ||| ((MB ((Mpl_ + 5)).toNatClampNeg) <<< ((8 : Int32) &&& 31))) + 1)).toNatClampNeg 0 (Nat.zero_add _) (-1) rfl)
            · skip
              refine z_aload_n C dX6_fragment_221 rfl 2 rfl ?_
              refine z_get (ci := 5) (v := .int ((MB ((Mpl_ + 4)).toNatClampNeg) ||| ((MB ((Mpl_ + 5)).toNatClampNeg) <<< ((8 : Int32) &&& 31)))) (Cn := RX6) (T := TX6) (N := 23) C dX6_fragment_222 (fun w h => List.mem_cons_of_mem _ (List.mem_append_right _ h)) 0 rfl rfl 21 (by decide) (List.mem_of_getElem? (i := 6) rfl) rfl rfl ?_
              refine z_if_ne (tgt := 236) C dX6_fragment_225 (by decide) (fun c_38 => ?_) (fun c_38 => ?_)
              · skip
                refine z_iconst (v := (-1)) C dX6_fragment_236 (by decide) ?_
                refine z_istore (lv' := [(5, .int (-1)), (4, .int (en - Mpl_)), (3, .int (MB ((Mpl_ + 6)).toNatClampNeg)), (0, .ref M), (1, .int iw), (2, .int en)]) C dX6_fragment_237 (by decide) rfl ?_
                refine z_iconst (v := 0) C dX6_fragment_239 (by decide) ?_
                refine z_istore (lv' := [(6, .int 0), (5, .int (-1)), (4, .int (en - Mpl_)), (3, .int (MB ((Mpl_ + 6)).toNatClampNeg)), (0, .ref M), (1, .int iw), (2, .int en)]) C dX6_fragment_240 (by decide) rfl ?_
                have loopc : ∀ (rc ic : Nat), ic + rc = ((((MB ((Mpl_ + 4)).toNatClampNeg) ||| ((MB ((Mpl_ + 5)).toNatClampNeg) <<< ((8 : Int32) &&& 31))) + 1)).toNatClampNeg → ∀ (w : Int32), lpc_X6_fragment MB Mpl_ (-1) ic = w → zV X g 7 0 0 242 [(0, .ref M), (1, .int iw), (2, .int en), (3, .int (MB ((Mpl_ + 6)).toNatClampNeg)), (4, .int (en - Mpl_)), (5, .int w), (6, .int (nI ic))] [] [(M, .inr (5, [.int Mft, .int Msz, .int Mal, .ref ab, .int Mbs, .ref au, .int Mpl_, .int Mbg, .int Mlo, .int Mhs, .int Mhf, .ref ah, .int Mhp, .int Mrs, .int Mrf, .ref ar, .int Mto, .int Mtb, .ref aw, .ref ay, .int Mpl_, .int ((MB ((Mpl_ + 4)).toNatClampNeg) ||| ((MB ((Mpl_ + 5)).toNatClampNeg) <<< ((8 : Int32) &&& 31))), .int Mhb])), (ab, .inl (g.2.2.1, 4096, .inl MB)), (au, .inl (g.2.2.1, 400, .inl MU)), (ah, .inl (g.2.2.1, 4096, .inl MH)), (ar, .inl (g.2.2.1, 4096, .inl MR)), (aw, .inl (g.2.2.1, 100, .inl MW)), (ay, .inl (g.2.2.1, 100, .inl MY))] := by
                  intro rc
                  induction rc with
                  | zero =>
                    intro ic hic w hvc 
                    have hic : ic = ((((MB ((Mpl_ + 4)).toNatClampNeg) ||| ((MB ((Mpl_ + 5)).toNatClampNeg) <<< ((8 : Int32) &&& 31))) + 1)).toNatClampNeg := hic
                    refine z_iload C dX6_fragment_242 6 rfl ?_
                    refine z_aload_n C dX6_fragment_244 rfl 0 rfl ?_
                    refine z_get (ci := 5) (v := .int ((MB ((Mpl_ + 4)).toNatClampNeg) ||| ((MB ((Mpl_ + 5)).toNatClampNeg) <<< ((8 : Int32) &&& 31)))) (Cn := RX6) (T := TX6) (N := 23) C dX6_fragment_245 (fun w h => List.mem_cons_of_mem _ (List.mem_append_right _ h)) 0 rfl rfl 21 (by decide) (List.mem_of_getElem? (i := 6) rfl) rfl rfl ?_
                    refine z_icmp_gt (tgt := 279) C dX6_fragment_248 (by decide) (fun c_39 => ?_) (fun c_39 => absurd (zfor_outg (zfr_lnG ha hB hp c_28) hic) c_39)
                    refine z_iload C dX6_fragment_279 5 rfl ?_
                    refine z_callSi (n := 1) (isC := []) (isR := [0, 1, 2, 3, 4, 5, 6]) (isP := [0, 1, 2, 3, 4, 5, 6]) (As := [.int w]) (rest := []) (wr := [(M, .inr (5, [.int Mft, .int Msz, .int Mal, .ref ab, .int Mbs, .ref au, .int Mpl_, .int Mbg, .int Mlo, .int Mhs, .int Mhf, .ref ah, .int Mhp, .int Mrs, .int Mrf, .ref ar, .int Mto, .int Mtb, .ref aw, .ref ay, .int Mpl_, .int ((MB ((Mpl_ + 4)).toNatClampNeg) ||| ((MB ((Mpl_ + 5)).toNatClampNeg) <<< ((8 : Int32) &&& 31))), .int Mhb])), (ab, .inl (g.2.2.1, 4096, .inl MB)), (au, .inl (g.2.2.1, 400, .inl MU)), (ah, .inl (g.2.2.1, 4096, .inl MH)), (ar, .inl (g.2.2.1, 4096, .inl MR)), (aw, .inl (g.2.2.1, 100, .inl MW)), (ay, .inl (g.2.2.1, 100, .inl MY))]) (ws2 := [(M, .inr (5, [.int Mft, .int Msz, .int Mal, .ref ab, .int Mbs, .ref au, .int Mpl_, .int Mbg, .int Mlo, .int Mhs, .int Mhf, .ref ah, .int Mhp, .int Mrs, .int Mrf, .ref ar, .int Mto, .int Mtb, .ref aw, .ref ay, .int Mpl_, .int ((MB ((Mpl_ + 4)).toNatClampNeg) ||| ((MB ((Mpl_ + 5)).toNatClampNeg) <<< ((8 : Int32) &&& 31))), .int Mhb])), (ab, .inl (g.2.2.1, 4096, .inl MB)), (au, .inl (g.2.2.1, 400, .inl MU)), (ah, .inl (g.2.2.1, 4096, .inl MH)), (ar, .inl (g.2.2.1, 4096, .inl MR)), (aw, .inl (g.2.2.1, 100, .inl MW)), (ay, .inl (g.2.2.1, 100, .inl MY))]) C dX6_fragment_281 (c_X6_masked (zl X) g w) gX6_fragment_X6_masked rfl ⟨rfl, rfl⟩ (by decide +kernel) (by decide) (by decide) rfl rfl (Nat.le_of_ble_eq_true rfl) rfl rfl ⟨rfl, rfl, rfl⟩ (by decide) rfl ?_
                    refine z_istore (lv' := [(5, .int (((zUshr (w ^^^ (-1)) 15) ||| ((w ^^^ (-1)) <<< ((17 : Int32) &&& 31))) + (-1568478504))), (0, .ref M), (1, .int iw), (2, .int en), (3, .int (MB ((Mpl_ + 6)).toNatClampNeg)), (4, .int (en - Mpl_)), (6, .int (nI ic))]) C dX6_fragment_284 (by decide) rfl ?_
                    refine z_iload C dX6_fragment_286 0 rfl ?_
                    refine z_aload_n C dX6_fragment_288 rfl 1 rfl ?_
                    refine z_get (ci := 5) (v := .ref ab) (Cn := RX6) (T := TX6) (N := 23) C dX6_fragment_289 (fun w h => List.mem_cons_of_mem _ (List.mem_append_right _ h)) 0 rfl rfl 3 (by decide) (List.mem_of_getElem? (i := 5) rfl) rfl rfl ?_
                    refine z_aload_n C dX6_fragment_292 rfl 1 rfl ?_
                    refine z_get (ci := 5) (v := .int Mpl_) (Cn := RX6) (T := TX6) (N := 23) C dX6_fragment_293 (fun w h => List.mem_cons_of_mem _ (List.mem_append_right _ h)) 0 rfl rfl 6 (by decide) (List.mem_of_getElem? (i := 1) rfl) rfl rfl ?_
                    refine z_iald C dX6_fragment_296 1 rfl (zfr_in0 ha hp c_28) ?_
                    refine z_aload_n C dX6_fragment_297 rfl 1 rfl ?_
                    refine z_get (ci := 5) (v := .ref ab) (Cn := RX6) (T := TX6) (N := 23) C dX6_fragment_298 (fun w h => List.mem_cons_of_mem _ (List.mem_append_right _ h)) 0 rfl rfl 3 (by decide) (List.mem_of_getElem? (i := 5) rfl) rfl rfl ?_
                    refine z_aload_n C dX6_fragment_301 rfl 1 rfl ?_
                    refine z_get (ci := 5) (v := .int Mpl_) (Cn := RX6) (T := TX6) (N := 23) C dX6_fragment_302 (fun w h => List.mem_cons_of_mem _ (List.mem_append_right _ h)) 0 rfl rfl 6 (by decide) (List.mem_of_getElem? (i := 1) rfl) rfl rfl ?_
                    refine z_iconst (v := 1) C dX6_fragment_305 (by decide) ?_
                    refine z_iadd C dX6_fragment_306 ?_
                    refine z_iald C dX6_fragment_307 1 rfl (zfr_in1 ha hp c_28) ?_
                    refine z_bipush (v := 8) C dX6_fragment_308 (by decide) ?_
                    refine z_ishl C dX6_fragment_310 ?_
                    refine z_ior C dX6_fragment_311 ?_
                    refine z_aload_n C dX6_fragment_312 rfl 1 rfl ?_
                    refine z_get (ci := 5) (v := .ref ab) (Cn := RX6) (T := TX6) (N := 23) C dX6_fragment_313 (fun w h => List.mem_cons_of_mem _ (List.mem_append_right _ h)) 0 rfl rfl 3 (by decide) (List.mem_of_getElem? (i := 5) rfl) rfl rfl ?_
                    refine z_aload_n C dX6_fragment_316 rfl 1 rfl ?_
                    refine z_get (ci := 5) (v := .int Mpl_) (Cn := RX6) (T := TX6) (N := 23) C dX6_fragment_317 (fun w h => List.mem_cons_of_mem _ (List.mem_append_right _ h)) 0 rfl rfl 6 (by decide) (List.mem_of_getElem? (i := 1) rfl) rfl rfl ?_
                    refine z_iconst (v := 2) C dX6_fragment_320 (by decide) ?_
                    refine z_iadd C dX6_fragment_321 ?_
                    refine z_iald C dX6_fragment_322 1 rfl (zfr_in2 ha hp c_28) ?_
                    refine z_bipush (v := 16) C dX6_fragment_323 (by decide) ?_
                    refine z_ishl C dX6_fragment_325 ?_
                    refine z_ior C dX6_fragment_326 ?_
                    refine z_aload_n C dX6_fragment_327 rfl 1 rfl ?_
                    refine z_get (ci := 5) (v := .ref ab) (Cn := RX6) (T := TX6) (N := 23) C dX6_fragment_328 (fun w h => List.mem_cons_of_mem _ (List.mem_append_right _ h)) 0 rfl rfl 3 (by decide) (List.mem_of_getElem? (i := 5) rfl) rfl rfl ?_
                    refine z_aload_n C dX6_fragment_331 rfl 1 rfl ?_
                    refine z_get (ci := 5) (v := .int Mpl_) (Cn := RX6) (T := TX6) (N := 23) C dX6_fragment_332 (fun w h => List.mem_cons_of_mem _ (List.mem_append_right _ h)) 0 rfl rfl 6 (by decide) (List.mem_of_getElem? (i := 1) rfl) rfl rfl ?_
                    refine z_iconst (v := 3) C dX6_fragment_335 (by decide) ?_
                    refine z_iadd C dX6_fragment_336 ?_
                    refine z_iald C dX6_fragment_337 1 rfl (zfr_in3 ha hp c_28) ?_
                    refine z_bipush (v := 24) C dX6_fragment_338 (by decide) ?_
                    refine z_ishl C dX6_fragment_340 ?_
                    refine z_ior C dX6_fragment_341 ?_
                    refine z_icmp_eq (tgt := 360) C dX6_fragment_342 (by decide) (fun c_41 => ?_) (fun c_41 => ?_)
                    · skip
                      refine z_aload_n C dX6_fragment_360 rfl 1 rfl ?_
                      refine z_aload_n C dX6_fragment_361 rfl 1 rfl ?_
                      refine z_get (ci := 5) (v := .int Mpl_) (Cn := RX6) (T := TX6) (N := 23) C dX6_fragment_362 (fun w h => List.mem_cons_of_mem _ (List.mem_append_right _ h)) 0 rfl rfl 6 (by decide) (List.mem_of_getElem? (i := 1) rfl) rfl rfl ?_
                      refine z_bipush (v := 7) C dX6_fragment_365 (by decide) ?_
                      refine z_iadd C dX6_fragment_367 ?_
                      refine z_aload_n C dX6_fragment_368 rfl 1 rfl ?_
                      refine z_get (ci := 5) (v := .int ((MB ((Mpl_ + 4)).toNatClampNeg) ||| ((MB ((Mpl_ + 5)).toNatClampNeg) <<< ((8 : Int32) &&& 31)))) (Cn := RX6) (T := TX6) (N := 23) C dX6_fragment_369 (fun w h => List.mem_cons_of_mem _ (List.mem_append_right _ h)) 0 rfl rfl 21 (by decide) (List.mem_of_getElem? (i := 6) rfl) rfl rfl ?_
                      refine z_iadd C dX6_fragment_372 ?_
                      refine z_put (ci := 5) (v := .int ((Mpl_ + 7) + ((MB ((Mpl_ + 4)).toNatClampNeg) ||| ((MB ((Mpl_ + 5)).toNatClampNeg) <<< ((8 : Int32) &&& 31))))) (ty := .int) (Cn := RX6) (T := TX6) (N := 23) (ws' := [(M, .inr (5, [.int Mft, .int Msz, .int Mal, .ref ab, .int Mbs, .ref au, .int ((Mpl_ + 7) + ((MB ((Mpl_ + 4)).toNatClampNeg) ||| ((MB ((Mpl_ + 5)).toNatClampNeg) <<< ((8 : Int32) &&& 31)))), .int Mbg, .int Mlo, .int Mhs, .int Mhf, .ref ah, .int Mhp, .int Mrs, .int Mrf, .ref ar, .int Mto, .int Mtb, .ref aw, .ref ay, .int Mpl_, .int ((MB ((Mpl_ + 4)).toNatClampNeg) ||| ((MB ((Mpl_ + 5)).toNatClampNeg) <<< ((8 : Int32) &&& 31))), .int Mhb])), (ab, .inl (g.2.2.1, 4096, .inl MB)), (au, .inl (g.2.2.1, 400, .inl MU)), (ah, .inl (g.2.2.1, 4096, .inl MH)), (ar, .inl (g.2.2.1, 4096, .inl MR)), (aw, .inl (g.2.2.1, 100, .inl MW)), (ay, .inl (g.2.2.1, 100, .inl MY))]) C dX6_fragment_373 (fun w h => List.mem_cons_of_mem _ (List.mem_append_right _ h)) tyX6 tyX6_ok nmX6 0 rfl rfl 6 (by decide) (List.mem_of_getElem? (i := 1) rfl) rfl rfl (by decide +kernel) rfl rfl (Nat.le_of_ble_eq_true rfl) rfl ?_
                      refine z_aload_n C dX6_fragment_376 rfl 1 rfl ?_
                      refine z_get (ci := 5) (v := .int Mpl_) (Cn := RX6) (T := TX6) (N := 23) C dX6_fragment_377 (fun w h => List.mem_cons_of_mem _ (List.mem_append_right _ h)) 0 rfl rfl 20 (by decide) (List.mem_of_getElem? (i := 4) rfl) rfl rfl ?_
                      refine z_aload_n C dX6_fragment_380 rfl 1 rfl ?_
                      refine z_get (ci := 5) (v := .int Mbg) (Cn := RX6) (T := TX6) (N := 23) C dX6_fragment_381 (fun w h => List.mem_cons_of_mem _ (List.mem_append_right _ h)) 0 rfl rfl 7 (by decide) (List.mem_of_getElem? (i := 7) rfl) rfl rfl ?_
                      refine z_icmp_ge (tgt := 392) C dX6_fragment_384 (by decide) (fun c_42 => ?_) (fun c_42 => ?_)
                      · skip
                        refine z_iload_n C dX6_fragment_392 rfl 4 rfl ?_
                        have he : (f_X6_fragment MB MW MY Msz Mal Mpl Mbg Mto Mtb Mfr Mln) = ((MB ((Mpl_ + 6)).toNatClampNeg), MW, MY, ((Mpl_ + 7) + ((MB ((Mpl_ + 4)).toNatClampNeg) ||| ((MB ((Mpl_ + 5)).toNatClampNeg) <<< ((8 : Int32) &&& 31)))), Mto, Mtb, Mpl_, ((MB ((Mpl_ + 4)).toNatClampNeg) ||| ((MB ((Mpl_ + 5)).toNatClampNeg) <<< ((8 : Int32) &&& 31)))) := by rw [← hv]; simp only [lp_X6_fragment, if_pos c_28, if_pos c_29, if_pos c_30, if_neg c_38, ← hic, hvc, if_pos c_41, if_pos c_42]
                        exact hret _ _ _ _ dX6_fragment_393 (by first | rw [he] | rfl) (by first | rw [he] | rfl)
                      · skip
                        refine z_bipush (v := (-2)) C dX6_fragment_387 (by decide) ?_
                        refine z_goto (tgt := 393) C dX6_fragment_389 (by decide) ?_
                        have he : (f_X6_fragment MB MW MY Msz Mal Mpl Mbg Mto Mtb Mfr Mln) = ((-2), MW, MY, ((Mpl_ + 7) + ((MB ((Mpl_ + 4)).toNatClampNeg) ||| ((MB ((Mpl_ + 5)).toNatClampNeg) <<< ((8 : Int32) &&& 31)))), Mto, Mtb, Mpl_, ((MB ((Mpl_ + 4)).toNatClampNeg) ||| ((MB ((Mpl_ + 5)).toNatClampNeg) <<< ((8 : Int32) &&& 31)))) := by rw [← hv]; simp only [lp_X6_fragment, if_pos c_28, if_pos c_29, if_pos c_30, if_neg c_38, ← hic, hvc, if_pos c_41, if_neg c_42]
                        exact hret _ _ _ _ dX6_fragment_393 (by first | rw [he] | rfl) (by first | rw [he] | rfl)
                    · skip
                      refine z_aload_n C dX6_fragment_345 rfl 1 rfl ?_
                      refine z_iload_n C dX6_fragment_346 rfl 3 rfl ?_
                      refine z_put (ci := 5) (v := .int en) (ty := .int) (Cn := RX6) (T := TX6) (N := 23) (ws' := [(M, .inr (5, [.int Mft, .int Msz, .int Mal, .ref ab, .int Mbs, .ref au, .int en, .int Mbg, .int Mlo, .int Mhs, .int Mhf, .ref ah, .int Mhp, .int Mrs, .int Mrf, .ref ar, .int Mto, .int Mtb, .ref aw, .ref ay, .int Mpl_, .int ((MB ((Mpl_ + 4)).toNatClampNeg) ||| ((MB ((Mpl_ + 5)).toNatClampNeg) <<< ((8 : Int32) &&& 31))), .int Mhb])), (ab, .inl (g.2.2.1, 4096, .inl MB)), (au, .inl (g.2.2.1, 400, .inl MU)), (ah, .inl (g.2.2.1, 4096, .inl MH)), (ar, .inl (g.2.2.1, 4096, .inl MR)), (aw, .inl (g.2.2.1, 100, .inl MW)), (ay, .inl (g.2.2.1, 100, .inl MY))]) C dX6_fragment_347 (fun w h => List.mem_cons_of_mem _ (List.mem_append_right _ h)) tyX6 tyX6_ok nmX6 0 rfl rfl 6 (by decide) (List.mem_of_getElem? (i := 1) rfl) rfl rfl (by decide +kernel) rfl rfl (Nat.le_of_ble_eq_true rfl) rfl ?_
                      refine z_aload_n C dX6_fragment_350 rfl 1 rfl ?_
                      refine z_iconst (v := 2) C dX6_fragment_351 (by decide) ?_
                      refine z_iload C dX6_fragment_352 5 rfl ?_
                      refine z_callVv (n := 2) (isC := [0, 1, 2, 3, 4, 5, 6]) (isR := []) (isP := [0, 1, 2, 3, 4, 5, 6]) (As := [.int 2, .int (en - Mpl_)]) (rest := []) (wr := []) (ws2 := [(M, .inr (5, [.int Mft, .int Msz, .int Mal, .ref ab, .int Mbs, .ref au, .int en, .int Mbg, .int Mlo, .int Mhs, .int Mhf, .ref ah, .int Mhp, .int Mrs, .int Mrf, .ref ar, .int ((f_X6_tell MW MY Mto Mtb 2 (en - Mpl_)).2.2.1), .int ((f_X6_tell MW MY Mto Mtb 2 (en - Mpl_)).2.2.2), .ref aw, .ref ay, .int Mpl_, .int ((MB ((Mpl_ + 4)).toNatClampNeg) ||| ((MB ((Mpl_ + 5)).toNatClampNeg) <<< ((8 : Int32) &&& 31))), .int Mhb])), (ab, .inl (g.2.2.1, 4096, .inl MB)), (au, .inl (g.2.2.1, 400, .inl MU)), (ah, .inl (g.2.2.1, 4096, .inl MH)), (ar, .inl (g.2.2.1, 4096, .inl MR)), (aw, .inl (g.2.2.1, 100, .inl ((f_X6_tell MW MY Mto Mtb 2 (en - Mpl_)).1))), (ay, .inl (g.2.2.1, 100, .inl ((f_X6_tell MW MY Mto Mtb 2 (en - Mpl_)).2.1)))]) C dX6_fragment_354 (c_X6_tell (zl X) g M ab au ah ar aw ay MB MU MH MR MW MY Mft Msz Mal Mbs en Mbg Mlo Mhs Mhf Mhp Mrs Mrf Mto Mtb Mpl_ ((MB ((Mpl_ + 4)).toNatClampNeg) ||| ((MB ((Mpl_ + 5)).toNatClampNeg) <<< ((8 : Int32) &&& 31))) Mhb 2 (en - Mpl_) ht) gX6_fragment_X6_tell rfl ⟨rfl, rfl⟩ (by decide +kernel) (by decide) (by decide) rfl rfl rfl rfl (Nat.le_of_ble_eq_true rfl) rfl rfl ⟨rfl, rfl, rfl⟩ (by decide) rfl ?_
                      generalize hT43 : (f_X6_tell MW MY Mto Mtb 2 (en - Mpl_)) = T43
                      obtain ⟨MWq43, MYq43, Mtoq43, Mtbq43⟩ := T43
                      have k43_Mto : zdok (0) Mtoq43 := zdok_X6_tell (zdok_le ht (by omega)) hT43
                      refine z_bipush (v := (-2)) C dX6_fragment_357 (by decide) ?_
                      have he : (f_X6_fragment MB MW MY Msz Mal Mpl Mbg Mto Mtb Mfr Mln) = ((-2), MWq43, MYq43, en, Mtoq43, Mtbq43, Mpl_, ((MB ((Mpl_ + 4)).toNatClampNeg) ||| ((MB ((Mpl_ + 5)).toNatClampNeg) <<< ((8 : Int32) &&& 31)))) := by rw [← hv]; simp only [lp_X6_fragment, if_pos c_28, if_pos c_29, if_pos c_30, if_neg c_38, ← hic, hvc, if_neg c_41, hT43]
                      exact hret _ _ _ _ dX6_fragment_359 (by first | rw [he] | rfl) (by first | rw [he] | rfl)
                  | succ rc ihc =>
                    intro ic hic w hvc 
                    refine z_iload C dX6_fragment_242 6 rfl ?_
                    refine z_aload_n C dX6_fragment_244 rfl 0 rfl ?_
                    refine z_get (ci := 5) (v := .int ((MB ((Mpl_ + 4)).toNatClampNeg) ||| ((MB ((Mpl_ + 5)).toNatClampNeg) <<< ((8 : Int32) &&& 31)))) (Cn := RX6) (T := TX6) (N := 23) C dX6_fragment_245 (fun w h => List.mem_cons_of_mem _ (List.mem_append_right _ h)) 0 rfl rfl 21 (by decide) (List.mem_of_getElem? (i := 6) rfl) rfl rfl ?_
                    refine z_icmp_gt (tgt := 279) C dX6_fragment_248 (by decide) (fun c_44 => absurd c_44 (zfor_ing (zfr_lnG ha hB hp c_28) hic)) (fun c_44 => ?_)
                    refine z_iload C dX6_fragment_251 5 rfl ?_
                    refine z_aload_n C dX6_fragment_253 rfl 0 rfl ?_
                    refine z_get (ci := 5) (v := .ref ab) (Cn := RX6) (T := TX6) (N := 23) C dX6_fragment_254 (fun w h => List.mem_cons_of_mem _ (List.mem_append_right _ h)) 0 rfl rfl 3 (by decide) (List.mem_of_getElem? (i := 5) rfl) rfl rfl ?_
                    refine z_aload_n C dX6_fragment_257 rfl 0 rfl ?_
                    refine z_get (ci := 5) (v := .int Mpl_) (Cn := RX6) (T := TX6) (N := 23) C dX6_fragment_258 (fun w h => List.mem_cons_of_mem _ (List.mem_append_right _ h)) 0 rfl rfl 6 (by decide) (List.mem_of_getElem? (i := 1) rfl) rfl rfl ?_
                    refine z_bipush (v := 6) C dX6_fragment_261 (by decide) ?_
                    refine z_iadd C dX6_fragment_263 ?_
                    refine z_iload C dX6_fragment_264 6 rfl ?_
                    refine z_iadd C dX6_fragment_266 ?_
                    refine z_iald C dX6_fragment_267 1 rfl (zfr_inL ha hp c_28 (zfr_ln ha hB hp c_28) c_29 hic) ?_
                    refine z_callSi (n := 2) (isC := []) (isR := [0, 1, 2, 3, 4, 5, 6]) (isP := [0, 1, 2, 3, 4, 5, 6]) (As := [.int w, .int (MB (((Mpl_ + 6) + (nI ic))).toNatClampNeg)]) (rest := []) (wr := [(M, .inr (5, [.int Mft, .int Msz, .int Mal, .ref ab, .int Mbs, .ref au, .int Mpl_, .int Mbg, .int Mlo, .int Mhs, .int Mhf, .ref ah, .int Mhp, .int Mrs, .int Mrf, .ref ar, .int Mto, .int Mtb, .ref aw, .ref ay, .int Mpl_, .int ((MB ((Mpl_ + 4)).toNatClampNeg) ||| ((MB ((Mpl_ + 5)).toNatClampNeg) <<< ((8 : Int32) &&& 31))), .int Mhb])), (ab, .inl (g.2.2.1, 4096, .inl MB)), (au, .inl (g.2.2.1, 400, .inl MU)), (ah, .inl (g.2.2.1, 4096, .inl MH)), (ar, .inl (g.2.2.1, 4096, .inl MR)), (aw, .inl (g.2.2.1, 100, .inl MW)), (ay, .inl (g.2.2.1, 100, .inl MY))]) (ws2 := [(M, .inr (5, [.int Mft, .int Msz, .int Mal, .ref ab, .int Mbs, .ref au, .int Mpl_, .int Mbg, .int Mlo, .int Mhs, .int Mhf, .ref ah, .int Mhp, .int Mrs, .int Mrf, .ref ar, .int Mto, .int Mtb, .ref aw, .ref ay, .int Mpl_, .int ((MB ((Mpl_ + 4)).toNatClampNeg) ||| ((MB ((Mpl_ + 5)).toNatClampNeg) <<< ((8 : Int32) &&& 31))), .int Mhb])), (ab, .inl (g.2.2.1, 4096, .inl MB)), (au, .inl (g.2.2.1, 400, .inl MU)), (ah, .inl (g.2.2.1, 4096, .inl MH)), (ar, .inl (g.2.2.1, 4096, .inl MR)), (aw, .inl (g.2.2.1, 100, .inl MW)), (ay, .inl (g.2.2.1, 100, .inl MY))]) C dX6_fragment_268 (c_X6_more (zl X) g w (MB (((Mpl_ + 6) + (nI ic))).toNatClampNeg)) gX6_fragment_X6_more rfl ⟨rfl, rfl⟩ (by decide +kernel) (by decide) (by decide) rfl rfl (Nat.le_of_ble_eq_true rfl) rfl rfl ⟨rfl, rfl, rfl⟩ (by decide) rfl ?_
                    generalize hT45 : (f_X6_more w (MB (((Mpl_ + 6) + (nI ic))).toNatClampNeg)) = rq45
                    refine z_istore (lv' := [(5, .int rq45), (0, .ref M), (1, .int iw), (2, .int en), (3, .int (MB ((Mpl_ + 6)).toNatClampNeg)), (4, .int (en - Mpl_)), (6, .int (nI ic))]) C dX6_fragment_271 (by decide) rfl ?_
                    refine z_iinc (v := (nI (ic + 1))) (lv' := [(6, .int (nI (ic + 1))), (5, .int rq45), (0, .ref M), (1, .int iw), (2, .int en), (3, .int (MB ((Mpl_ + 6)).toNatClampNeg)), (4, .int (en - Mpl_))]) C dX6_fragment_273 6 rfl (nI_1 ic) (by decide) rfl ?_
                    refine z_goto (tgt := 242) C dX6_fragment_276 (by decide) ?_
                    have hsc : lpc_X6_fragment MB Mpl_ (-1) (ic + 1) = rq45 := by
                      show bc_X6_fragment MB Mpl_ (nI ic) (lpc_X6_fragment MB Mpl_ (-1) ic) = _
                      rw [hvc]
                      simp only [bc_X6_fragment, hT45]
                    exact z_lv [2, 3, 4, 5, 6, 1, 0] rfl (ihc (ic + 1) (by omega) rq45 hsc )
                exact z_lv [4, 5, 6, 3, 2, 1, 0] rfl (loopc ((((MB ((Mpl_ + 4)).toNatClampNeg) ||| ((MB ((Mpl_ + 5)).toNatClampNeg) <<< ((8 : Int32) &&& 31))) + 1)).toNatClampNeg 0 (Nat.zero_add _) (-1) rfl)
              · skip
                refine z_aload_n C dX6_fragment_228 rfl 2 rfl ?_
                refine z_iload_n C dX6_fragment_229 rfl 4 rfl ?_
                refine z_put (ci := 5) (v := .int en) (ty := .int) (Cn := RX6) (T := TX6) (N := 23) (ws' := [(M, .inr (5, [.int Mft, .int Msz, .int Mal, .ref ab, .int Mbs, .ref au, .int en, .int Mbg, .int Mlo, .int Mhs, .int Mhf, .ref ah, .int Mhp, .int Mrs, .int Mrf, .ref ar, .int Mto, .int Mtb, .ref aw, .ref ay, .int Mpl_, .int ((MB ((Mpl_ + 4)).toNatClampNeg) ||| ((MB ((Mpl_ + 5)).toNatClampNeg) <<< ((8 : Int32) &&& 31))), .int Mhb])), (ab, .inl (g.2.2.1, 4096, .inl MB)), (au, .inl (g.2.2.1, 400, .inl MU)), (ah, .inl (g.2.2.1, 4096, .inl MH)), (ar, .inl (g.2.2.1, 4096, .inl MR)), (aw, .inl (g.2.2.1, 100, .inl MW)), (ay, .inl (g.2.2.1, 100, .inl MY))]) C dX6_fragment_230 (fun w h => List.mem_cons_of_mem _ (List.mem_append_right _ h)) tyX6 tyX6_ok nmX6 0 rfl rfl 6 (by decide) (List.mem_of_getElem? (i := 1) rfl) rfl rfl (by decide +kernel) rfl rfl (Nat.le_of_ble_eq_true rfl) rfl ?_
                refine z_bipush (v := (-2)) C dX6_fragment_233 (by decide) ?_
                have he : (f_X6_fragment MB MW MY Msz Mal Mpl Mbg Mto Mtb Mfr Mln) = ((-2), MW, MY, en, Mto, Mtb, Mpl_, ((MB ((Mpl_ + 4)).toNatClampNeg) ||| ((MB ((Mpl_ + 5)).toNatClampNeg) <<< ((8 : Int32) &&& 31)))) := by rw [← hv]; simp only [lp_X6_fragment, if_pos c_28, if_pos c_29, if_pos c_30, if_pos c_38]
                exact hret _ _ _ _ dX6_fragment_235 (by first | rw [he] | rfl) (by first | rw [he] | rfl)
          · skip
            refine z_iload_n C dX6_fragment_196 rfl 3 rfl ?_
            refine z_if_ne (tgt := 202) C dX6_fragment_197 (by decide) (fun c_46 => ?_) (fun c_46 => ?_)
            · skip
              refine z_aload_n C dX6_fragment_202 rfl 2 rfl ?_
              refine z_iload_n C dX6_fragment_203 rfl 4 rfl ?_
              refine z_put (ci := 5) (v := .int en) (ty := .int) (Cn := RX6) (T := TX6) (N := 23) (ws' := [(M, .inr (5, [.int Mft, .int Msz, .int Mal, .ref ab, .int Mbs, .ref au, .int en, .int Mbg, .int Mlo, .int Mhs, .int Mhf, .ref ah, .int Mhp, .int Mrs, .int Mrf, .ref ar, .int Mto, .int Mtb, .ref aw, .ref ay, .int Mpl_, .int ((MB ((Mpl_ + 4)).toNatClampNeg) ||| ((MB ((Mpl_ + 5)).toNatClampNeg) <<< ((8 : Int32) &&& 31))), .int Mhb])), (ab, .inl (g.2.2.1, 4096, .inl MB)), (au, .inl (g.2.2.1, 400, .inl MU)), (ah, .inl (g.2.2.1, 4096, .inl MH)), (ar, .inl (g.2.2.1, 4096, .inl MR)), (aw, .inl (g.2.2.1, 100, .inl MW)), (ay, .inl (g.2.2.1, 100, .inl MY))]) C dX6_fragment_204 (fun w h => List.mem_cons_of_mem _ (List.mem_append_right _ h)) tyX6 tyX6_ok nmX6 0 rfl rfl 6 (by decide) (List.mem_of_getElem? (i := 1) rfl) rfl rfl (by decide +kernel) rfl rfl (Nat.le_of_ble_eq_true rfl) rfl ?_
              refine z_aload_n C dX6_fragment_207 rfl 2 rfl ?_
              refine z_iconst (v := 1) C dX6_fragment_208 (by decide) ?_
              refine z_iload C dX6_fragment_209 0 rfl ?_
              refine z_callVv (n := 2) (isC := [0, 1, 2, 3, 4, 5, 6]) (isR := []) (isP := [0, 1, 2, 3, 4, 5, 6]) (As := [.int 1, .int (en - Mpl_)]) (rest := []) (wr := []) (ws2 := [(M, .inr (5, [.int Mft, .int Msz, .int Mal, .ref ab, .int Mbs, .ref au, .int en, .int Mbg, .int Mlo, .int Mhs, .int Mhf, .ref ah, .int Mhp, .int Mrs, .int Mrf, .ref ar, .int ((f_X6_tell MW MY Mto Mtb 1 (en - Mpl_)).2.2.1), .int ((f_X6_tell MW MY Mto Mtb 1 (en - Mpl_)).2.2.2), .ref aw, .ref ay, .int Mpl_, .int ((MB ((Mpl_ + 4)).toNatClampNeg) ||| ((MB ((Mpl_ + 5)).toNatClampNeg) <<< ((8 : Int32) &&& 31))), .int Mhb])), (ab, .inl (g.2.2.1, 4096, .inl MB)), (au, .inl (g.2.2.1, 400, .inl MU)), (ah, .inl (g.2.2.1, 4096, .inl MH)), (ar, .inl (g.2.2.1, 4096, .inl MR)), (aw, .inl (g.2.2.1, 100, .inl ((f_X6_tell MW MY Mto Mtb 1 (en - Mpl_)).1))), (ay, .inl (g.2.2.1, 100, .inl ((f_X6_tell MW MY Mto Mtb 1 (en - Mpl_)).2.1)))]) C dX6_fragment_211 (c_X6_tell (zl X) g M ab au ah ar aw ay MB MU MH MR MW MY Mft Msz Mal Mbs en Mbg Mlo Mhs Mhf Mhp Mrs Mrf Mto Mtb Mpl_ ((MB ((Mpl_ + 4)).toNatClampNeg) ||| ((MB ((Mpl_ + 5)).toNatClampNeg) <<< ((8 : Int32) &&& 31))) Mhb 1 (en - Mpl_) ht) gX6_fragment_X6_tell rfl ⟨rfl, rfl⟩ (by decide +kernel) (by decide) (by decide) rfl rfl rfl rfl (Nat.le_of_ble_eq_true rfl) rfl rfl ⟨rfl, rfl, rfl⟩ (by decide) rfl ?_
              generalize hT47 : (f_X6_tell MW MY Mto Mtb 1 (en - Mpl_)) = T47
              obtain ⟨MWq47, MYq47, Mtoq47, Mtbq47⟩ := T47
              have k47_Mto : zdok (0) Mtoq47 := zdok_X6_tell (zdok_le ht (by omega)) hT47
              refine z_bipush (v := (-2)) C dX6_fragment_214 (by decide) ?_
              have he : (f_X6_fragment MB MW MY Msz Mal Mpl Mbg Mto Mtb Mfr Mln) = ((-2), MWq47, MYq47, en, Mtoq47, Mtbq47, Mpl_, ((MB ((Mpl_ + 4)).toNatClampNeg) ||| ((MB ((Mpl_ + 5)).toNatClampNeg) <<< ((8 : Int32) &&& 31)))) := by rw [← hv]; simp only [lp_X6_fragment, if_pos c_28, if_neg c_29, if_neg c_46, hT47]
              exact hret _ _ _ _ dX6_fragment_216 (by first | rw [he] | rfl) (by first | rw [he] | rfl)
            · skip
              refine z_iconst (v := (-1)) C dX6_fragment_200 (by decide) ?_
              have he : (f_X6_fragment MB MW MY Msz Mal Mpl Mbg Mto Mtb Mfr Mln) = ((-1), MW, MY, Mpl_, Mto, Mtb, Mpl_, ((MB ((Mpl_ + 4)).toNatClampNeg) ||| ((MB ((Mpl_ + 5)).toNatClampNeg) <<< ((8 : Int32) &&& 31)))) := by rw [← hv]; simp only [lp_X6_fragment, if_pos c_28, if_neg c_29, if_pos c_46]
              exact hret _ _ _ _ dX6_fragment_201 (by first | rw [he] | rfl) (by first | rw [he] | rfl)
        · skip
          refine z_iload_n C dX6_fragment_68 rfl 1 rfl ?_
          refine z_if_ne (tgt := 74) C dX6_fragment_69 (by decide) (fun c_48 => ?_) (fun c_48 => ?_)
          · skip
            refine z_aload_n C dX6_fragment_74 rfl 0 rfl ?_
            refine z_iload_n C dX6_fragment_75 rfl 2 rfl ?_
            refine z_put (ci := 5) (v := .int en) (ty := .int) (Cn := RX6) (T := TX6) (N := 23) (ws' := [(M, .inr (5, [.int Mft, .int Msz, .int Mal, .ref ab, .int Mbs, .ref au, .int en, .int Mbg, .int Mlo, .int Mhs, .int Mhf, .ref ah, .int Mhp, .int Mrs, .int Mrf, .ref ar, .int Mto, .int Mtb, .ref aw, .ref ay, .int Mfr, .int Mln, .int Mhb])), (ab, .inl (g.2.2.1, 4096, .inl MB)), (au, .inl (g.2.2.1, 400, .inl MU)), (ah, .inl (g.2.2.1, 4096, .inl MH)), (ar, .inl (g.2.2.1, 4096, .inl MR)), (aw, .inl (g.2.2.1, 100, .inl MW)), (ay, .inl (g.2.2.1, 100, .inl MY))]) C dX6_fragment_76 (fun w h => List.mem_cons_of_mem _ (List.mem_append_right _ h)) tyX6 tyX6_ok nmX6 0 rfl rfl 6 (by decide) (List.mem_of_getElem? (i := 1) rfl) rfl rfl (by decide +kernel) rfl rfl (Nat.le_of_ble_eq_true rfl) rfl ?_
            refine z_aload_n C dX6_fragment_79 rfl 0 rfl ?_
            refine z_get (ci := 5) (v := .int en) (Cn := RX6) (T := TX6) (N := 23) C dX6_fragment_80 (fun w h => List.mem_cons_of_mem _ (List.mem_append_right _ h)) 0 rfl rfl 6 (by decide) (List.mem_of_getElem? (i := 1) rfl) rfl rfl ?_
            refine z_aload_n C dX6_fragment_83 rfl 0 rfl ?_
            refine z_get (ci := 5) (v := .int Msz) (Cn := RX6) (T := TX6) (N := 23) C dX6_fragment_84 (fun w h => List.mem_cons_of_mem _ (List.mem_append_right _ h)) 0 rfl rfl 1 (by decide) (List.mem_of_getElem? (i := 2) rfl) rfl rfl ?_
            refine z_iadd C dX6_fragment_87 ?_
            refine z_aload_n C dX6_fragment_88 rfl 0 rfl ?_
            refine z_get (ci := 5) (v := .int Mal) (Cn := RX6) (T := TX6) (N := 23) C dX6_fragment_89 (fun w h => List.mem_cons_of_mem _ (List.mem_append_right _ h)) 0 rfl rfl 2 (by decide) (List.mem_of_getElem? (i := 3) rfl) rfl rfl ?_
            refine z_icmp_gt (tgt := 99) C dX6_fragment_92 (by decide) (fun c_49 => ?_) (fun c_49 => ?_)
            · skip
              refine z_iconst (v := 0) C dX6_fragment_99 (by decide) ?_
              refine z_istore_n (lv' := [(1, .int 0), (0, .ref M), (2, .int en)]) C dX6_fragment_100 rfl (by decide) rfl ?_
              refine z_iload_n C dX6_fragment_101 rfl 0 rfl ?_
              refine z_if_eq (tgt := 117) C dX6_fragment_102 (by decide) (fun c_50 => ?_) (fun c_50 => absurd (by decide) c_50)
              refine z_aload_n C dX6_fragment_117 rfl 1 rfl ?_
              refine z_get (ci := 5) (v := .int Mal) (Cn := RX6) (T := TX6) (N := 23) C dX6_fragment_118 (fun w h => List.mem_cons_of_mem _ (List.mem_append_right _ h)) 0 rfl rfl 2 (by decide) (List.mem_of_getElem? (i := 3) rfl) rfl rfl ?_
              refine z_istore_n (lv' := [(2, .int Mal), (1, .int 0), (0, .ref M)]) C dX6_fragment_121 rfl (by decide) rfl ?_
              refine z_goto (tgt := 57) C dX6_fragment_122 (by decide) ?_
              exact z_lv [2, 1, 0] rfl (ih 0 Mal en (zfr_back0 hz ha hp c_28 c_48 c_49) (by rw [← hv]; simp only [lp_X6_fragment, if_neg c_28, if_neg c_48, if_pos c_49]))
            · skip
              refine z_iconst (v := 1) C dX6_fragment_95 (by decide) ?_
              refine z_goto (tgt := 100) C dX6_fragment_96 (by decide) ?_
              refine z_istore_n (lv' := [(1, .int 1), (0, .ref M), (2, .int en)]) C dX6_fragment_100 rfl (by decide) rfl ?_
              refine z_iload_n C dX6_fragment_101 rfl 0 rfl ?_
              refine z_if_eq (tgt := 117) C dX6_fragment_102 (by decide) (fun c_51 => absurd c_51 (by decide)) (fun c_51 => ?_)
              refine z_aload_n C dX6_fragment_105 rfl 1 rfl ?_
              refine z_get (ci := 5) (v := .int en) (Cn := RX6) (T := TX6) (N := 23) C dX6_fragment_106 (fun w h => List.mem_cons_of_mem _ (List.mem_append_right _ h)) 0 rfl rfl 6 (by decide) (List.mem_of_getElem? (i := 1) rfl) rfl rfl ?_
              refine z_aload_n C dX6_fragment_109 rfl 1 rfl ?_
              refine z_get (ci := 5) (v := .int Msz) (Cn := RX6) (T := TX6) (N := 23) C dX6_fragment_110 (fun w h => List.mem_cons_of_mem _ (List.mem_append_right _ h)) 0 rfl rfl 1 (by decide) (List.mem_of_getElem? (i := 2) rfl) rfl rfl ?_
              refine z_iadd C dX6_fragment_113 ?_
              refine z_goto (tgt := 121) C dX6_fragment_114 (by decide) ?_
              refine z_istore_n (lv' := [(2, .int (en + Msz)), (1, .int 1), (0, .ref M)]) C dX6_fragment_121 rfl (by decide) rfl ?_
              refine z_goto (tgt := 57) C dX6_fragment_122 (by decide) ?_
              exact z_lv [2, 1, 0] rfl (ih 1 (en + Msz) en (zfr_back1 hz ha hp c_28 c_48 c_49) (by rw [← hv]; simp only [lp_X6_fragment, if_neg c_28, if_neg c_48, if_neg c_49]))
          · skip
            refine z_iconst (v := (-1)) C dX6_fragment_72 (by decide) ?_
            have he : (f_X6_fragment MB MW MY Msz Mal Mpl Mbg Mto Mtb Mfr Mln) = ((-1), MW, MY, Mpl_, Mto, Mtb, Mfr, Mln) := by rw [← hv]; simp only [lp_X6_fragment, if_neg c_28, if_pos c_48]
            exact hret _ _ _ _ dX6_fragment_73 (by first | rw [he] | rfl) (by first | rw [he] | rfl)
    exact z_lv [2, 1, 0] rfl (loop 4 1 (((Mpl / Msz) + 1) * Msz) Mpl (zfr_init1 hz ha hpl c_1) (by simp only [f_X6_fragment, if_neg c_1]))
