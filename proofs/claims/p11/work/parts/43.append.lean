def bp_X6_append  (k : Int32) (z_ : (Nat → Int32) × Int32) : (Nat → Int32) × Int32 :=
  match z_ with
  | (MB_p, Mal_p) =>
    ((upd MB_p (Mal_p).toNatClampNeg (0 &&& 255)), (Mal_p + 1))
def lpp_X6_append  (z_ : (Nat → Int32) × Int32) : Nat → (Nat → Int32) × Int32
  | 0 => z_
  | i + 1 => bp_X6_append  (nI i) (lpp_X6_append  z_ i)
def lp_X6_append (MU : Nat → Int32) (Msz : Int32) (Mbs : Int32) : Nat → Int32 → Int32 → (Nat → Int32) → Int32 → Int32 → Int32 × (Nat → Int32) × Int32 × Int32 × Int32
  | 0, _, _, _, _, _ => (0, fun _ => 0, 0, 0, 0)
  | n + 1, bq, mo, MB_, Mal_, Mhb_ =>
    if mo = 0 then
      (Mal_, MB_, 0, Mal_, 0)
    else
      if 7 ≤ (Msz - (zMod Mal_ Msz)) then
        if ((Msz - (zMod Mal_ Msz)) - 7) ≤ (Mbs - bq) then
          if ((Msz - (zMod Mal_ Msz)) - 7) = (Mbs - bq) then
            if bq = 0 then
              if Mhb_ = 0 then
                match (f_X6_putFragment MB_ MU Mal_ 1 bq ((Msz - (zMod Mal_ Msz)) - 7)) with
                | (MBq27, Malq27) =>
                  lp_X6_append MU Msz Mbs n (bq + ((Msz - (zMod Mal_ Msz)) - 7)) 0 MBq27 Malq27 1
              else
                match (f_X6_putFragment MB_ MU Mal_ 4 bq ((Msz - (zMod Mal_ Msz)) - 7)) with
                | (MBq24, Malq24) =>
                  lp_X6_append MU Msz Mbs n (bq + ((Msz - (zMod Mal_ Msz)) - 7)) 0 MBq24 Malq24 1
            else
              match (f_X6_putFragment MB_ MU Mal_ 4 bq ((Msz - (zMod Mal_ Msz)) - 7)) with
              | (MBq20, Malq20) =>
                lp_X6_append MU Msz Mbs n (bq + ((Msz - (zMod Mal_ Msz)) - 7)) 0 MBq20 Malq20 1
          else
            if bq = 0 then
              if Mhb_ = 0 then
                match (f_X6_putFragment MB_ MU Mal_ 2 bq ((Msz - (zMod Mal_ Msz)) - 7)) with
                | (MBq16, Malq16) =>
                  lp_X6_append MU Msz Mbs n (bq + ((Msz - (zMod Mal_ Msz)) - 7)) 1 MBq16 Malq16 1
              else
                match (f_X6_putFragment MB_ MU Mal_ 3 bq ((Msz - (zMod Mal_ Msz)) - 7)) with
                | (MBq13, Malq13) =>
                  lp_X6_append MU Msz Mbs n (bq + ((Msz - (zMod Mal_ Msz)) - 7)) 1 MBq13 Malq13 1
            else
              match (f_X6_putFragment MB_ MU Mal_ 3 bq ((Msz - (zMod Mal_ Msz)) - 7)) with
              | (MBq9, Malq9) =>
                lp_X6_append MU Msz Mbs n (bq + ((Msz - (zMod Mal_ Msz)) - 7)) 1 MBq9 Malq9 1
        else
          if bq = 0 then
            if Mhb_ = 0 then
              match (f_X6_putFragment MB_ MU Mal_ 1 bq (Mbs - bq)) with
              | (MBq39, Malq39) =>
                lp_X6_append MU Msz Mbs n (bq + (Mbs - bq)) 0 MBq39 Malq39 1
            else
              match (f_X6_putFragment MB_ MU Mal_ 4 bq (Mbs - bq)) with
              | (MBq36, Malq36) =>
                lp_X6_append MU Msz Mbs n (bq + (Mbs - bq)) 0 MBq36 Malq36 1
          else
            match (f_X6_putFragment MB_ MU Mal_ 4 bq (Mbs - bq)) with
            | (MBq32, Malq32) =>
              lp_X6_append MU Msz Mbs n (bq + (Mbs - bq)) 0 MBq32 Malq32 1
      else
        match lpp_X6_append (MB_, Mal_) ((Msz - (zMod Mal_ Msz))).toNatClampNeg with
        | (MB_p, Mal_p) =>
          if (Msz - 7) ≤ (Mbs - bq) then
            if (Msz - 7) = (Mbs - bq) then
              if bq = 0 then
                if Mhb_ = 0 then
                  match (f_X6_putFragment MB_p MU Mal_p 1 bq (Msz - 7)) with
                  | (MBq64, Malq64) =>
                    lp_X6_append MU Msz Mbs n (bq + (Msz - 7)) 0 MBq64 Malq64 1
                else
                  match (f_X6_putFragment MB_p MU Mal_p 4 bq (Msz - 7)) with
                  | (MBq61, Malq61) =>
                    lp_X6_append MU Msz Mbs n (bq + (Msz - 7)) 0 MBq61 Malq61 1
              else
                match (f_X6_putFragment MB_p MU Mal_p 4 bq (Msz - 7)) with
                | (MBq57, Malq57) =>
                  lp_X6_append MU Msz Mbs n (bq + (Msz - 7)) 0 MBq57 Malq57 1
            else
              if bq = 0 then
                if Mhb_ = 0 then
                  match (f_X6_putFragment MB_p MU Mal_p 2 bq (Msz - 7)) with
                  | (MBq53, Malq53) =>
                    lp_X6_append MU Msz Mbs n (bq + (Msz - 7)) 1 MBq53 Malq53 1
                else
                  match (f_X6_putFragment MB_p MU Mal_p 3 bq (Msz - 7)) with
                  | (MBq50, Malq50) =>
                    lp_X6_append MU Msz Mbs n (bq + (Msz - 7)) 1 MBq50 Malq50 1
              else
                match (f_X6_putFragment MB_p MU Mal_p 3 bq (Msz - 7)) with
                | (MBq46, Malq46) =>
                  lp_X6_append MU Msz Mbs n (bq + (Msz - 7)) 1 MBq46 Malq46 1
          else
            if bq = 0 then
              if Mhb_ = 0 then
                match (f_X6_putFragment MB_p MU Mal_p 1 bq (Mbs - bq)) with
                | (MBq76, Malq76) =>
                  lp_X6_append MU Msz Mbs n (bq + (Mbs - bq)) 0 MBq76 Malq76 1
              else
                match (f_X6_putFragment MB_p MU Mal_p 4 bq (Mbs - bq)) with
                | (MBq73, Malq73) =>
                  lp_X6_append MU Msz Mbs n (bq + (Mbs - bq)) 0 MBq73 Malq73 1
            else
              match (f_X6_putFragment MB_p MU Mal_p 4 bq (Mbs - bq)) with
              | (MBq69, Malq69) =>
                lp_X6_append MU Msz Mbs n (bq + (Mbs - bq)) 0 MBq69 Malq69 1
def f_X6_append (MB : Nat → Int32) (MU : Nat → Int32) (Msz : Int32) (Mal : Int32) (Mbs : Int32) (Mhb : Int32) : Int32 × (Nat → Int32) × Int32 × Int32 × Int32 :=
  if (f_X6_appendedSize Msz Mal Mbs) ≤ 4096 then
    lp_X6_append MU Msz Mbs 1000 0 1 MB Mal Mhb
  else
    ((-2), MB, 0, Mal, Mhb)
set_option maxHeartbeats 4000000 in
set_option maxRecDepth 100000 in
theorem c_X6_append (l : Launch) (g : zG) (M ab au ah ar aw ay : Nat) (MB : Nat → Int32) (MU : Nat → Int32) (MH : Nat → Int32) (MR : Nat → Int32) (MW : Nat → Int32) (MY : Nat → Int32) (Mft : Int32) (Msz : Int32) (Mal : Int32) (Mbs : Int32) (Mpl : Int32) (Mbg : Int32) (Mlo : Int32) (Mhs : Int32) (Mhf : Int32) (Mhp : Int32) (Mrs : Int32) (Mrf : Int32) (Mto : Int32) (Mtb : Int32) (Mfr : Int32) (Mln : Int32) (Mhb : Int32) (hz : zsz Msz) (ha : zok 4096 Mal) (hu : zok 400 Mbs) : zMI l yX6_append wsX6_append ({ frames := 3, cells := 0, slots := 0, locals := 73 }) g [.ref M] [(M, .inr (5, [.int Mft, .int Msz, .int Mal, .ref ab, .int Mbs, .ref au, .int Mpl, .int Mbg, .int Mlo, .int Mhs, .int Mhf, .ref ah, .int Mhp, .int Mrs, .int Mrf, .ref ar, .int Mto, .int Mtb, .ref aw, .ref ay, .int Mfr, .int Mln, .int Mhb])), (ab, .inl (g.2.2.1, 4096, .inl MB)), (au, .inl (g.2.2.1, 400, .inl MU)), (ah, .inl (g.2.2.1, 4096, .inl MH)), (ar, .inl (g.2.2.1, 4096, .inl MR)), (aw, .inl (g.2.2.1, 100, .inl MW)), (ay, .inl (g.2.2.1, 100, .inl MY))] ((f_X6_append MB MU Msz Mal Mbs Mhb).1) [(M, .inr (5, [.int ((f_X6_append MB MU Msz Mal Mbs Mhb).2.2.1), .int Msz, .int ((f_X6_append MB MU Msz Mal Mbs Mhb).2.2.2.1), .ref ab, .int Mbs, .ref au, .int Mpl, .int Mbg, .int Mlo, .int Mhs, .int Mhf, .ref ah, .int Mhp, .int Mrs, .int Mrf, .ref ar, .int Mto, .int Mtb, .ref aw, .ref ay, .int Mfr, .int Mln, .int ((f_X6_append MB MU Msz Mal Mbs Mhb).2.2.2.2)])), (ab, .inl (g.2.2.1, 4096, .inl ((f_X6_append MB MU Msz Mal Mbs Mhb).2.1))), (au, .inl (g.2.2.1, 400, .inl MU)), (ah, .inl (g.2.2.1, 4096, .inl MH)), (ar, .inl (g.2.2.1, 4096, .inl MR)), (aw, .inl (g.2.2.1, 100, .inl MW)), (ay, .inl (g.2.2.1, 100, .inl MY))] := by
  refine zMI_of (cc := cX6_append) (nL := 7) (ty := .int) (by decide) rfl (Nat.le_of_ble_eq_true rfl) rfl ?_
  intro X C hret
  refine z_lv (lv' := [(0, .ref M)]) [0] rfl ?_
  refine z_aload_n C dX6_append_0 rfl 0 rfl ?_
  refine z_iconst (v := 0) C dX6_append_1 (by decide) ?_
  refine z_put (ci := 5) (v := .int 0) (ty := .int) (Cn := RX6) (T := TX6) (N := 23) (ws' := [(M, .inr (5, [.int 0, .int Msz, .int Mal, .ref ab, .int Mbs, .ref au, .int Mpl, .int Mbg, .int Mlo, .int Mhs, .int Mhf, .ref ah, .int Mhp, .int Mrs, .int Mrf, .ref ar, .int Mto, .int Mtb, .ref aw, .ref ay, .int Mfr, .int Mln, .int Mhb])), (ab, .inl (g.2.2.1, 4096, .inl MB)), (au, .inl (g.2.2.1, 400, .inl MU)), (ah, .inl (g.2.2.1, 4096, .inl MH)), (ar, .inl (g.2.2.1, 4096, .inl MR)), (aw, .inl (g.2.2.1, 100, .inl MW)), (ay, .inl (g.2.2.1, 100, .inl MY))]) C dX6_append_2 (fun w h => List.mem_cons_of_mem _ (List.mem_append_right _ h)) tyX6 tyX6_ok nmX6 0 rfl rfl 0 (by decide) (List.mem_of_getElem? (i := 1) rfl) rfl rfl (by decide +kernel) rfl rfl (Nat.le_of_ble_eq_true rfl) rfl ?_
  refine z_aload_n C dX6_append_5 rfl 0 rfl ?_
  refine z_callVi (n := 0) (isC := [0, 1, 2, 3, 4, 5, 6]) (isR := []) (isP := [0, 1, 2, 3, 4, 5, 6]) (As := []) (rest := []) (wr := []) (ws2 := [(M, .inr (5, [.int 0, .int Msz, .int Mal, .ref ab, .int Mbs, .ref au, .int Mpl, .int Mbg, .int Mlo, .int Mhs, .int Mhf, .ref ah, .int Mhp, .int Mrs, .int Mrf, .ref ar, .int Mto, .int Mtb, .ref aw, .ref ay, .int Mfr, .int Mln, .int Mhb])), (ab, .inl (g.2.2.1, 4096, .inl MB)), (au, .inl (g.2.2.1, 400, .inl MU)), (ah, .inl (g.2.2.1, 4096, .inl MH)), (ar, .inl (g.2.2.1, 4096, .inl MR)), (aw, .inl (g.2.2.1, 100, .inl MW)), (ay, .inl (g.2.2.1, 100, .inl MY))]) C dX6_append_6 (c_X6_appendedSize (zl X) g M ab au ah ar aw ay MB MU MH MR MW MY 0 Msz Mal Mbs Mpl Mbg Mlo Mhs Mhf Mhp Mrs Mrf Mto Mtb Mfr Mln Mhb hz ha hu) gX6_append_X6_appendedSize rfl ⟨rfl, rfl⟩ (by decide +kernel) (by decide) (by decide) rfl rfl rfl rfl (Nat.le_of_ble_eq_true rfl) rfl rfl ⟨rfl, rfl, rfl⟩ (by decide) rfl ?_
  generalize hT1 : (f_X6_appendedSize Msz Mal Mbs) = rq1
  refine z_sipush (v := 4096) C dX6_append_9 (by decide) ?_
  refine z_icmp_le (tgt := 18) C dX6_append_12 (by decide) (fun c_2 => ?_) (fun c_2 => ?_)
  · skip
    refine z_iconst (v := 0) C dX6_append_18 (by decide) ?_
    refine z_istore_n (lv' := [(1, .int 0), (0, .ref M)]) C dX6_append_19 rfl (by decide) rfl ?_
    refine z_iconst (v := 1) C dX6_append_20 (by decide) ?_
    refine z_istore_n (lv' := [(2, .int 1), (1, .int 0), (0, .ref M)]) C dX6_append_21 rfl (by decide) rfl ?_
    have loop : ∀ (n : Nat) (bq : Int32) (mo : Int32) (MB_ : Nat → Int32) (Mal_ : Int32) (Mhb_ : Int32), zap Msz n Mal_ (Mbs - bq) mo → (lp_X6_appendedSize Msz n Mal_ (Mbs - bq) mo).toInt ≤ 4096 → 0 ≤ bq.toInt ∧ bq.toInt ≤ Mbs.toInt → lp_X6_append MU Msz Mbs n bq mo MB_ Mal_ Mhb_ = (f_X6_append MB MU Msz Mal Mbs Mhb) → zV X g 7 0 0 22 [(0, .ref M), (1, .int bq), (2, .int mo)] [] [(M, .inr (5, [.int 0, .int Msz, .int Mal_, .ref ab, .int Mbs, .ref au, .int Mpl, .int Mbg, .int Mlo, .int Mhs, .int Mhf, .ref ah, .int Mhp, .int Mrs, .int Mrf, .ref ar, .int Mto, .int Mtb, .ref aw, .ref ay, .int Mfr, .int Mln, .int Mhb_])), (ab, .inl (g.2.2.1, 4096, .inl MB_)), (au, .inl (g.2.2.1, 400, .inl MU)), (ah, .inl (g.2.2.1, 4096, .inl MH)), (ar, .inl (g.2.2.1, 4096, .inl MR)), (aw, .inl (g.2.2.1, 100, .inl MW)), (ay, .inl (g.2.2.1, 100, .inl MY))] := by
      intro n
      induction n with
      | zero =>
        intro bq mo MB_ Mal_ Mhb_ hp hq hb hv
        exact absurd (zap_z hp) id
      | succ n ih =>
        intro bq mo MB_ Mal_ Mhb_ hp hq hb hv
        refine z_iload_n C dX6_append_22 rfl 2 rfl ?_
        refine z_if_eq (tgt := 179) C dX6_append_23 (by decide) (fun c_3 => ?_) (fun c_3 => ?_)
        · skip
          refine z_aload_n C dX6_append_179 rfl 0 rfl ?_
          refine z_iconst (v := 0) C dX6_append_180 (by decide) ?_
          refine z_put (ci := 5) (v := .int 0) (ty := .boolean) (Cn := RX6) (T := TX6) (N := 23) (ws' := [(M, .inr (5, [.int 0, .int Msz, .int Mal_, .ref ab, .int Mbs, .ref au, .int Mpl, .int Mbg, .int Mlo, .int Mhs, .int Mhf, .ref ah, .int Mhp, .int Mrs, .int Mrf, .ref ar, .int Mto, .int Mtb, .ref aw, .ref ay, .int Mfr, .int Mln, .int 0])), (ab, .inl (g.2.2.1, 4096, .inl MB_)), (au, .inl (g.2.2.1, 400, .inl MU)), (ah, .inl (g.2.2.1, 4096, .inl MH)), (ar, .inl (g.2.2.1, 4096, .inl MR)), (aw, .inl (g.2.2.1, 100, .inl MW)), (ay, .inl (g.2.2.1, 100, .inl MY))]) C dX6_append_181 (fun w h => List.mem_cons_of_mem _ (List.mem_append_right _ h)) tyX6 tyX6_ok nmX6 0 rfl rfl 22 (by decide) (List.mem_of_getElem? (i := 5) rfl) rfl rfl (by decide +kernel) rfl rfl (Nat.le_of_ble_eq_true rfl) rfl ?_
          refine z_aload_n C dX6_append_184 rfl 0 rfl ?_
          refine z_get (ci := 5) (v := .int Mal_) (Cn := RX6) (T := TX6) (N := 23) C dX6_append_185 (fun w h => List.mem_cons_of_mem _ (List.mem_append_right _ h)) 0 rfl rfl 2 (by decide) (List.mem_of_getElem? (i := 3) rfl) rfl rfl ?_
          have he : (f_X6_append MB MU Msz Mal Mbs Mhb) = (Mal_, MB_, 0, Mal_, 0) := by rw [← hv]; simp only [lp_X6_append, if_pos c_3]
          exact hret _ _ _ _ dX6_append_188 (by first | rw [he] | rfl) (by first | rw [he] | rfl)
        · skip
          refine z_aload_n C dX6_append_26 rfl 0 rfl ?_
          refine z_get (ci := 5) (v := .int Msz) (Cn := RX6) (T := TX6) (N := 23) C dX6_append_27 (fun w h => List.mem_cons_of_mem _ (List.mem_append_right _ h)) 0 rfl rfl 1 (by decide) (List.mem_of_getElem? (i := 2) rfl) rfl rfl ?_
          refine z_aload_n C dX6_append_30 rfl 0 rfl ?_
          refine z_get (ci := 5) (v := .int Mal_) (Cn := RX6) (T := TX6) (N := 23) C dX6_append_31 (fun w h => List.mem_cons_of_mem _ (List.mem_append_right _ h)) 0 rfl rfl 2 (by decide) (List.mem_of_getElem? (i := 3) rfl) rfl rfl ?_
          refine z_aload_n C dX6_append_34 rfl 0 rfl ?_
          refine z_get (ci := 5) (v := .int Msz) (Cn := RX6) (T := TX6) (N := 23) C dX6_append_35 (fun w h => List.mem_cons_of_mem _ (List.mem_append_right _ h)) 0 rfl rfl 1 (by decide) (List.mem_of_getElem? (i := 2) rfl) rfl rfl ?_
          refine z_irem C dX6_append_38 (zsz_ne hz) ?_
          refine z_isub C dX6_append_39 ?_
          refine z_istore_n (lv' := [(3, .int (Msz - (zMod Mal_ Msz))), (0, .ref M), (1, .int bq), (2, .int mo)]) C dX6_append_40 rfl (by decide) rfl ?_
          refine z_iload_n C dX6_append_41 rfl 0 rfl ?_
          refine z_bipush (v := 7) C dX6_append_42 (by decide) ?_
          refine z_icmp_ge (tgt := 72) C dX6_append_44 (by decide) (fun c_4 => ?_) (fun c_4 => ?_)
          · skip
            refine z_aload_n C dX6_append_72 rfl 1 rfl ?_
            refine z_get (ci := 5) (v := .int Mbs) (Cn := RX6) (T := TX6) (N := 23) C dX6_append_73 (fun w h => List.mem_cons_of_mem _ (List.mem_append_right _ h)) 0 rfl rfl 4 (by decide) (List.mem_of_getElem? (i := 4) rfl) rfl rfl ?_
            refine z_iload_n C dX6_append_76 rfl 2 rfl ?_
            refine z_isub C dX6_append_77 ?_
            refine z_istore (lv' := [(4, .int (Mbs - bq)), (3, .int (Msz - (zMod Mal_ Msz))), (0, .ref M), (1, .int bq), (2, .int mo)]) C dX6_append_78 (by decide) rfl ?_
            refine z_iload C dX6_append_80 0 rfl ?_
            refine z_iload_n C dX6_append_82 rfl 1 rfl ?_
            refine z_bipush (v := 7) C dX6_append_83 (by decide) ?_
            refine z_isub C dX6_append_85 ?_
            refine z_icmp_ge (tgt := 94) C dX6_append_86 (by decide) (fun c_5 => ?_) (fun c_5 => ?_)
            · skip
              refine z_iload_n C dX6_append_94 rfl 1 rfl ?_
              refine z_bipush (v := 7) C dX6_append_95 (by decide) ?_
              refine z_isub C dX6_append_97 ?_
              refine z_istore (lv' := [(5, .int ((Msz - (zMod Mal_ Msz)) - 7)), (4, .int (Mbs - bq)), (3, .int (Msz - (zMod Mal_ Msz))), (0, .ref M), (1, .int bq), (2, .int mo)]) C dX6_append_98 (by decide) rfl ?_
              refine z_iload C dX6_append_100 0 rfl ?_
              refine z_iload C dX6_append_102 1 rfl ?_
              refine z_icmp_ne (tgt := 111) C dX6_append_104 (by decide) (fun c_6 => ?_) (fun c_6 => ?_)
              · skip
                refine z_iconst (v := 0) C dX6_append_111 (by decide) ?_
                refine z_istore (lv' := [(6, .int 0), (5, .int ((Msz - (zMod Mal_ Msz)) - 7)), (4, .int (Mbs - bq)), (3, .int (Msz - (zMod Mal_ Msz))), (0, .ref M), (1, .int bq), (2, .int mo)]) C dX6_append_112 (by decide) rfl ?_
                refine z_aload_n C dX6_append_114 rfl 4 rfl ?_
                refine z_iload_n C dX6_append_115 rfl 5 rfl ?_
                refine z_if_ne (tgt := 139) C dX6_append_116 (by decide) (fun c_7 => ?_) (fun c_7 => ?_)
                · skip
                  refine z_iload C dX6_append_139 0 rfl ?_
                  refine z_if_eq (tgt := 148) C dX6_append_141 (by decide) (fun c_8 => ?_) (fun c_8 => absurd (by decide) c_8)
                  refine z_iconst (v := 3) C dX6_append_148 (by decide) ?_
                  refine z_iload_n C dX6_append_149 rfl 5 rfl ?_
                  refine z_iload C dX6_append_150 1 rfl ?_
                  refine z_callVv (n := 3) (isC := [0, 1, 2, 3, 4, 5, 6]) (isR := []) (isP := [0, 1, 2, 3, 4, 5, 6]) (As := [.int 3, .int bq, .int ((Msz - (zMod Mal_ Msz)) - 7)]) (rest := []) (wr := []) (ws2 := [(M, .inr (5, [.int 0, .int Msz, .int ((f_X6_putFragment MB_ MU Mal_ 3 bq ((Msz - (zMod Mal_ Msz)) - 7)).2), .ref ab, .int Mbs, .ref au, .int Mpl, .int Mbg, .int Mlo, .int Mhs, .int Mhf, .ref ah, .int Mhp, .int Mrs, .int Mrf, .ref ar, .int Mto, .int Mtb, .ref aw, .ref ay, .int Mfr, .int Mln, .int Mhb_])), (ab, .inl (g.2.2.1, 4096, .inl ((f_X6_putFragment MB_ MU Mal_ 3 bq ((Msz - (zMod Mal_ Msz)) - 7)).1))), (au, .inl (g.2.2.1, 400, .inl MU)), (ah, .inl (g.2.2.1, 4096, .inl MH)), (ar, .inl (g.2.2.1, 4096, .inl MR)), (aw, .inl (g.2.2.1, 100, .inl MW)), (ay, .inl (g.2.2.1, 100, .inl MY))]) C dX6_append_152 (c_X6_putFragment (zl X) g M ab au ah ar aw ay MB_ MU MH MR MW MY 0 Msz Mal_ Mbs Mpl Mbg Mlo Mhs Mhf Mhp Mrs Mrf Mto Mtb Mfr Mln Mhb_ 3 bq ((Msz - (zMod Mal_ Msz)) - 7) (zapp_seg_at hz hu hp hb c_3 c_4 c_5) (zapp_room_at hz hp hq c_3 c_4 c_5)) gX6_append_X6_putFragment rfl ⟨rfl, rfl⟩ (by decide +kernel) (by decide) (by decide) rfl rfl rfl rfl (Nat.le_of_ble_eq_true rfl) rfl rfl ⟨rfl, rfl, rfl⟩ (by decide) rfl ?_
                  generalize hT9 : (f_X6_putFragment MB_ MU Mal_ 3 bq ((Msz - (zMod Mal_ Msz)) - 7)) = T9
                  obtain ⟨MBq9, Malq9⟩ := T9
                  refine z_aload_n C dX6_append_155 rfl 4 rfl ?_
                  refine z_iconst (v := 1) C dX6_append_156 (by decide) ?_
                  refine z_put (ci := 5) (v := .int 1) (ty := .boolean) (Cn := RX6) (T := TX6) (N := 23) (ws' := [(M, .inr (5, [.int 0, .int Msz, .int Malq9, .ref ab, .int Mbs, .ref au, .int Mpl, .int Mbg, .int Mlo, .int Mhs, .int Mhf, .ref ah, .int Mhp, .int Mrs, .int Mrf, .ref ar, .int Mto, .int Mtb, .ref aw, .ref ay, .int Mfr, .int Mln, .int 1])), (ab, .inl (g.2.2.1, 4096, .inl MBq9)), (au, .inl (g.2.2.1, 400, .inl MU)), (ah, .inl (g.2.2.1, 4096, .inl MH)), (ar, .inl (g.2.2.1, 4096, .inl MR)), (aw, .inl (g.2.2.1, 100, .inl MW)), (ay, .inl (g.2.2.1, 100, .inl MY))]) C dX6_append_157 (fun w h => List.mem_cons_of_mem _ (List.mem_append_right _ h)) tyX6 tyX6_ok nmX6 0 rfl rfl 22 (by decide) (List.mem_of_getElem? (i := 5) rfl) rfl rfl (by decide +kernel) rfl rfl (Nat.le_of_ble_eq_true rfl) rfl ?_
                  refine z_iload_n C dX6_append_160 rfl 5 rfl ?_
                  refine z_iload C dX6_append_161 1 rfl ?_
                  refine z_iadd C dX6_append_163 ?_
                  refine z_istore_n (lv' := [(1, .int (bq + ((Msz - (zMod Mal_ Msz)) - 7))), (6, .int 0), (5, .int ((Msz - (zMod Mal_ Msz)) - 7)), (4, .int (Mbs - bq)), (3, .int (Msz - (zMod Mal_ Msz))), (0, .ref M), (2, .int mo)]) C dX6_append_164 rfl (by decide) rfl ?_
                  refine z_iload C dX6_append_165 1 rfl ?_
                  refine z_if_ne (tgt := 174) C dX6_append_167 (by decide) (fun c_10 => absurd c_10 (by decide)) (fun c_10 => ?_)
                  refine z_iconst (v := 1) C dX6_append_170 (by decide) ?_
                  refine z_goto (tgt := 175) C dX6_append_171 (by decide) ?_
                  refine z_istore_n (lv' := [(2, .int 1), (1, .int (bq + ((Msz - (zMod Mal_ Msz)) - 7))), (6, .int 0), (5, .int ((Msz - (zMod Mal_ Msz)) - 7)), (4, .int (Mbs - bq)), (3, .int (Msz - (zMod Mal_ Msz))), (0, .ref M)]) C dX6_append_175 rfl (by decide) rfl ?_
                  refine z_goto (tgt := 22) C dX6_append_176 (by decide) ?_
                  exact z_lv [6, 1, 0] rfl (ih (bq + ((Msz - (zMod Mal_ Msz)) - 7)) 1 MBq9 Malq9 1 (zapp_p1_at hz hp hq c_3 c_4 c_5 c_6 hT9) (zapp_q1_at hz hp hq c_3 c_4 c_5 c_6 hT9) (zapp_b_at hz hu hp hb c_3 c_4 c_5) (by rw [← hv]; simp only [lp_X6_append, if_neg c_3, if_pos c_4, if_pos c_5, if_neg c_6, if_neg c_7, hT9]))
                · skip
                  refine z_aload_n C dX6_append_119 rfl 4 rfl ?_
                  refine z_get (ci := 5) (v := .int Mhb_) (Cn := RX6) (T := TX6) (N := 23) C dX6_append_120 (fun w h => List.mem_cons_of_mem _ (List.mem_append_right _ h)) 0 rfl rfl 22 (by decide) (List.mem_of_getElem? (i := 5) rfl) rfl rfl ?_
                  refine z_if_ne (tgt := 139) C dX6_append_123 (by decide) (fun c_11 => ?_) (fun c_11 => ?_)
                  · skip
                    refine z_iload C dX6_append_139 0 rfl ?_
                    refine z_if_eq (tgt := 148) C dX6_append_141 (by decide) (fun c_12 => ?_) (fun c_12 => absurd (by decide) c_12)
                    refine z_iconst (v := 3) C dX6_append_148 (by decide) ?_
                    refine z_iload_n C dX6_append_149 rfl 5 rfl ?_
                    refine z_iload C dX6_append_150 1 rfl ?_
                    refine z_callVv (n := 3) (isC := [0, 1, 2, 3, 4, 5, 6]) (isR := []) (isP := [0, 1, 2, 3, 4, 5, 6]) (As := [.int 3, .int bq, .int ((Msz - (zMod Mal_ Msz)) - 7)]) (rest := []) (wr := []) (ws2 := [(M, .inr (5, [.int 0, .int Msz, .int ((f_X6_putFragment MB_ MU Mal_ 3 bq ((Msz - (zMod Mal_ Msz)) - 7)).2), .ref ab, .int Mbs, .ref au, .int Mpl, .int Mbg, .int Mlo, .int Mhs, .int Mhf, .ref ah, .int Mhp, .int Mrs, .int Mrf, .ref ar, .int Mto, .int Mtb, .ref aw, .ref ay, .int Mfr, .int Mln, .int Mhb_])), (ab, .inl (g.2.2.1, 4096, .inl ((f_X6_putFragment MB_ MU Mal_ 3 bq ((Msz - (zMod Mal_ Msz)) - 7)).1))), (au, .inl (g.2.2.1, 400, .inl MU)), (ah, .inl (g.2.2.1, 4096, .inl MH)), (ar, .inl (g.2.2.1, 4096, .inl MR)), (aw, .inl (g.2.2.1, 100, .inl MW)), (ay, .inl (g.2.2.1, 100, .inl MY))]) C dX6_append_152 (c_X6_putFragment (zl X) g M ab au ah ar aw ay MB_ MU MH MR MW MY 0 Msz Mal_ Mbs Mpl Mbg Mlo Mhs Mhf Mhp Mrs Mrf Mto Mtb Mfr Mln Mhb_ 3 bq ((Msz - (zMod Mal_ Msz)) - 7) (zapp_seg_at hz hu hp hb c_3 c_4 c_5) (zapp_room_at hz hp hq c_3 c_4 c_5)) gX6_append_X6_putFragment rfl ⟨rfl, rfl⟩ (by decide +kernel) (by decide) (by decide) rfl rfl rfl rfl (Nat.le_of_ble_eq_true rfl) rfl rfl ⟨rfl, rfl, rfl⟩ (by decide) rfl ?_
                    generalize hT13 : (f_X6_putFragment MB_ MU Mal_ 3 bq ((Msz - (zMod Mal_ Msz)) - 7)) = T13
                    obtain ⟨MBq13, Malq13⟩ := T13
                    refine z_aload_n C dX6_append_155 rfl 4 rfl ?_
                    refine z_iconst (v := 1) C dX6_append_156 (by decide) ?_
                    refine z_put (ci := 5) (v := .int 1) (ty := .boolean) (Cn := RX6) (T := TX6) (N := 23) (ws' := [(M, .inr (5, [.int 0, .int Msz, .int Malq13, .ref ab, .int Mbs, .ref au, .int Mpl, .int Mbg, .int Mlo, .int Mhs, .int Mhf, .ref ah, .int Mhp, .int Mrs, .int Mrf, .ref ar, .int Mto, .int Mtb, .ref aw, .ref ay, .int Mfr, .int Mln, .int 1])), (ab, .inl (g.2.2.1, 4096, .inl MBq13)), (au, .inl (g.2.2.1, 400, .inl MU)), (ah, .inl (g.2.2.1, 4096, .inl MH)), (ar, .inl (g.2.2.1, 4096, .inl MR)), (aw, .inl (g.2.2.1, 100, .inl MW)), (ay, .inl (g.2.2.1, 100, .inl MY))]) C dX6_append_157 (fun w h => List.mem_cons_of_mem _ (List.mem_append_right _ h)) tyX6 tyX6_ok nmX6 0 rfl rfl 22 (by decide) (List.mem_of_getElem? (i := 5) rfl) rfl rfl (by decide +kernel) rfl rfl (Nat.le_of_ble_eq_true rfl) rfl ?_
                    refine z_iload_n C dX6_append_160 rfl 5 rfl ?_
                    refine z_iload C dX6_append_161 1 rfl ?_
                    refine z_iadd C dX6_append_163 ?_
                    refine z_istore_n (lv' := [(1, .int (bq + ((Msz - (zMod Mal_ Msz)) - 7))), (6, .int 0), (5, .int ((Msz - (zMod Mal_ Msz)) - 7)), (4, .int (Mbs - bq)), (3, .int (Msz - (zMod Mal_ Msz))), (0, .ref M), (2, .int mo)]) C dX6_append_164 rfl (by decide) rfl ?_
                    refine z_iload C dX6_append_165 1 rfl ?_
                    refine z_if_ne (tgt := 174) C dX6_append_167 (by decide) (fun c_14 => absurd c_14 (by decide)) (fun c_14 => ?_)
                    refine z_iconst (v := 1) C dX6_append_170 (by decide) ?_
                    refine z_goto (tgt := 175) C dX6_append_171 (by decide) ?_
                    refine z_istore_n (lv' := [(2, .int 1), (1, .int (bq + ((Msz - (zMod Mal_ Msz)) - 7))), (6, .int 0), (5, .int ((Msz - (zMod Mal_ Msz)) - 7)), (4, .int (Mbs - bq)), (3, .int (Msz - (zMod Mal_ Msz))), (0, .ref M)]) C dX6_append_175 rfl (by decide) rfl ?_
                    refine z_goto (tgt := 22) C dX6_append_176 (by decide) ?_
                    exact z_lv [6, 1, 0] rfl (ih (bq + ((Msz - (zMod Mal_ Msz)) - 7)) 1 MBq13 Malq13 1 (zapp_p1_at hz hp hq c_3 c_4 c_5 c_6 hT13) (zapp_q1_at hz hp hq c_3 c_4 c_5 c_6 hT13) (zapp_b_at hz hu hp hb c_3 c_4 c_5) (by rw [← hv]; simp only [lp_X6_append, if_neg c_3, if_pos c_4, if_pos c_5, if_neg c_6, if_pos c_7, if_neg c_11, hT13]))
                  · skip
                    refine z_iload C dX6_append_126 0 rfl ?_
                    refine z_if_eq (tgt := 135) C dX6_append_128 (by decide) (fun c_15 => ?_) (fun c_15 => absurd (by decide) c_15)
                    refine z_iconst (v := 2) C dX6_append_135 (by decide) ?_
                    refine z_goto (tgt := 149) C dX6_append_136 (by decide) ?_
                    refine z_iload_n C dX6_append_149 rfl 5 rfl ?_
                    refine z_iload C dX6_append_150 1 rfl ?_
                    refine z_callVv (n := 3) (isC := [0, 1, 2, 3, 4, 5, 6]) (isR := []) (isP := [0, 1, 2, 3, 4, 5, 6]) (As := [.int 2, .int bq, .int ((Msz - (zMod Mal_ Msz)) - 7)]) (rest := []) (wr := []) (ws2 := [(M, .inr (5, [.int 0, .int Msz, .int ((f_X6_putFragment MB_ MU Mal_ 2 bq ((Msz - (zMod Mal_ Msz)) - 7)).2), .ref ab, .int Mbs, .ref au, .int Mpl, .int Mbg, .int Mlo, .int Mhs, .int Mhf, .ref ah, .int Mhp, .int Mrs, .int Mrf, .ref ar, .int Mto, .int Mtb, .ref aw, .ref ay, .int Mfr, .int Mln, .int Mhb_])), (ab, .inl (g.2.2.1, 4096, .inl ((f_X6_putFragment MB_ MU Mal_ 2 bq ((Msz - (zMod Mal_ Msz)) - 7)).1))), (au, .inl (g.2.2.1, 400, .inl MU)), (ah, .inl (g.2.2.1, 4096, .inl MH)), (ar, .inl (g.2.2.1, 4096, .inl MR)), (aw, .inl (g.2.2.1, 100, .inl MW)), (ay, .inl (g.2.2.1, 100, .inl MY))]) C dX6_append_152 (c_X6_putFragment (zl X) g M ab au ah ar aw ay MB_ MU MH MR MW MY 0 Msz Mal_ Mbs Mpl Mbg Mlo Mhs Mhf Mhp Mrs Mrf Mto Mtb Mfr Mln Mhb_ 2 bq ((Msz - (zMod Mal_ Msz)) - 7) (zapp_seg_at hz hu hp hb c_3 c_4 c_5) (zapp_room_at hz hp hq c_3 c_4 c_5)) gX6_append_X6_putFragment rfl ⟨rfl, rfl⟩ (by decide +kernel) (by decide) (by decide) rfl rfl rfl rfl (Nat.le_of_ble_eq_true rfl) rfl rfl ⟨rfl, rfl, rfl⟩ (by decide) rfl ?_
                    generalize hT16 : (f_X6_putFragment MB_ MU Mal_ 2 bq ((Msz - (zMod Mal_ Msz)) - 7)) = T16
                    obtain ⟨MBq16, Malq16⟩ := T16
                    refine z_aload_n C dX6_append_155 rfl 4 rfl ?_
                    refine z_iconst (v := 1) C dX6_append_156 (by decide) ?_
                    refine z_put (ci := 5) (v := .int 1) (ty := .boolean) (Cn := RX6) (T := TX6) (N := 23) (ws' := [(M, .inr (5, [.int 0, .int Msz, .int Malq16, .ref ab, .int Mbs, .ref au, .int Mpl, .int Mbg, .int Mlo, .int Mhs, .int Mhf, .ref ah, .int Mhp, .int Mrs, .int Mrf, .ref ar, .int Mto, .int Mtb, .ref aw, .ref ay, .int Mfr, .int Mln, .int 1])), (ab, .inl (g.2.2.1, 4096, .inl MBq16)), (au, .inl (g.2.2.1, 400, .inl MU)), (ah, .inl (g.2.2.1, 4096, .inl MH)), (ar, .inl (g.2.2.1, 4096, .inl MR)), (aw, .inl (g.2.2.1, 100, .inl MW)), (ay, .inl (g.2.2.1, 100, .inl MY))]) C dX6_append_157 (fun w h => List.mem_cons_of_mem _ (List.mem_append_right _ h)) tyX6 tyX6_ok nmX6 0 rfl rfl 22 (by decide) (List.mem_of_getElem? (i := 5) rfl) rfl rfl (by decide +kernel) rfl rfl (Nat.le_of_ble_eq_true rfl) rfl ?_
                    refine z_iload_n C dX6_append_160 rfl 5 rfl ?_
                    refine z_iload C dX6_append_161 1 rfl ?_
                    refine z_iadd C dX6_append_163 ?_
                    refine z_istore_n (lv' := [(1, .int (bq + ((Msz - (zMod Mal_ Msz)) - 7))), (6, .int 0), (5, .int ((Msz - (zMod Mal_ Msz)) - 7)), (4, .int (Mbs - bq)), (3, .int (Msz - (zMod Mal_ Msz))), (0, .ref M), (2, .int mo)]) C dX6_append_164 rfl (by decide) rfl ?_
                    refine z_iload C dX6_append_165 1 rfl ?_
                    refine z_if_ne (tgt := 174) C dX6_append_167 (by decide) (fun c_17 => absurd c_17 (by decide)) (fun c_17 => ?_)
                    refine z_iconst (v := 1) C dX6_append_170 (by decide) ?_
                    refine z_goto (tgt := 175) C dX6_append_171 (by decide) ?_
                    refine z_istore_n (lv' := [(2, .int 1), (1, .int (bq + ((Msz - (zMod Mal_ Msz)) - 7))), (6, .int 0), (5, .int ((Msz - (zMod Mal_ Msz)) - 7)), (4, .int (Mbs - bq)), (3, .int (Msz - (zMod Mal_ Msz))), (0, .ref M)]) C dX6_append_175 rfl (by decide) rfl ?_
                    refine z_goto (tgt := 22) C dX6_append_176 (by decide) ?_
                    exact z_lv [6, 1, 0] rfl (ih (bq + ((Msz - (zMod Mal_ Msz)) - 7)) 1 MBq16 Malq16 1 (zapp_p1_at hz hp hq c_3 c_4 c_5 c_6 hT16) (zapp_q1_at hz hp hq c_3 c_4 c_5 c_6 hT16) (zapp_b_at hz hu hp hb c_3 c_4 c_5) (by rw [← hv]; simp only [lp_X6_append, if_neg c_3, if_pos c_4, if_pos c_5, if_neg c_6, if_pos c_7, if_pos c_11, hT16]))
              · skip
                refine z_iconst (v := 1) C dX6_append_107 (by decide) ?_
                refine z_goto (tgt := 112) C dX6_append_108 (by decide) ?_
                refine z_istore (lv' := [(6, .int 1), (5, .int ((Msz - (zMod Mal_ Msz)) - 7)), (4, .int (Mbs - bq)), (3, .int (Msz - (zMod Mal_ Msz))), (0, .ref M), (1, .int bq), (2, .int mo)]) C dX6_append_112 (by decide) rfl ?_
                refine z_aload_n C dX6_append_114 rfl 4 rfl ?_
                refine z_iload_n C dX6_append_115 rfl 5 rfl ?_
                refine z_if_ne (tgt := 139) C dX6_append_116 (by decide) (fun c_18 => ?_) (fun c_18 => ?_)
                · skip
                  refine z_iload C dX6_append_139 0 rfl ?_
                  refine z_if_eq (tgt := 148) C dX6_append_141 (by decide) (fun c_19 => absurd c_19 (by decide)) (fun c_19 => ?_)
                  refine z_iconst (v := 4) C dX6_append_144 (by decide) ?_
                  refine z_goto (tgt := 149) C dX6_append_145 (by decide) ?_
                  refine z_iload_n C dX6_append_149 rfl 5 rfl ?_
                  refine z_iload C dX6_append_150 1 rfl ?_
                  refine z_callVv (n := 3) (isC := [0, 1, 2, 3, 4, 5, 6]) (isR := []) (isP := [0, 1, 2, 3, 4, 5, 6]) (As := [.int 4, .int bq, .int ((Msz - (zMod Mal_ Msz)) - 7)]) (rest := []) (wr := []) (ws2 := [(M, .inr (5, [.int 0, .int Msz, .int ((f_X6_putFragment MB_ MU Mal_ 4 bq ((Msz - (zMod Mal_ Msz)) - 7)).2), .ref ab, .int Mbs, .ref au, .int Mpl, .int Mbg, .int Mlo, .int Mhs, .int Mhf, .ref ah, .int Mhp, .int Mrs, .int Mrf, .ref ar, .int Mto, .int Mtb, .ref aw, .ref ay, .int Mfr, .int Mln, .int Mhb_])), (ab, .inl (g.2.2.1, 4096, .inl ((f_X6_putFragment MB_ MU Mal_ 4 bq ((Msz - (zMod Mal_ Msz)) - 7)).1))), (au, .inl (g.2.2.1, 400, .inl MU)), (ah, .inl (g.2.2.1, 4096, .inl MH)), (ar, .inl (g.2.2.1, 4096, .inl MR)), (aw, .inl (g.2.2.1, 100, .inl MW)), (ay, .inl (g.2.2.1, 100, .inl MY))]) C dX6_append_152 (c_X6_putFragment (zl X) g M ab au ah ar aw ay MB_ MU MH MR MW MY 0 Msz Mal_ Mbs Mpl Mbg Mlo Mhs Mhf Mhp Mrs Mrf Mto Mtb Mfr Mln Mhb_ 4 bq ((Msz - (zMod Mal_ Msz)) - 7) (zapp_seg_at hz hu hp hb c_3 c_4 c_5) (zapp_room_at hz hp hq c_3 c_4 c_5)) gX6_append_X6_putFragment rfl ⟨rfl, rfl⟩ (by decide +kernel) (by decide) (by decide) rfl rfl rfl rfl (Nat.le_of_ble_eq_true rfl) rfl rfl ⟨rfl, rfl, rfl⟩ (by decide) rfl ?_
                  generalize hT20 : (f_X6_putFragment MB_ MU Mal_ 4 bq ((Msz - (zMod Mal_ Msz)) - 7)) = T20
                  obtain ⟨MBq20, Malq20⟩ := T20
                  refine z_aload_n C dX6_append_155 rfl 4 rfl ?_
                  refine z_iconst (v := 1) C dX6_append_156 (by decide) ?_
                  refine z_put (ci := 5) (v := .int 1) (ty := .boolean) (Cn := RX6) (T := TX6) (N := 23) (ws' := [(M, .inr (5, [.int 0, .int Msz, .int Malq20, .ref ab, .int Mbs, .ref au, .int Mpl, .int Mbg, .int Mlo, .int Mhs, .int Mhf, .ref ah, .int Mhp, .int Mrs, .int Mrf, .ref ar, .int Mto, .int Mtb, .ref aw, .ref ay, .int Mfr, .int Mln, .int 1])), (ab, .inl (g.2.2.1, 4096, .inl MBq20)), (au, .inl (g.2.2.1, 400, .inl MU)), (ah, .inl (g.2.2.1, 4096, .inl MH)), (ar, .inl (g.2.2.1, 4096, .inl MR)), (aw, .inl (g.2.2.1, 100, .inl MW)), (ay, .inl (g.2.2.1, 100, .inl MY))]) C dX6_append_157 (fun w h => List.mem_cons_of_mem _ (List.mem_append_right _ h)) tyX6 tyX6_ok nmX6 0 rfl rfl 22 (by decide) (List.mem_of_getElem? (i := 5) rfl) rfl rfl (by decide +kernel) rfl rfl (Nat.le_of_ble_eq_true rfl) rfl ?_
                  refine z_iload_n C dX6_append_160 rfl 5 rfl ?_
                  refine z_iload C dX6_append_161 1 rfl ?_
                  refine z_iadd C dX6_append_163 ?_
                  refine z_istore_n (lv' := [(1, .int (bq + ((Msz - (zMod Mal_ Msz)) - 7))), (6, .int 1), (5, .int ((Msz - (zMod Mal_ Msz)) - 7)), (4, .int (Mbs - bq)), (3, .int (Msz - (zMod Mal_ Msz))), (0, .ref M), (2, .int mo)]) C dX6_append_164 rfl (by decide) rfl ?_
                  refine z_iload C dX6_append_165 1 rfl ?_
                  refine z_if_ne (tgt := 174) C dX6_append_167 (by decide) (fun c_21 => ?_) (fun c_21 => absurd c_21 (by decide))
                  refine z_iconst (v := 0) C dX6_append_174 (by decide) ?_
                  refine z_istore_n (lv' := [(2, .int 0), (1, .int (bq + ((Msz - (zMod Mal_ Msz)) - 7))), (6, .int 1), (5, .int ((Msz - (zMod Mal_ Msz)) - 7)), (4, .int (Mbs - bq)), (3, .int (Msz - (zMod Mal_ Msz))), (0, .ref M)]) C dX6_append_175 rfl (by decide) rfl ?_
                  refine z_goto (tgt := 22) C dX6_append_176 (by decide) ?_
                  exact z_lv [6, 1, 0] rfl (ih (bq + ((Msz - (zMod Mal_ Msz)) - 7)) 0 MBq20 Malq20 1 (zap_e hp c_3) (zapp_q0_at hz hp hq c_3 c_4 c_5 hT20) (zapp_b_at hz hu hp hb c_3 c_4 c_5) (by rw [← hv]; simp only [lp_X6_append, if_neg c_3, if_pos c_4, if_pos c_5, if_pos c_6, if_neg c_18, hT20]))
                · skip
                  refine z_aload_n C dX6_append_119 rfl 4 rfl ?_
                  refine z_get (ci := 5) (v := .int Mhb_) (Cn := RX6) (T := TX6) (N := 23) C dX6_append_120 (fun w h => List.mem_cons_of_mem _ (List.mem_append_right _ h)) 0 rfl rfl 22 (by decide) (List.mem_of_getElem? (i := 5) rfl) rfl rfl ?_
                  refine z_if_ne (tgt := 139) C dX6_append_123 (by decide) (fun c_22 => ?_) (fun c_22 => ?_)
                  · skip
                    refine z_iload C dX6_append_139 0 rfl ?_
                    refine z_if_eq (tgt := 148) C dX6_append_141 (by decide) (fun c_23 => absurd c_23 (by decide)) (fun c_23 => ?_)
                    refine z_iconst (v := 4) C dX6_append_144 (by decide) ?_
                    refine z_goto (tgt := 149) C dX6_append_145 (by decide) ?_
                    refine z_iload_n C dX6_append_149 rfl 5 rfl ?_
                    refine z_iload C dX6_append_150 1 rfl ?_
                    refine z_callVv (n := 3) (isC := [0, 1, 2, 3, 4, 5, 6]) (isR := []) (isP := [0, 1, 2, 3, 4, 5, 6]) (As := [.int 4, .int bq, .int ((Msz - (zMod Mal_ Msz)) - 7)]) (rest := []) (wr := []) (ws2 := [(M, .inr (5, [.int 0, .int Msz, .int ((f_X6_putFragment MB_ MU Mal_ 4 bq ((Msz - (zMod Mal_ Msz)) - 7)).2), .ref ab, .int Mbs, .ref au, .int Mpl, .int Mbg, .int Mlo, .int Mhs, .int Mhf, .ref ah, .int Mhp, .int Mrs, .int Mrf, .ref ar, .int Mto, .int Mtb, .ref aw, .ref ay, .int Mfr, .int Mln, .int Mhb_])), (ab, .inl (g.2.2.1, 4096, .inl ((f_X6_putFragment MB_ MU Mal_ 4 bq ((Msz - (zMod Mal_ Msz)) - 7)).1))), (au, .inl (g.2.2.1, 400, .inl MU)), (ah, .inl (g.2.2.1, 4096, .inl MH)), (ar, .inl (g.2.2.1, 4096, .inl MR)), (aw, .inl (g.2.2.1, 100, .inl MW)), (ay, .inl (g.2.2.1, 100, .inl MY))]) C dX6_append_152 (c_X6_putFragment (zl X) g M ab au ah ar aw ay MB_ MU MH MR MW MY 0 Msz Mal_ Mbs Mpl Mbg Mlo Mhs Mhf Mhp Mrs Mrf Mto Mtb Mfr Mln Mhb_ 4 bq ((Msz - (zMod Mal_ Msz)) - 7) (zapp_seg_at hz hu hp hb c_3 c_4 c_5) (zapp_room_at hz hp hq c_3 c_4 c_5)) gX6_append_X6_putFragment rfl ⟨rfl, rfl⟩ (by decide +kernel) (by decide) (by decide) rfl rfl rfl rfl (Nat.le_of_ble_eq_true rfl) rfl rfl ⟨rfl, rfl, rfl⟩ (by decide) rfl ?_
                    generalize hT24 : (f_X6_putFragment MB_ MU Mal_ 4 bq ((Msz - (zMod Mal_ Msz)) - 7)) = T24
                    obtain ⟨MBq24, Malq24⟩ := T24
                    refine z_aload_n C dX6_append_155 rfl 4 rfl ?_
                    refine z_iconst (v := 1) C dX6_append_156 (by decide) ?_
                    refine z_put (ci := 5) (v := .int 1) (ty := .boolean) (Cn := RX6) (T := TX6) (N := 23) (ws' := [(M, .inr (5, [.int 0, .int Msz, .int Malq24, .ref ab, .int Mbs, .ref au, .int Mpl, .int Mbg, .int Mlo, .int Mhs, .int Mhf, .ref ah, .int Mhp, .int Mrs, .int Mrf, .ref ar, .int Mto, .int Mtb, .ref aw, .ref ay, .int Mfr, .int Mln, .int 1])), (ab, .inl (g.2.2.1, 4096, .inl MBq24)), (au, .inl (g.2.2.1, 400, .inl MU)), (ah, .inl (g.2.2.1, 4096, .inl MH)), (ar, .inl (g.2.2.1, 4096, .inl MR)), (aw, .inl (g.2.2.1, 100, .inl MW)), (ay, .inl (g.2.2.1, 100, .inl MY))]) C dX6_append_157 (fun w h => List.mem_cons_of_mem _ (List.mem_append_right _ h)) tyX6 tyX6_ok nmX6 0 rfl rfl 22 (by decide) (List.mem_of_getElem? (i := 5) rfl) rfl rfl (by decide +kernel) rfl rfl (Nat.le_of_ble_eq_true rfl) rfl ?_
                    refine z_iload_n C dX6_append_160 rfl 5 rfl ?_
                    refine z_iload C dX6_append_161 1 rfl ?_
                    refine z_iadd C dX6_append_163 ?_
                    refine z_istore_n (lv' := [(1, .int (bq + ((Msz - (zMod Mal_ Msz)) - 7))), (6, .int 1), (5, .int ((Msz - (zMod Mal_ Msz)) - 7)), (4, .int (Mbs - bq)), (3, .int (Msz - (zMod Mal_ Msz))), (0, .ref M), (2, .int mo)]) C dX6_append_164 rfl (by decide) rfl ?_
                    refine z_iload C dX6_append_165 1 rfl ?_
                    refine z_if_ne (tgt := 174) C dX6_append_167 (by decide) (fun c_25 => ?_) (fun c_25 => absurd c_25 (by decide))
                    refine z_iconst (v := 0) C dX6_append_174 (by decide) ?_
                    refine z_istore_n (lv' := [(2, .int 0), (1, .int (bq + ((Msz - (zMod Mal_ Msz)) - 7))), (6, .int 1), (5, .int ((Msz - (zMod Mal_ Msz)) - 7)), (4, .int (Mbs - bq)), (3, .int (Msz - (zMod Mal_ Msz))), (0, .ref M)]) C dX6_append_175 rfl (by decide) rfl ?_
                    refine z_goto (tgt := 22) C dX6_append_176 (by decide) ?_
                    exact z_lv [6, 1, 0] rfl (ih (bq + ((Msz - (zMod Mal_ Msz)) - 7)) 0 MBq24 Malq24 1 (zap_e hp c_3) (zapp_q0_at hz hp hq c_3 c_4 c_5 hT24) (zapp_b_at hz hu hp hb c_3 c_4 c_5) (by rw [← hv]; simp only [lp_X6_append, if_neg c_3, if_pos c_4, if_pos c_5, if_pos c_6, if_pos c_18, if_neg c_22, hT24]))
                  · skip
                    refine z_iload C dX6_append_126 0 rfl ?_
                    refine z_if_eq (tgt := 135) C dX6_append_128 (by decide) (fun c_26 => absurd c_26 (by decide)) (fun c_26 => ?_)
                    refine z_iconst (v := 1) C dX6_append_131 (by decide) ?_
                    refine z_goto (tgt := 149) C dX6_append_132 (by decide) ?_
                    refine z_iload_n C dX6_append_149 rfl 5 rfl ?_
                    refine z_iload C dX6_append_150 1 rfl ?_
                    refine z_callVv (n := 3) (isC := [0, 1, 2, 3, 4, 5, 6]) (isR := []) (isP := [0, 1, 2, 3, 4, 5, 6]) (As := [.int 1, .int bq, .int ((Msz - (zMod Mal_ Msz)) - 7)]) (rest := []) (wr := []) (ws2 := [(M, .inr (5, [.int 0, .int Msz, .int ((f_X6_putFragment MB_ MU Mal_ 1 bq ((Msz - (zMod Mal_ Msz)) - 7)).2), .ref ab, .int Mbs, .ref au, .int Mpl, .int Mbg, .int Mlo, .int Mhs, .int Mhf, .ref ah, .int Mhp, .int Mrs, .int Mrf, .ref ar, .int Mto, .int Mtb, .ref aw, .ref ay, .int Mfr, .int Mln, .int Mhb_])), (ab, .inl (g.2.2.1, 4096, .inl ((f_X6_putFragment MB_ MU Mal_ 1 bq ((Msz - (zMod Mal_ Msz)) - 7)).1))), (au, .inl (g.2.2.1, 400, .inl MU)), (ah, .inl (g.2.2.1, 4096, .inl MH)), (ar, .inl (g.2.2.1, 4096, .inl MR)), (aw, .inl (g.2.2.1, 100, .inl MW)), (ay, .inl (g.2.2.1, 100, .inl MY))]) C dX6_append_152 (c_X6_putFragment (zl X) g M ab au ah ar aw ay MB_ MU MH MR MW MY 0 Msz Mal_ Mbs Mpl Mbg Mlo Mhs Mhf Mhp Mrs Mrf Mto Mtb Mfr Mln Mhb_ 1 bq ((Msz - (zMod Mal_ Msz)) - 7) (zapp_seg_at hz hu hp hb c_3 c_4 c_5) (zapp_room_at hz hp hq c_3 c_4 c_5)) gX6_append_X6_putFragment rfl ⟨rfl, rfl⟩ (by decide +kernel) (by decide) (by decide) rfl rfl rfl rfl (Nat.le_of_ble_eq_true rfl) rfl rfl ⟨rfl, rfl, rfl⟩ (by decide) rfl ?_
                    generalize hT27 : (f_X6_putFragment MB_ MU Mal_ 1 bq ((Msz - (zMod Mal_ Msz)) - 7)) = T27
                    obtain ⟨MBq27, Malq27⟩ := T27
                    refine z_aload_n C dX6_append_155 rfl 4 rfl ?_
                    refine z_iconst (v := 1) C dX6_append_156 (by decide) ?_
                    refine z_put (ci := 5) (v := .int 1) (ty := .boolean) (Cn := RX6) (T := TX6) (N := 23) (ws' := [(M, .inr (5, [.int 0, .int Msz, .int Malq27, .ref ab, .int Mbs, .ref au, .int Mpl, .int Mbg, .int Mlo, .int Mhs, .int Mhf, .ref ah, .int Mhp, .int Mrs, .int Mrf, .ref ar, .int Mto, .int Mtb, .ref aw, .ref ay, .int Mfr, .int Mln, .int 1])), (ab, .inl (g.2.2.1, 4096, .inl MBq27)), (au, .inl (g.2.2.1, 400, .inl MU)), (ah, .inl (g.2.2.1, 4096, .inl MH)), (ar, .inl (g.2.2.1, 4096, .inl MR)), (aw, .inl (g.2.2.1, 100, .inl MW)), (ay, .inl (g.2.2.1, 100, .inl MY))]) C dX6_append_157 (fun w h => List.mem_cons_of_mem _ (List.mem_append_right _ h)) tyX6 tyX6_ok nmX6 0 rfl rfl 22 (by decide) (List.mem_of_getElem? (i := 5) rfl) rfl rfl (by decide +kernel) rfl rfl (Nat.le_of_ble_eq_true rfl) rfl ?_
                    refine z_iload_n C dX6_append_160 rfl 5 rfl ?_
                    refine z_iload C dX6_append_161 1 rfl ?_
                    refine z_iadd C dX6_append_163 ?_
                    refine z_istore_n (lv' := [(1, .int (bq + ((Msz - (zMod Mal_ Msz)) - 7))), (6, .int 1), (5, .int ((Msz - (zMod Mal_ Msz)) - 7)), (4, .int (Mbs - bq)), (3, .int (Msz - (zMod Mal_ Msz))), (0, .ref M), (2, .int mo)]) C dX6_append_164 rfl (by decide) rfl ?_
                    refine z_iload C dX6_append_165 1 rfl ?_
                    refine z_if_ne (tgt := 174) C dX6_append_167 (by decide) (fun c_28 => ?_) (fun c_28 => absurd c_28 (by decide))
                    refine z_iconst (v := 0) C dX6_append_174 (by decide) ?_
                    refine z_istore_n (lv' := [(2, .int 0), (1, .int (bq + ((Msz - (zMod Mal_ Msz)) - 7))), (6, .int 1), (5, .int ((Msz - (zMod Mal_ Msz)) - 7)), (4, .int (Mbs - bq)), (3, .int (Msz - (zMod Mal_ Msz))), (0, .ref M)]) C dX6_append_175 rfl (by decide) rfl ?_
                    refine z_goto (tgt := 22) C dX6_append_176 (by decide) ?_
                    exact z_lv [6, 1, 0] rfl (ih (bq + ((Msz - (zMod Mal_ Msz)) - 7)) 0 MBq27 Malq27 1 (zap_e hp c_3) (zapp_q0_at hz hp hq c_3 c_4 c_5 hT27) (zapp_b_at hz hu hp hb c_3 c_4 c_5) (by rw [← hv]; simp only [lp_X6_append, if_neg c_3, if_pos c_4, if_pos c_5, if_pos c_6, if_pos c_18, if_pos c_22, hT27]))
            · skip
              refine z_iload C dX6_append_89 0 rfl ?_
              refine z_goto (tgt := 98) C dX6_append_91 (by decide) ?_
              refine z_istore (lv' := [(5, .int (Mbs - bq)), (4, .int (Mbs - bq)), (3, .int (Msz - (zMod Mal_ Msz))), (0, .ref M), (1, .int bq), (2, .int mo)]) C dX6_append_98 (by decide) rfl ?_
              refine z_iload C dX6_append_100 0 rfl ?_
              refine z_iload C dX6_append_102 1 rfl ?_
              refine z_icmp_ne (tgt := 111) C dX6_append_104 (by decide) (fun c_29 => absurd rfl c_29) (fun c_29 => ?_)
              refine z_iconst (v := 1) C dX6_append_107 (by decide) ?_
              refine z_goto (tgt := 112) C dX6_append_108 (by decide) ?_
              refine z_istore (lv' := [(6, .int 1), (5, .int (Mbs - bq)), (4, .int (Mbs - bq)), (3, .int (Msz - (zMod Mal_ Msz))), (0, .ref M), (1, .int bq), (2, .int mo)]) C dX6_append_112 (by decide) rfl ?_
              refine z_aload_n C dX6_append_114 rfl 4 rfl ?_
              refine z_iload_n C dX6_append_115 rfl 5 rfl ?_
              refine z_if_ne (tgt := 139) C dX6_append_116 (by decide) (fun c_30 => ?_) (fun c_30 => ?_)
              · skip
                refine z_iload C dX6_append_139 0 rfl ?_
                refine z_if_eq (tgt := 148) C dX6_append_141 (by decide) (fun c_31 => absurd c_31 (by decide)) (fun c_31 => ?_)
                refine z_iconst (v := 4) C dX6_append_144 (by decide) ?_
                refine z_goto (tgt := 149) C dX6_append_145 (by decide) ?_
                refine z_iload_n C dX6_append_149 rfl 5 rfl ?_
                refine z_iload C dX6_append_150 1 rfl ?_
                refine z_callVv (n := 3) (isC := [0, 1, 2, 3, 4, 5, 6]) (isR := []) (isP := [0, 1, 2, 3, 4, 5, 6]) (As := [.int 4, .int bq, .int (Mbs - bq)]) (rest := []) (wr := []) (ws2 := [(M, .inr (5, [.int 0, .int Msz, .int ((f_X6_putFragment MB_ MU Mal_ 4 bq (Mbs - bq)).2), .ref ab, .int Mbs, .ref au, .int Mpl, .int Mbg, .int Mlo, .int Mhs, .int Mhf, .ref ah, .int Mhp, .int Mrs, .int Mrf, .ref ar, .int Mto, .int Mtb, .ref aw, .ref ay, .int Mfr, .int Mln, .int Mhb_])), (ab, .inl (g.2.2.1, 4096, .inl ((f_X6_putFragment MB_ MU Mal_ 4 bq (Mbs - bq)).1))), (au, .inl (g.2.2.1, 400, .inl MU)), (ah, .inl (g.2.2.1, 4096, .inl MH)), (ar, .inl (g.2.2.1, 4096, .inl MR)), (aw, .inl (g.2.2.1, 100, .inl MW)), (ay, .inl (g.2.2.1, 100, .inl MY))]) C dX6_append_152 (c_X6_putFragment (zl X) g M ab au ah ar aw ay MB_ MU MH MR MW MY 0 Msz Mal_ Mbs Mpl Mbg Mlo Mhs Mhf Mhp Mrs Mrf Mto Mtb Mfr Mln Mhb_ 4 bq (Mbs - bq) (zapp_seg_af hz hu hp hb c_3 c_4 c_5) (zapp_room_af hz hp hq c_3 c_4 c_5)) gX6_append_X6_putFragment rfl ⟨rfl, rfl⟩ (by decide +kernel) (by decide) (by decide) rfl rfl rfl rfl (Nat.le_of_ble_eq_true rfl) rfl rfl ⟨rfl, rfl, rfl⟩ (by decide) rfl ?_
                generalize hT32 : (f_X6_putFragment MB_ MU Mal_ 4 bq (Mbs - bq)) = T32
                obtain ⟨MBq32, Malq32⟩ := T32
                refine z_aload_n C dX6_append_155 rfl 4 rfl ?_
                refine z_iconst (v := 1) C dX6_append_156 (by decide) ?_
                refine z_put (ci := 5) (v := .int 1) (ty := .boolean) (Cn := RX6) (T := TX6) (N := 23) (ws' := [(M, .inr (5, [.int 0, .int Msz, .int Malq32, .ref ab, .int Mbs, .ref au, .int Mpl, .int Mbg, .int Mlo, .int Mhs, .int Mhf, .ref ah, .int Mhp, .int Mrs, .int Mrf, .ref ar, .int Mto, .int Mtb, .ref aw, .ref ay, .int Mfr, .int Mln, .int 1])), (ab, .inl (g.2.2.1, 4096, .inl MBq32)), (au, .inl (g.2.2.1, 400, .inl MU)), (ah, .inl (g.2.2.1, 4096, .inl MH)), (ar, .inl (g.2.2.1, 4096, .inl MR)), (aw, .inl (g.2.2.1, 100, .inl MW)), (ay, .inl (g.2.2.1, 100, .inl MY))]) C dX6_append_157 (fun w h => List.mem_cons_of_mem _ (List.mem_append_right _ h)) tyX6 tyX6_ok nmX6 0 rfl rfl 22 (by decide) (List.mem_of_getElem? (i := 5) rfl) rfl rfl (by decide +kernel) rfl rfl (Nat.le_of_ble_eq_true rfl) rfl ?_
                refine z_iload_n C dX6_append_160 rfl 5 rfl ?_
                refine z_iload C dX6_append_161 1 rfl ?_
                refine z_iadd C dX6_append_163 ?_
                refine z_istore_n (lv' := [(1, .int (bq + (Mbs - bq))), (6, .int 1), (5, .int (Mbs - bq)), (4, .int (Mbs - bq)), (3, .int (Msz - (zMod Mal_ Msz))), (0, .ref M), (2, .int mo)]) C dX6_append_164 rfl (by decide) rfl ?_
                refine z_iload C dX6_append_165 1 rfl ?_
                refine z_if_ne (tgt := 174) C dX6_append_167 (by decide) (fun c_33 => ?_) (fun c_33 => absurd c_33 (by decide))
                refine z_iconst (v := 0) C dX6_append_174 (by decide) ?_
                refine z_istore_n (lv' := [(2, .int 0), (1, .int (bq + (Mbs - bq))), (6, .int 1), (5, .int (Mbs - bq)), (4, .int (Mbs - bq)), (3, .int (Msz - (zMod Mal_ Msz))), (0, .ref M)]) C dX6_append_175 rfl (by decide) rfl ?_
                refine z_goto (tgt := 22) C dX6_append_176 (by decide) ?_
                exact z_lv [6, 1, 0] rfl (ih (bq + (Mbs - bq)) 0 MBq32 Malq32 1 (zap_e hp c_3) (zapp_q0_af hz hp hq c_3 c_4 c_5 hT32) (zapp_b_af hz hu hp hb c_3 c_4 c_5) (by rw [← hv]; simp only [lp_X6_append, if_neg c_3, if_pos c_4, if_neg c_5, if_neg c_30, hT32]))
              · skip
                refine z_aload_n C dX6_append_119 rfl 4 rfl ?_
                refine z_get (ci := 5) (v := .int Mhb_) (Cn := RX6) (T := TX6) (N := 23) C dX6_append_120 (fun w h => List.mem_cons_of_mem _ (List.mem_append_right _ h)) 0 rfl rfl 22 (by decide) (List.mem_of_getElem? (i := 5) rfl) rfl rfl ?_
                refine z_if_ne (tgt := 139) C dX6_append_123 (by decide) (fun c_34 => ?_) (fun c_34 => ?_)
                · skip
                  refine z_iload C dX6_append_139 0 rfl ?_
                  refine z_if_eq (tgt := 148) C dX6_append_141 (by decide) (fun c_35 => absurd c_35 (by decide)) (fun c_35 => ?_)
                  refine z_iconst (v := 4) C dX6_append_144 (by decide) ?_
                  refine z_goto (tgt := 149) C dX6_append_145 (by decide) ?_
                  refine z_iload_n C dX6_append_149 rfl 5 rfl ?_
                  refine z_iload C dX6_append_150 1 rfl ?_
                  refine z_callVv (n := 3) (isC := [0, 1, 2, 3, 4, 5, 6]) (isR := []) (isP := [0, 1, 2, 3, 4, 5, 6]) (As := [.int 4, .int bq, .int (Mbs - bq)]) (rest := []) (wr := []) (ws2 := [(M, .inr (5, [.int 0, .int Msz, .int ((f_X6_putFragment MB_ MU Mal_ 4 bq (Mbs - bq)).2), .ref ab, .int Mbs, .ref au, .int Mpl, .int Mbg, .int Mlo, .int Mhs, .int Mhf, .ref ah, .int Mhp, .int Mrs, .int Mrf, .ref ar, .int Mto, .int Mtb, .ref aw, .ref ay, .int Mfr, .int Mln, .int Mhb_])), (ab, .inl (g.2.2.1, 4096, .inl ((f_X6_putFragment MB_ MU Mal_ 4 bq (Mbs - bq)).1))), (au, .inl (g.2.2.1, 400, .inl MU)), (ah, .inl (g.2.2.1, 4096, .inl MH)), (ar, .inl (g.2.2.1, 4096, .inl MR)), (aw, .inl (g.2.2.1, 100, .inl MW)), (ay, .inl (g.2.2.1, 100, .inl MY))]) C dX6_append_152 (c_X6_putFragment (zl X) g M ab au ah ar aw ay MB_ MU MH MR MW MY 0 Msz Mal_ Mbs Mpl Mbg Mlo Mhs Mhf Mhp Mrs Mrf Mto Mtb Mfr Mln Mhb_ 4 bq (Mbs - bq) (zapp_seg_af hz hu hp hb c_3 c_4 c_5) (zapp_room_af hz hp hq c_3 c_4 c_5)) gX6_append_X6_putFragment rfl ⟨rfl, rfl⟩ (by decide +kernel) (by decide) (by decide) rfl rfl rfl rfl (Nat.le_of_ble_eq_true rfl) rfl rfl ⟨rfl, rfl, rfl⟩ (by decide) rfl ?_
                  generalize hT36 : (f_X6_putFragment MB_ MU Mal_ 4 bq (Mbs - bq)) = T36
                  obtain ⟨MBq36, Malq36⟩ := T36
                  refine z_aload_n C dX6_append_155 rfl 4 rfl ?_
                  refine z_iconst (v := 1) C dX6_append_156 (by decide) ?_
                  refine z_put (ci := 5) (v := .int 1) (ty := .boolean) (Cn := RX6) (T := TX6) (N := 23) (ws' := [(M, .inr (5, [.int 0, .int Msz, .int Malq36, .ref ab, .int Mbs, .ref au, .int Mpl, .int Mbg, .int Mlo, .int Mhs, .int Mhf, .ref ah, .int Mhp, .int Mrs, .int Mrf, .ref ar, .int Mto, .int Mtb, .ref aw, .ref ay, .int Mfr, .int Mln, .int 1])), (ab, .inl (g.2.2.1, 4096, .inl MBq36)), (au, .inl (g.2.2.1, 400, .inl MU)), (ah, .inl (g.2.2.1, 4096, .inl MH)), (ar, .inl (g.2.2.1, 4096, .inl MR)), (aw, .inl (g.2.2.1, 100, .inl MW)), (ay, .inl (g.2.2.1, 100, .inl MY))]) C dX6_append_157 (fun w h => List.mem_cons_of_mem _ (List.mem_append_right _ h)) tyX6 tyX6_ok nmX6 0 rfl rfl 22 (by decide) (List.mem_of_getElem? (i := 5) rfl) rfl rfl (by decide +kernel) rfl rfl (Nat.le_of_ble_eq_true rfl) rfl ?_
                  refine z_iload_n C dX6_append_160 rfl 5 rfl ?_
                  refine z_iload C dX6_append_161 1 rfl ?_
                  refine z_iadd C dX6_append_163 ?_
                  refine z_istore_n (lv' := [(1, .int (bq + (Mbs - bq))), (6, .int 1), (5, .int (Mbs - bq)), (4, .int (Mbs - bq)), (3, .int (Msz - (zMod Mal_ Msz))), (0, .ref M), (2, .int mo)]) C dX6_append_164 rfl (by decide) rfl ?_
                  refine z_iload C dX6_append_165 1 rfl ?_
                  refine z_if_ne (tgt := 174) C dX6_append_167 (by decide) (fun c_37 => ?_) (fun c_37 => absurd c_37 (by decide))
                  refine z_iconst (v := 0) C dX6_append_174 (by decide) ?_
                  refine z_istore_n (lv' := [(2, .int 0), (1, .int (bq + (Mbs - bq))), (6, .int 1), (5, .int (Mbs - bq)), (4, .int (Mbs - bq)), (3, .int (Msz - (zMod Mal_ Msz))), (0, .ref M)]) C dX6_append_175 rfl (by decide) rfl ?_
                  refine z_goto (tgt := 22) C dX6_append_176 (by decide) ?_
                  exact z_lv [6, 1, 0] rfl (ih (bq + (Mbs - bq)) 0 MBq36 Malq36 1 (zap_e hp c_3) (zapp_q0_af hz hp hq c_3 c_4 c_5 hT36) (zapp_b_af hz hu hp hb c_3 c_4 c_5) (by rw [← hv]; simp only [lp_X6_append, if_neg c_3, if_pos c_4, if_neg c_5, if_pos c_30, if_neg c_34, hT36]))
                · skip
                  refine z_iload C dX6_append_126 0 rfl ?_
                  refine z_if_eq (tgt := 135) C dX6_append_128 (by decide) (fun c_38 => absurd c_38 (by decide)) (fun c_38 => ?_)
                  refine z_iconst (v := 1) C dX6_append_131 (by decide) ?_
                  refine z_goto (tgt := 149) C dX6_append_132 (by decide) ?_
                  refine z_iload_n C dX6_append_149 rfl 5 rfl ?_
                  refine z_iload C dX6_append_150 1 rfl ?_
                  refine z_callVv (n := 3) (isC := [0, 1, 2, 3, 4, 5, 6]) (isR := []) (isP := [0, 1, 2, 3, 4, 5, 6]) (As := [.int 1, .int bq, .int (Mbs - bq)]) (rest := []) (wr := []) (ws2 := [(M, .inr (5, [.int 0, .int Msz, .int ((f_X6_putFragment MB_ MU Mal_ 1 bq (Mbs - bq)).2), .ref ab, .int Mbs, .ref au, .int Mpl, .int Mbg, .int Mlo, .int Mhs, .int Mhf, .ref ah, .int Mhp, .int Mrs, .int Mrf, .ref ar, .int Mto, .int Mtb, .ref aw, .ref ay, .int Mfr, .int Mln, .int Mhb_])), (ab, .inl (g.2.2.1, 4096, .inl ((f_X6_putFragment MB_ MU Mal_ 1 bq (Mbs - bq)).1))), (au, .inl (g.2.2.1, 400, .inl MU)), (ah, .inl (g.2.2.1, 4096, .inl MH)), (ar, .inl (g.2.2.1, 4096, .inl MR)), (aw, .inl (g.2.2.1, 100, .inl MW)), (ay, .inl (g.2.2.1, 100, .inl MY))]) C dX6_append_152 (c_X6_putFragment (zl X) g M ab au ah ar aw ay MB_ MU MH MR MW MY 0 Msz Mal_ Mbs Mpl Mbg Mlo Mhs Mhf Mhp Mrs Mrf Mto Mtb Mfr Mln Mhb_ 1 bq (Mbs - bq) (zapp_seg_af hz hu hp hb c_3 c_4 c_5) (zapp_room_af hz hp hq c_3 c_4 c_5)) gX6_append_X6_putFragment rfl ⟨rfl, rfl⟩ (by decide +kernel) (by decide) (by decide) rfl rfl rfl rfl (Nat.le_of_ble_eq_true rfl) rfl rfl ⟨rfl, rfl, rfl⟩ (by decide) rfl ?_
                  generalize hT39 : (f_X6_putFragment MB_ MU Mal_ 1 bq (Mbs - bq)) = T39
                  obtain ⟨MBq39, Malq39⟩ := T39
                  refine z_aload_n C dX6_append_155 rfl 4 rfl ?_
                  refine z_iconst (v := 1) C dX6_append_156 (by decide) ?_
                  refine z_put (ci := 5) (v := .int 1) (ty := .boolean) (Cn := RX6) (T := TX6) (N := 23) (ws' := [(M, .inr (5, [.int 0, .int Msz, .int Malq39, .ref ab, .int Mbs, .ref au, .int Mpl, .int Mbg, .int Mlo, .int Mhs, .int Mhf, .ref ah, .int Mhp, .int Mrs, .int Mrf, .ref ar, .int Mto, .int Mtb, .ref aw, .ref ay, .int Mfr, .int Mln, .int 1])), (ab, .inl (g.2.2.1, 4096, .inl MBq39)), (au, .inl (g.2.2.1, 400, .inl MU)), (ah, .inl (g.2.2.1, 4096, .inl MH)), (ar, .inl (g.2.2.1, 4096, .inl MR)), (aw, .inl (g.2.2.1, 100, .inl MW)), (ay, .inl (g.2.2.1, 100, .inl MY))]) C dX6_append_157 (fun w h => List.mem_cons_of_mem _ (List.mem_append_right _ h)) tyX6 tyX6_ok nmX6 0 rfl rfl 22 (by decide) (List.mem_of_getElem? (i := 5) rfl) rfl rfl (by decide +kernel) rfl rfl (Nat.le_of_ble_eq_true rfl) rfl ?_
                  refine z_iload_n C dX6_append_160 rfl 5 rfl ?_
                  refine z_iload C dX6_append_161 1 rfl ?_
                  refine z_iadd C dX6_append_163 ?_
                  refine z_istore_n (lv' := [(1, .int (bq + (Mbs - bq))), (6, .int 1), (5, .int (Mbs - bq)), (4, .int (Mbs - bq)), (3, .int (Msz - (zMod Mal_ Msz))), (0, .ref M), (2, .int mo)]) C dX6_append_164 rfl (by decide) rfl ?_
                  refine z_iload C dX6_append_165 1 rfl ?_
                  refine z_if_ne (tgt := 174) C dX6_append_167 (by decide) (fun c_40 => ?_) (fun c_40 => absurd c_40 (by decide))
                  refine z_iconst (v := 0) C dX6_append_174 (by decide) ?_
                  refine z_istore_n (lv' := [(2, .int 0), (1, .int (bq + (Mbs - bq))), (6, .int 1), (5, .int (Mbs - bq)), (4, .int (Mbs - bq)), (3, .int (Msz - (zMod Mal_ Msz))), (0, .ref M)]) C dX6_append_175 rfl (by decide) rfl ?_
                  refine z_goto (tgt := 22) C dX6_append_176 (by decide) ?_
                  exact z_lv [6, 1, 0] rfl (ih (bq + (Mbs - bq)) 0 MBq39 Malq39 1 (zap_e hp c_3) (zapp_q0_af hz hp hq c_3 c_4 c_5 hT39) (zapp_b_af hz hu hp hb c_3 c_4 c_5) (by rw [← hv]; simp only [lp_X6_append, if_neg c_3, if_pos c_4, if_neg c_5, if_pos c_30, if_pos c_34, hT39]))
          · skip
            refine z_iconst (v := 0) C dX6_append_47 (by decide) ?_
            refine z_istore (lv' := [(4, .int 0), (3, .int (Msz - (zMod Mal_ Msz))), (0, .ref M), (1, .int bq), (2, .int mo)]) C dX6_append_48 (by decide) rfl ?_
            have loopp : ∀ (rp ip : Nat), ip + rp = ((Msz - (zMod Mal_ Msz))).toNatClampNeg → ∀ (MB_p : Nat → Int32) (Mal_p : Int32), lpp_X6_append (MB_, Mal_) ip = (MB_p, Mal_p) → Mal_p = Mal_ + nI ip → zV X g 7 0 0 50 [(0, .ref M), (1, .int bq), (2, .int mo), (3, .int (Msz - (zMod Mal_ Msz))), (4, .int (nI ip))] [] [(M, .inr (5, [.int 0, .int Msz, .int Mal_p, .ref ab, .int Mbs, .ref au, .int Mpl, .int Mbg, .int Mlo, .int Mhs, .int Mhf, .ref ah, .int Mhp, .int Mrs, .int Mrf, .ref ar, .int Mto, .int Mtb, .ref aw, .ref ay, .int Mfr, .int Mln, .int Mhb_])), (ab, .inl (g.2.2.1, 4096, .inl MB_p)), (au, .inl (g.2.2.1, 400, .inl MU)), (ah, .inl (g.2.2.1, 4096, .inl MH)), (ar, .inl (g.2.2.1, 4096, .inl MR)), (aw, .inl (g.2.2.1, 100, .inl MW)), (ay, .inl (g.2.2.1, 100, .inl MY))] := by
              intro rp
              induction rp with
              | zero =>
                intro ip hip MB_p Mal_p hvp hm_p
                have hip : ip = ((Msz - (zMod Mal_ Msz))).toNatClampNeg := hip
                refine z_iload C dX6_append_50 4 rfl ?_
                refine z_iload_n C dX6_append_52 rfl 3 rfl ?_
                refine z_icmp_ge (tgt := 67) C dX6_append_53 (by decide) (fun c_41 => ?_) (fun c_41 => absurd (zfor_out hip) c_41)
                refine z_aload_n C dX6_append_67 rfl 0 rfl ?_
                refine z_get (ci := 5) (v := .int Msz) (Cn := RX6) (T := TX6) (N := 23) C dX6_append_68 (fun w h => List.mem_cons_of_mem _ (List.mem_append_right _ h)) 0 rfl rfl 1 (by decide) (List.mem_of_getElem? (i := 2) rfl) rfl rfl ?_
                refine z_istore_n (lv' := [(3, .int Msz), (0, .ref M), (1, .int bq), (2, .int mo), (4, .int (nI ip))]) C dX6_append_71 rfl (by decide) rfl ?_
                refine z_aload_n C dX6_append_72 rfl 1 rfl ?_
                refine z_get (ci := 5) (v := .int Mbs) (Cn := RX6) (T := TX6) (N := 23) C dX6_append_73 (fun w h => List.mem_cons_of_mem _ (List.mem_append_right _ h)) 0 rfl rfl 4 (by decide) (List.mem_of_getElem? (i := 4) rfl) rfl rfl ?_
                refine z_iload_n C dX6_append_76 rfl 2 rfl ?_
                refine z_isub C dX6_append_77 ?_
                refine z_istore (lv' := [(4, .int (Mbs - bq)), (3, .int Msz), (0, .ref M), (1, .int bq), (2, .int mo)]) C dX6_append_78 (by decide) rfl ?_
                refine z_iload C dX6_append_80 0 rfl ?_
                refine z_iload_n C dX6_append_82 rfl 1 rfl ?_
                refine z_bipush (v := 7) C dX6_append_83 (by decide) ?_
                refine z_isub C dX6_append_85 ?_
                refine z_icmp_ge (tgt := 94) C dX6_append_86 (by decide) (fun c_42 => ?_) (fun c_42 => ?_)
                · skip
                  refine z_iload_n C dX6_append_94 rfl 1 rfl ?_
                  refine z_bipush (v := 7) C dX6_append_95 (by decide) ?_
                  refine z_isub C dX6_append_97 ?_
                  refine z_istore (lv' := [(5, .int (Msz - 7)), (4, .int (Mbs - bq)), (3, .int Msz), (0, .ref M), (1, .int bq), (2, .int mo)]) C dX6_append_98 (by decide) rfl ?_
                  refine z_iload C dX6_append_100 0 rfl ?_
                  refine z_iload C dX6_append_102 1 rfl ?_
                  refine z_icmp_ne (tgt := 111) C dX6_append_104 (by decide) (fun c_43 => ?_) (fun c_43 => ?_)
                  · skip
                    refine z_iconst (v := 0) C dX6_append_111 (by decide) ?_
                    refine z_istore (lv' := [(6, .int 0), (5, .int (Msz - 7)), (4, .int (Mbs - bq)), (3, .int Msz), (0, .ref M), (1, .int bq), (2, .int mo)]) C dX6_append_112 (by decide) rfl ?_
                    refine z_aload_n C dX6_append_114 rfl 4 rfl ?_
                    refine z_iload_n C dX6_append_115 rfl 5 rfl ?_
                    refine z_if_ne (tgt := 139) C dX6_append_116 (by decide) (fun c_44 => ?_) (fun c_44 => ?_)
                    · skip
                      refine z_iload C dX6_append_139 0 rfl ?_
                      refine z_if_eq (tgt := 148) C dX6_append_141 (by decide) (fun c_45 => ?_) (fun c_45 => absurd (by decide) c_45)
                      refine z_iconst (v := 3) C dX6_append_148 (by decide) ?_
                      refine z_iload_n C dX6_append_149 rfl 5 rfl ?_
                      refine z_iload C dX6_append_150 1 rfl ?_
                      refine z_callVv (n := 3) (isC := [0, 1, 2, 3, 4, 5, 6]) (isR := []) (isP := [0, 1, 2, 3, 4, 5, 6]) (As := [.int 3, .int bq, .int (Msz - 7)]) (rest := []) (wr := []) (ws2 := [(M, .inr (5, [.int 0, .int Msz, .int ((f_X6_putFragment MB_p MU Mal_p 3 bq (Msz - 7)).2), .ref ab, .int Mbs, .ref au, .int Mpl, .int Mbg, .int Mlo, .int Mhs, .int Mhf, .ref ah, .int Mhp, .int Mrs, .int Mrf, .ref ar, .int Mto, .int Mtb, .ref aw, .ref ay, .int Mfr, .int Mln, .int Mhb_])), (ab, .inl (g.2.2.1, 4096, .inl ((f_X6_putFragment MB_p MU Mal_p 3 bq (Msz - 7)).1))), (au, .inl (g.2.2.1, 400, .inl MU)), (ah, .inl (g.2.2.1, 4096, .inl MH)), (ar, .inl (g.2.2.1, 4096, .inl MR)), (aw, .inl (g.2.2.1, 100, .inl MW)), (ay, .inl (g.2.2.1, 100, .inl MY))]) C dX6_append_152 (c_X6_putFragment (zl X) g M ab au ah ar aw ay MB_p MU MH MR MW MY 0 Msz Mal_p Mbs Mpl Mbg Mlo Mhs Mhf Mhp Mrs Mrf Mto Mtb Mfr Mln Mhb_ 3 bq (Msz - 7) (zapp_seg_bt hz hu hp hb c_3 c_4 c_42) (zapp_room_bt hz hp hq c_3 c_4 c_42 hm_p hip)) gX6_append_X6_putFragment rfl ⟨rfl, rfl⟩ (by decide +kernel) (by decide) (by decide) rfl rfl rfl rfl (Nat.le_of_ble_eq_true rfl) rfl rfl ⟨rfl, rfl, rfl⟩ (by decide) rfl ?_
                      generalize hT46 : (f_X6_putFragment MB_p MU Mal_p 3 bq (Msz - 7)) = T46
                      obtain ⟨MBq46, Malq46⟩ := T46
                      refine z_aload_n C dX6_append_155 rfl 4 rfl ?_
                      refine z_iconst (v := 1) C dX6_append_156 (by decide) ?_
                      refine z_put (ci := 5) (v := .int 1) (ty := .boolean) (Cn := RX6) (T := TX6) (N := 23) (ws' := [(M, .inr (5, [.int 0, .int Msz, .int Malq46, .ref ab, .int Mbs, .ref au, .int Mpl, .int Mbg, .int Mlo, .int Mhs, .int Mhf, .ref ah, .int Mhp, .int Mrs, .int Mrf, .ref ar, .int Mto, .int Mtb, .ref aw, .ref ay, .int Mfr, .int Mln, .int 1])), (ab, .inl (g.2.2.1, 4096, .inl MBq46)), (au, .inl (g.2.2.1, 400, .inl MU)), (ah, .inl (g.2.2.1, 4096, .inl MH)), (ar, .inl (g.2.2.1, 4096, .inl MR)), (aw, .inl (g.2.2.1, 100, .inl MW)), (ay, .inl (g.2.2.1, 100, .inl MY))]) C dX6_append_157 (fun w h => List.mem_cons_of_mem _ (List.mem_append_right _ h)) tyX6 tyX6_ok nmX6 0 rfl rfl 22 (by decide) (List.mem_of_getElem? (i := 5) rfl) rfl rfl (by decide +kernel) rfl rfl (Nat.le_of_ble_eq_true rfl) rfl ?_
                      refine z_iload_n C dX6_append_160 rfl 5 rfl ?_
                      refine z_iload C dX6_append_161 1 rfl ?_
                      refine z_iadd C dX6_append_163 ?_
                      refine z_istore_n (lv' := [(1, .int (bq + (Msz - 7))), (6, .int 0), (5, .int (Msz - 7)), (4, .int (Mbs - bq)), (3, .int Msz), (0, .ref M), (2, .int mo)]) C dX6_append_164 rfl (by decide) rfl ?_
                      refine z_iload C dX6_append_165 1 rfl ?_
                      refine z_if_ne (tgt := 174) C dX6_append_167 (by decide) (fun c_47 => absurd c_47 (by decide)) (fun c_47 => ?_)
                      refine z_iconst (v := 1) C dX6_append_170 (by decide) ?_
                      refine z_goto (tgt := 175) C dX6_append_171 (by decide) ?_
                      refine z_istore_n (lv' := [(2, .int 1), (1, .int (bq + (Msz - 7))), (6, .int 0), (5, .int (Msz - 7)), (4, .int (Mbs - bq)), (3, .int Msz), (0, .ref M)]) C dX6_append_175 rfl (by decide) rfl ?_
                      refine z_goto (tgt := 22) C dX6_append_176 (by decide) ?_
                      exact z_lv [6, 1, 0] rfl (ih (bq + (Msz - 7)) 1 MBq46 Malq46 1 (zapp_p1_bt hz hp hq c_3 c_4 c_42 c_43 hm_p hip hT46) (zapp_q1_bt hz hp hq c_3 c_4 c_42 c_43 hm_p hip hT46) (zapp_b_bt hz hu hp hb c_3 c_4 c_42) (by rw [← hv]; simp only [lp_X6_append, if_neg c_3, if_neg c_4, ← hip, hvp, if_pos c_42, if_neg c_43, if_neg c_44, hT46]))
                    · skip
                      refine z_aload_n C dX6_append_119 rfl 4 rfl ?_
                      refine z_get (ci := 5) (v := .int Mhb_) (Cn := RX6) (T := TX6) (N := 23) C dX6_append_120 (fun w h => List.mem_cons_of_mem _ (List.mem_append_right _ h)) 0 rfl rfl 22 (by decide) (List.mem_of_getElem? (i := 5) rfl) rfl rfl ?_
                      refine z_if_ne (tgt := 139) C dX6_append_123 (by decide) (fun c_48 => ?_) (fun c_48 => ?_)
                      · skip
                        refine z_iload C dX6_append_139 0 rfl ?_
                        refine z_if_eq (tgt := 148) C dX6_append_141 (by decide) (fun c_49 => ?_) (fun c_49 => absurd (by decide) c_49)
                        refine z_iconst (v := 3) C dX6_append_148 (by decide) ?_
                        refine z_iload_n C dX6_append_149 rfl 5 rfl ?_
                        refine z_iload C dX6_append_150 1 rfl ?_
                        refine z_callVv (n := 3) (isC := [0, 1, 2, 3, 4, 5, 6]) (isR := []) (isP := [0, 1, 2, 3, 4, 5, 6]) (As := [.int 3, .int bq, .int (Msz - 7)]) (rest := []) (wr := []) (ws2 := [(M, .inr (5, [.int 0, .int Msz, .int ((f_X6_putFragment MB_p MU Mal_p 3 bq (Msz - 7)).2), .ref ab, .int Mbs, .ref au, .int Mpl, .int Mbg, .int Mlo, .int Mhs, .int Mhf, .ref ah, .int Mhp, .int Mrs, .int Mrf, .ref ar, .int Mto, .int Mtb, .ref aw, .ref ay, .int Mfr, .int Mln, .int Mhb_])), (ab, .inl (g.2.2.1, 4096, .inl ((f_X6_putFragment MB_p MU Mal_p 3 bq (Msz - 7)).1))), (au, .inl (g.2.2.1, 400, .inl MU)), (ah, .inl (g.2.2.1, 4096, .inl MH)), (ar, .inl (g.2.2.1, 4096, .inl MR)), (aw, .inl (g.2.2.1, 100, .inl MW)), (ay, .inl (g.2.2.1, 100, .inl MY))]) C dX6_append_152 (c_X6_putFragment (zl X) g M ab au ah ar aw ay MB_p MU MH MR MW MY 0 Msz Mal_p Mbs Mpl Mbg Mlo Mhs Mhf Mhp Mrs Mrf Mto Mtb Mfr Mln Mhb_ 3 bq (Msz - 7) (zapp_seg_bt hz hu hp hb c_3 c_4 c_42) (zapp_room_bt hz hp hq c_3 c_4 c_42 hm_p hip)) gX6_append_X6_putFragment rfl ⟨rfl, rfl⟩ (by decide +kernel) (by decide) (by decide) rfl rfl rfl rfl (Nat.le_of_ble_eq_true rfl) rfl rfl ⟨rfl, rfl, rfl⟩ (by decide) rfl ?_
                        generalize hT50 : (f_X6_putFragment MB_p MU Mal_p 3 bq (Msz - 7)) = T50
                        obtain ⟨MBq50, Malq50⟩ := T50
                        refine z_aload_n C dX6_append_155 rfl 4 rfl ?_
                        refine z_iconst (v := 1) C dX6_append_156 (by decide) ?_
                        refine z_put (ci := 5) (v := .int 1) (ty := .boolean) (Cn := RX6) (T := TX6) (N := 23) (ws' := [(M, .inr (5, [.int 0, .int Msz, .int Malq50, .ref ab, .int Mbs, .ref au, .int Mpl, .int Mbg, .int Mlo, .int Mhs, .int Mhf, .ref ah, .int Mhp, .int Mrs, .int Mrf, .ref ar, .int Mto, .int Mtb, .ref aw, .ref ay, .int Mfr, .int Mln, .int 1])), (ab, .inl (g.2.2.1, 4096, .inl MBq50)), (au, .inl (g.2.2.1, 400, .inl MU)), (ah, .inl (g.2.2.1, 4096, .inl MH)), (ar, .inl (g.2.2.1, 4096, .inl MR)), (aw, .inl (g.2.2.1, 100, .inl MW)), (ay, .inl (g.2.2.1, 100, .inl MY))]) C dX6_append_157 (fun w h => List.mem_cons_of_mem _ (List.mem_append_right _ h)) tyX6 tyX6_ok nmX6 0 rfl rfl 22 (by decide) (List.mem_of_getElem? (i := 5) rfl) rfl rfl (by decide +kernel) rfl rfl (Nat.le_of_ble_eq_true rfl) rfl ?_
                        refine z_iload_n C dX6_append_160 rfl 5 rfl ?_
                        refine z_iload C dX6_append_161 1 rfl ?_
                        refine z_iadd C dX6_append_163 ?_
                        refine z_istore_n (lv' := [(1, .int (bq + (Msz - 7))), (6, .int 0), (5, .int (Msz - 7)), (4, .int (Mbs - bq)), (3, .int Msz), (0, .ref M), (2, .int mo)]) C dX6_append_164 rfl (by decide) rfl ?_
                        refine z_iload C dX6_append_165 1 rfl ?_
                        refine z_if_ne (tgt := 174) C dX6_append_167 (by decide) (fun c_51 => absurd c_51 (by decide)) (fun c_51 => ?_)
                        refine z_iconst (v := 1) C dX6_append_170 (by decide) ?_
                        refine z_goto (tgt := 175) C dX6_append_171 (by decide) ?_
                        refine z_istore_n (lv' := [(2, .int 1), (1, .int (bq + (Msz - 7))), (6, .int 0), (5, .int (Msz - 7)), (4, .int (Mbs - bq)), (3, .int Msz), (0, .ref M)]) C dX6_append_175 rfl (by decide) rfl ?_
                        refine z_goto (tgt := 22) C dX6_append_176 (by decide) ?_
                        exact z_lv [6, 1, 0] rfl (ih (bq + (Msz - 7)) 1 MBq50 Malq50 1 (zapp_p1_bt hz hp hq c_3 c_4 c_42 c_43 hm_p hip hT50) (zapp_q1_bt hz hp hq c_3 c_4 c_42 c_43 hm_p hip hT50) (zapp_b_bt hz hu hp hb c_3 c_4 c_42) (by rw [← hv]; simp only [lp_X6_append, if_neg c_3, if_neg c_4, ← hip, hvp, if_pos c_42, if_neg c_43, if_pos c_44, if_neg c_48, hT50]))
                      · skip
                        refine z_iload C dX6_append_126 0 rfl ?_
                        refine z_if_eq (tgt := 135) C dX6_append_128 (by decide) (fun c_52 => ?_) (fun c_52 => absurd (by decide) c_52)
                        refine z_iconst (v := 2) C dX6_append_135 (by decide) ?_
                        refine z_goto (tgt := 149) C dX6_append_136 (by decide) ?_
                        refine z_iload_n C dX6_append_149 rfl 5 rfl ?_
                        refine z_iload C dX6_append_150 1 rfl ?_
                        refine z_callVv (n := 3) (isC := [0, 1, 2, 3, 4, 5, 6]) (isR := []) (isP := [0, 1, 2, 3, 4, 5, 6]) (As := [.int 2, .int bq, .int (Msz - 7)]) (rest := []) (wr := []) (ws2 := [(M, .inr (5, [.int 0, .int Msz, .int ((f_X6_putFragment MB_p MU Mal_p 2 bq (Msz - 7)).2), .ref ab, .int Mbs, .ref au, .int Mpl, .int Mbg, .int Mlo, .int Mhs, .int Mhf, .ref ah, .int Mhp, .int Mrs, .int Mrf, .ref ar, .int Mto, .int Mtb, .ref aw, .ref ay, .int Mfr, .int Mln, .int Mhb_])), (ab, .inl (g.2.2.1, 4096, .inl ((f_X6_putFragment MB_p MU Mal_p 2 bq (Msz - 7)).1))), (au, .inl (g.2.2.1, 400, .inl MU)), (ah, .inl (g.2.2.1, 4096, .inl MH)), (ar, .inl (g.2.2.1, 4096, .inl MR)), (aw, .inl (g.2.2.1, 100, .inl MW)), (ay, .inl (g.2.2.1, 100, .inl MY))]) C dX6_append_152 (c_X6_putFragment (zl X) g M ab au ah ar aw ay MB_p MU MH MR MW MY 0 Msz Mal_p Mbs Mpl Mbg Mlo Mhs Mhf Mhp Mrs Mrf Mto Mtb Mfr Mln Mhb_ 2 bq (Msz - 7) (zapp_seg_bt hz hu hp hb c_3 c_4 c_42) (zapp_room_bt hz hp hq c_3 c_4 c_42 hm_p hip)) gX6_append_X6_putFragment rfl ⟨rfl, rfl⟩ (by decide +kernel) (by decide) (by decide) rfl rfl rfl rfl (Nat.le_of_ble_eq_true rfl) rfl rfl ⟨rfl, rfl, rfl⟩ (by decide) rfl ?_
                        generalize hT53 : (f_X6_putFragment MB_p MU Mal_p 2 bq (Msz - 7)) = T53
                        obtain ⟨MBq53, Malq53⟩ := T53
                        refine z_aload_n C dX6_append_155 rfl 4 rfl ?_
                        refine z_iconst (v := 1) C dX6_append_156 (by decide) ?_
                        refine z_put (ci := 5) (v := .int 1) (ty := .boolean) (Cn := RX6) (T := TX6) (N := 23) (ws' := [(M, .inr (5, [.int 0, .int Msz, .int Malq53, .ref ab, .int Mbs, .ref au, .int Mpl, .int Mbg, .int Mlo, .int Mhs, .int Mhf, .ref ah, .int Mhp, .int Mrs, .int Mrf, .ref ar, .int Mto, .int Mtb, .ref aw, .ref ay, .int Mfr, .int Mln, .int 1])), (ab, .inl (g.2.2.1, 4096, .inl MBq53)), (au, .inl (g.2.2.1, 400, .inl MU)), (ah, .inl (g.2.2.1, 4096, .inl MH)), (ar, .inl (g.2.2.1, 4096, .inl MR)), (aw, .inl (g.2.2.1, 100, .inl MW)), (ay, .inl (g.2.2.1, 100, .inl MY))]) C dX6_append_157 (fun w h => List.mem_cons_of_mem _ (List.mem_append_right _ h)) tyX6 tyX6_ok nmX6 0 rfl rfl 22 (by decide) (List.mem_of_getElem? (i := 5) rfl) rfl rfl (by decide +kernel) rfl rfl (Nat.le_of_ble_eq_true rfl) rfl ?_
                        refine z_iload_n C dX6_append_160 rfl 5 rfl ?_
                        refine z_iload C dX6_append_161 1 rfl ?_
                        refine z_iadd C dX6_append_163 ?_
                        refine z_istore_n (lv' := [(1, .int (bq + (Msz - 7))), (6, .int 0), (5, .int (Msz - 7)), (4, .int (Mbs - bq)), (3, .int Msz), (0, .ref M), (2, .int mo)]) C dX6_append_164 rfl (by decide) rfl ?_
                        refine z_iload C dX6_append_165 1 rfl ?_
                        refine z_if_ne (tgt := 174) C dX6_append_167 (by decide) (fun c_54 => absurd c_54 (by decide)) (fun c_54 => ?_)
                        refine z_iconst (v := 1) C dX6_append_170 (by decide) ?_
                        refine z_goto (tgt := 175) C dX6_append_171 (by decide) ?_
                        refine z_istore_n (lv' := [(2, .int 1), (1, .int (bq + (Msz - 7))), (6, .int 0), (5, .int (Msz - 7)), (4, .int (Mbs - bq)), (3, .int Msz), (0, .ref M)]) C dX6_append_175 rfl (by decide) rfl ?_
                        refine z_goto (tgt := 22) C dX6_append_176 (by decide) ?_
                        exact z_lv [6, 1, 0] rfl (ih (bq + (Msz - 7)) 1 MBq53 Malq53 1 (zapp_p1_bt hz hp hq c_3 c_4 c_42 c_43 hm_p hip hT53) (zapp_q1_bt hz hp hq c_3 c_4 c_42 c_43 hm_p hip hT53) (zapp_b_bt hz hu hp hb c_3 c_4 c_42) (by rw [← hv]; simp only [lp_X6_append, if_neg c_3, if_neg c_4, ← hip, hvp, if_pos c_42, if_neg c_43, if_pos c_44, if_pos c_48, hT53]))
                  · skip
                    refine z_iconst (v := 1) C dX6_append_107 (by decide) ?_
                    refine z_goto (tgt := 112) C dX6_append_108 (by decide) ?_
                    refine z_istore (lv' := [(6, .int 1), (5, .int (Msz - 7)), (4, .int (Mbs - bq)), (3, .int Msz), (0, .ref M), (1, .int bq), (2, .int mo)]) C dX6_append_112 (by decide) rfl ?_
                    refine z_aload_n C dX6_append_114 rfl 4 rfl ?_
                    refine z_iload_n C dX6_append_115 rfl 5 rfl ?_
                    refine z_if_ne (tgt := 139) C dX6_append_116 (by decide) (fun c_55 => ?_) (fun c_55 => ?_)
                    · skip
                      refine z_iload C dX6_append_139 0 rfl ?_
                      refine z_if_eq (tgt := 148) C dX6_append_141 (by decide) (fun c_56 => absurd c_56 (by decide)) (fun c_56 => ?_)
                      refine z_iconst (v := 4) C dX6_append_144 (by decide) ?_
                      refine z_goto (tgt := 149) C dX6_append_145 (by decide) ?_
                      refine z_iload_n C dX6_append_149 rfl 5 rfl ?_
                      refine z_iload C dX6_append_150 1 rfl ?_
                      refine z_callVv (n := 3) (isC := [0, 1, 2, 3, 4, 5, 6]) (isR := []) (isP := [0, 1, 2, 3, 4, 5, 6]) (As := [.int 4, .int bq, .int (Msz - 7)]) (rest := []) (wr := []) (ws2 := [(M, .inr (5, [.int 0, .int Msz, .int ((f_X6_putFragment MB_p MU Mal_p 4 bq (Msz - 7)).2), .ref ab, .int Mbs, .ref au, .int Mpl, .int Mbg, .int Mlo, .int Mhs, .int Mhf, .ref ah, .int Mhp, .int Mrs, .int Mrf, .ref ar, .int Mto, .int Mtb, .ref aw, .ref ay, .int Mfr, .int Mln, .int Mhb_])), (ab, .inl (g.2.2.1, 4096, .inl ((f_X6_putFragment MB_p MU Mal_p 4 bq (Msz - 7)).1))), (au, .inl (g.2.2.1, 400, .inl MU)), (ah, .inl (g.2.2.1, 4096, .inl MH)), (ar, .inl (g.2.2.1, 4096, .inl MR)), (aw, .inl (g.2.2.1, 100, .inl MW)), (ay, .inl (g.2.2.1, 100, .inl MY))]) C dX6_append_152 (c_X6_putFragment (zl X) g M ab au ah ar aw ay MB_p MU MH MR MW MY 0 Msz Mal_p Mbs Mpl Mbg Mlo Mhs Mhf Mhp Mrs Mrf Mto Mtb Mfr Mln Mhb_ 4 bq (Msz - 7) (zapp_seg_bt hz hu hp hb c_3 c_4 c_42) (zapp_room_bt hz hp hq c_3 c_4 c_42 hm_p hip)) gX6_append_X6_putFragment rfl ⟨rfl, rfl⟩ (by decide +kernel) (by decide) (by decide) rfl rfl rfl rfl (Nat.le_of_ble_eq_true rfl) rfl rfl ⟨rfl, rfl, rfl⟩ (by decide) rfl ?_
                      generalize hT57 : (f_X6_putFragment MB_p MU Mal_p 4 bq (Msz - 7)) = T57
                      obtain ⟨MBq57, Malq57⟩ := T57
                      refine z_aload_n C dX6_append_155 rfl 4 rfl ?_
                      refine z_iconst (v := 1) C dX6_append_156 (by decide) ?_
                      refine z_put (ci := 5) (v := .int 1) (ty := .boolean) (Cn := RX6) (T := TX6) (N := 23) (ws' := [(M, .inr (5, [.int 0, .int Msz, .int Malq57, .ref ab, .int Mbs, .ref au, .int Mpl, .int Mbg, .int Mlo, .int Mhs, .int Mhf, .ref ah, .int Mhp, .int Mrs, .int Mrf, .ref ar, .int Mto, .int Mtb, .ref aw, .ref ay, .int Mfr, .int Mln, .int 1])), (ab, .inl (g.2.2.1, 4096, .inl MBq57)), (au, .inl (g.2.2.1, 400, .inl MU)), (ah, .inl (g.2.2.1, 4096, .inl MH)), (ar, .inl (g.2.2.1, 4096, .inl MR)), (aw, .inl (g.2.2.1, 100, .inl MW)), (ay, .inl (g.2.2.1, 100, .inl MY))]) C dX6_append_157 (fun w h => List.mem_cons_of_mem _ (List.mem_append_right _ h)) tyX6 tyX6_ok nmX6 0 rfl rfl 22 (by decide) (List.mem_of_getElem? (i := 5) rfl) rfl rfl (by decide +kernel) rfl rfl (Nat.le_of_ble_eq_true rfl) rfl ?_
                      refine z_iload_n C dX6_append_160 rfl 5 rfl ?_
                      refine z_iload C dX6_append_161 1 rfl ?_
                      refine z_iadd C dX6_append_163 ?_
                      refine z_istore_n (lv' := [(1, .int (bq + (Msz - 7))), (6, .int 1), (5, .int (Msz - 7)), (4, .int (Mbs - bq)), (3, .int Msz), (0, .ref M), (2, .int mo)]) C dX6_append_164 rfl (by decide) rfl ?_
                      refine z_iload C dX6_append_165 1 rfl ?_
                      refine z_if_ne (tgt := 174) C dX6_append_167 (by decide) (fun c_58 => ?_) (fun c_58 => absurd c_58 (by decide))
                      refine z_iconst (v := 0) C dX6_append_174 (by decide) ?_
                      refine z_istore_n (lv' := [(2, .int 0), (1, .int (bq + (Msz - 7))), (6, .int 1), (5, .int (Msz - 7)), (4, .int (Mbs - bq)), (3, .int Msz), (0, .ref M)]) C dX6_append_175 rfl (by decide) rfl ?_
                      refine z_goto (tgt := 22) C dX6_append_176 (by decide) ?_
                      exact z_lv [6, 1, 0] rfl (ih (bq + (Msz - 7)) 0 MBq57 Malq57 1 (zap_e hp c_3) (zapp_q0_bt hz hp hq c_3 c_4 c_42 hm_p hip hT57) (zapp_b_bt hz hu hp hb c_3 c_4 c_42) (by rw [← hv]; simp only [lp_X6_append, if_neg c_3, if_neg c_4, ← hip, hvp, if_pos c_42, if_pos c_43, if_neg c_55, hT57]))
                    · skip
                      refine z_aload_n C dX6_append_119 rfl 4 rfl ?_
                      refine z_get (ci := 5) (v := .int Mhb_) (Cn := RX6) (T := TX6) (N := 23) C dX6_append_120 (fun w h => List.mem_cons_of_mem _ (List.mem_append_right _ h)) 0 rfl rfl 22 (by decide) (List.mem_of_getElem? (i := 5) rfl) rfl rfl ?_
                      refine z_if_ne (tgt := 139) C dX6_append_123 (by decide) (fun c_59 => ?_) (fun c_59 => ?_)
                      · skip
                        refine z_iload C dX6_append_139 0 rfl ?_
                        refine z_if_eq (tgt := 148) C dX6_append_141 (by decide) (fun c_60 => absurd c_60 (by decide)) (fun c_60 => ?_)
                        refine z_iconst (v := 4) C dX6_append_144 (by decide) ?_
                        refine z_goto (tgt := 149) C dX6_append_145 (by decide) ?_
                        refine z_iload_n C dX6_append_149 rfl 5 rfl ?_
                        refine z_iload C dX6_append_150 1 rfl ?_
                        refine z_callVv (n := 3) (isC := [0, 1, 2, 3, 4, 5, 6]) (isR := []) (isP := [0, 1, 2, 3, 4, 5, 6]) (As := [.int 4, .int bq, .int (Msz - 7)]) (rest := []) (wr := []) (ws2 := [(M, .inr (5, [.int 0, .int Msz, .int ((f_X6_putFragment MB_p MU Mal_p 4 bq (Msz - 7)).2), .ref ab, .int Mbs, .ref au, .int Mpl, .int Mbg, .int Mlo, .int Mhs, .int Mhf, .ref ah, .int Mhp, .int Mrs, .int Mrf, .ref ar, .int Mto, .int Mtb, .ref aw, .ref ay, .int Mfr, .int Mln, .int Mhb_])), (ab, .inl (g.2.2.1, 4096, .inl ((f_X6_putFragment MB_p MU Mal_p 4 bq (Msz - 7)).1))), (au, .inl (g.2.2.1, 400, .inl MU)), (ah, .inl (g.2.2.1, 4096, .inl MH)), (ar, .inl (g.2.2.1, 4096, .inl MR)), (aw, .inl (g.2.2.1, 100, .inl MW)), (ay, .inl (g.2.2.1, 100, .inl MY))]) C dX6_append_152 (c_X6_putFragment (zl X) g M ab au ah ar aw ay MB_p MU MH MR MW MY 0 Msz Mal_p Mbs Mpl Mbg Mlo Mhs Mhf Mhp Mrs Mrf Mto Mtb Mfr Mln Mhb_ 4 bq (Msz - 7) (zapp_seg_bt hz hu hp hb c_3 c_4 c_42) (zapp_room_bt hz hp hq c_3 c_4 c_42 hm_p hip)) gX6_append_X6_putFragment rfl ⟨rfl, rfl⟩ (by decide +kernel) (by decide) (by decide) rfl rfl rfl rfl (Nat.le_of_ble_eq_true rfl) rfl rfl ⟨rfl, rfl, rfl⟩ (by decide) rfl ?_
                        generalize hT61 : (f_X6_putFragment MB_p MU Mal_p 4 bq (Msz - 7)) = T61
                        obtain ⟨MBq61, Malq61⟩ := T61
                        refine z_aload_n C dX6_append_155 rfl 4 rfl ?_
                        refine z_iconst (v := 1) C dX6_append_156 (by decide) ?_
                        refine z_put (ci := 5) (v := .int 1) (ty := .boolean) (Cn := RX6) (T := TX6) (N := 23) (ws' := [(M, .inr (5, [.int 0, .int Msz, .int Malq61, .ref ab, .int Mbs, .ref au, .int Mpl, .int Mbg, .int Mlo, .int Mhs, .int Mhf, .ref ah, .int Mhp, .int Mrs, .int Mrf, .ref ar, .int Mto, .int Mtb, .ref aw, .ref ay, .int Mfr, .int Mln, .int 1])), (ab, .inl (g.2.2.1, 4096, .inl MBq61)), (au, .inl (g.2.2.1, 400, .inl MU)), (ah, .inl (g.2.2.1, 4096, .inl MH)), (ar, .inl (g.2.2.1, 4096, .inl MR)), (aw, .inl (g.2.2.1, 100, .inl MW)), (ay, .inl (g.2.2.1, 100, .inl MY))]) C dX6_append_157 (fun w h => List.mem_cons_of_mem _ (List.mem_append_right _ h)) tyX6 tyX6_ok nmX6 0 rfl rfl 22 (by decide) (List.mem_of_getElem? (i := 5) rfl) rfl rfl (by decide +kernel) rfl rfl (Nat.le_of_ble_eq_true rfl) rfl ?_
                        refine z_iload_n C dX6_append_160 rfl 5 rfl ?_
                        refine z_iload C dX6_append_161 1 rfl ?_
                        refine z_iadd C dX6_append_163 ?_
                        refine z_istore_n (lv' := [(1, .int (bq + (Msz - 7))), (6, .int 1), (5, .int (Msz - 7)), (4, .int (Mbs - bq)), (3, .int Msz), (0, .ref M), (2, .int mo)]) C dX6_append_164 rfl (by decide) rfl ?_
                        refine z_iload C dX6_append_165 1 rfl ?_
                        refine z_if_ne (tgt := 174) C dX6_append_167 (by decide) (fun c_62 => ?_) (fun c_62 => absurd c_62 (by decide))
                        refine z_iconst (v := 0) C dX6_append_174 (by decide) ?_
                        refine z_istore_n (lv' := [(2, .int 0), (1, .int (bq + (Msz - 7))), (6, .int 1), (5, .int (Msz - 7)), (4, .int (Mbs - bq)), (3, .int Msz), (0, .ref M)]) C dX6_append_175 rfl (by decide) rfl ?_
                        refine z_goto (tgt := 22) C dX6_append_176 (by decide) ?_
                        exact z_lv [6, 1, 0] rfl (ih (bq + (Msz - 7)) 0 MBq61 Malq61 1 (zap_e hp c_3) (zapp_q0_bt hz hp hq c_3 c_4 c_42 hm_p hip hT61) (zapp_b_bt hz hu hp hb c_3 c_4 c_42) (by rw [← hv]; simp only [lp_X6_append, if_neg c_3, if_neg c_4, ← hip, hvp, if_pos c_42, if_pos c_43, if_pos c_55, if_neg c_59, hT61]))
                      · skip
                        refine z_iload C dX6_append_126 0 rfl ?_
                        refine z_if_eq (tgt := 135) C dX6_append_128 (by decide) (fun c_63 => absurd c_63 (by decide)) (fun c_63 => ?_)
                        refine z_iconst (v := 1) C dX6_append_131 (by decide) ?_
                        refine z_goto (tgt := 149) C dX6_append_132 (by decide) ?_
                        refine z_iload_n C dX6_append_149 rfl 5 rfl ?_
                        refine z_iload C dX6_append_150 1 rfl ?_
                        refine z_callVv (n := 3) (isC := [0, 1, 2, 3, 4, 5, 6]) (isR := []) (isP := [0, 1, 2, 3, 4, 5, 6]) (As := [.int 1, .int bq, .int (Msz - 7)]) (rest := []) (wr := []) (ws2 := [(M, .inr (5, [.int 0, .int Msz, .int ((f_X6_putFragment MB_p MU Mal_p 1 bq (Msz - 7)).2), .ref ab, .int Mbs, .ref au, .int Mpl, .int Mbg, .int Mlo, .int Mhs, .int Mhf, .ref ah, .int Mhp, .int Mrs, .int Mrf, .ref ar, .int Mto, .int Mtb, .ref aw, .ref ay, .int Mfr, .int Mln, .int Mhb_])), (ab, .inl (g.2.2.1, 4096, .inl ((f_X6_putFragment MB_p MU Mal_p 1 bq (Msz - 7)).1))), (au, .inl (g.2.2.1, 400, .inl MU)), (ah, .inl (g.2.2.1, 4096, .inl MH)), (ar, .inl (g.2.2.1, 4096, .inl MR)), (aw, .inl (g.2.2.1, 100, .inl MW)), (ay, .inl (g.2.2.1, 100, .inl MY))]) C dX6_append_152 (c_X6_putFragment (zl X) g M ab au ah ar aw ay MB_p MU MH MR MW MY 0 Msz Mal_p Mbs Mpl Mbg Mlo Mhs Mhf Mhp Mrs Mrf Mto Mtb Mfr Mln Mhb_ 1 bq (Msz - 7) (zapp_seg_bt hz hu hp hb c_3 c_4 c_42) (zapp_room_bt hz hp hq c_3 c_4 c_42 hm_p hip)) gX6_append_X6_putFragment rfl ⟨rfl, rfl⟩ (by decide +kernel) (by decide) (by decide) rfl rfl rfl rfl (Nat.le_of_ble_eq_true rfl) rfl rfl ⟨rfl, rfl, rfl⟩ (by decide) rfl ?_
                        generalize hT64 : (f_X6_putFragment MB_p MU Mal_p 1 bq (Msz - 7)) = T64
                        obtain ⟨MBq64, Malq64⟩ := T64
                        refine z_aload_n C dX6_append_155 rfl 4 rfl ?_
                        refine z_iconst (v := 1) C dX6_append_156 (by decide) ?_
                        refine z_put (ci := 5) (v := .int 1) (ty := .boolean) (Cn := RX6) (T := TX6) (N := 23) (ws' := [(M, .inr (5, [.int 0, .int Msz, .int Malq64, .ref ab, .int Mbs, .ref au, .int Mpl, .int Mbg, .int Mlo, .int Mhs, .int Mhf, .ref ah, .int Mhp, .int Mrs, .int Mrf, .ref ar, .int Mto, .int Mtb, .ref aw, .ref ay, .int Mfr, .int Mln, .int 1])), (ab, .inl (g.2.2.1, 4096, .inl MBq64)), (au, .inl (g.2.2.1, 400, .inl MU)), (ah, .inl (g.2.2.1, 4096, .inl MH)), (ar, .inl (g.2.2.1, 4096, .inl MR)), (aw, .inl (g.2.2.1, 100, .inl MW)), (ay, .inl (g.2.2.1, 100, .inl MY))]) C dX6_append_157 (fun w h => List.mem_cons_of_mem _ (List.mem_append_right _ h)) tyX6 tyX6_ok nmX6 0 rfl rfl 22 (by decide) (List.mem_of_getElem? (i := 5) rfl) rfl rfl (by decide +kernel) rfl rfl (Nat.le_of_ble_eq_true rfl) rfl ?_
                        refine z_iload_n C dX6_append_160 rfl 5 rfl ?_
                        refine z_iload C dX6_append_161 1 rfl ?_
                        refine z_iadd C dX6_append_163 ?_
                        refine z_istore_n (lv' := [(1, .int (bq + (Msz - 7))), (6, .int 1), (5, .int (Msz - 7)), (4, .int (Mbs - bq)), (3, .int Msz), (0, .ref M), (2, .int mo)]) C dX6_append_164 rfl (by decide) rfl ?_
                        refine z_iload C dX6_append_165 1 rfl ?_
                        refine z_if_ne (tgt := 174) C dX6_append_167 (by decide) (fun c_65 => ?_) (fun c_65 => absurd c_65 (by decide))
                        refine z_iconst (v := 0) C dX6_append_174 (by decide) ?_
                        refine z_istore_n (lv' := [(2, .int 0), (1, .int (bq + (Msz - 7))), (6, .int 1), (5, .int (Msz - 7)), (4, .int (Mbs - bq)), (3, .int Msz), (0, .ref M)]) C dX6_append_175 rfl (by decide) rfl ?_
                        refine z_goto (tgt := 22) C dX6_append_176 (by decide) ?_
                        exact z_lv [6, 1, 0] rfl (ih (bq + (Msz - 7)) 0 MBq64 Malq64 1 (zap_e hp c_3) (zapp_q0_bt hz hp hq c_3 c_4 c_42 hm_p hip hT64) (zapp_b_bt hz hu hp hb c_3 c_4 c_42) (by rw [← hv]; simp only [lp_X6_append, if_neg c_3, if_neg c_4, ← hip, hvp, if_pos c_42, if_pos c_43, if_pos c_55, if_pos c_59, hT64]))
                · skip
                  refine z_iload C dX6_append_89 0 rfl ?_
                  refine z_goto (tgt := 98) C dX6_append_91 (by decide) ?_
                  refine z_istore (lv' := [(5, .int (Mbs - bq)), (4, .int (Mbs - bq)), (3, .int Msz), (0, .ref M), (1, .int bq), (2, .int mo)]) C dX6_append_98 (by decide) rfl ?_
                  refine z_iload C dX6_append_100 0 rfl ?_
                  refine z_iload C dX6_append_102 1 rfl ?_
                  refine z_icmp_ne (tgt := 111) C dX6_append_104 (by decide) (fun c_66 => absurd rfl c_66) (fun c_66 => ?_)
                  refine z_iconst (v := 1) C dX6_append_107 (by decide) ?_
                  refine z_goto (tgt := 112) C dX6_append_108 (by decide) ?_
                  refine z_istore (lv' := [(6, .int 1), (5, .int (Mbs - bq)), (4, .int (Mbs - bq)), (3, .int Msz), (0, .ref M), (1, .int bq), (2, .int mo)]) C dX6_append_112 (by decide) rfl ?_
                  refine z_aload_n C dX6_append_114 rfl 4 rfl ?_
                  refine z_iload_n C dX6_append_115 rfl 5 rfl ?_
                  refine z_if_ne (tgt := 139) C dX6_append_116 (by decide) (fun c_67 => ?_) (fun c_67 => ?_)
                  · skip
                    refine z_iload C dX6_append_139 0 rfl ?_
                    refine z_if_eq (tgt := 148) C dX6_append_141 (by decide) (fun c_68 => absurd c_68 (by decide)) (fun c_68 => ?_)
                    refine z_iconst (v := 4) C dX6_append_144 (by decide) ?_
                    refine z_goto (tgt := 149) C dX6_append_145 (by decide) ?_
                    refine z_iload_n C dX6_append_149 rfl 5 rfl ?_
                    refine z_iload C dX6_append_150 1 rfl ?_
                    refine z_callVv (n := 3) (isC := [0, 1, 2, 3, 4, 5, 6]) (isR := []) (isP := [0, 1, 2, 3, 4, 5, 6]) (As := [.int 4, .int bq, .int (Mbs - bq)]) (rest := []) (wr := []) (ws2 := [(M, .inr (5, [.int 0, .int Msz, .int ((f_X6_putFragment MB_p MU Mal_p 4 bq (Mbs - bq)).2), .ref ab, .int Mbs, .ref au, .int Mpl, .int Mbg, .int Mlo, .int Mhs, .int Mhf, .ref ah, .int Mhp, .int Mrs, .int Mrf, .ref ar, .int Mto, .int Mtb, .ref aw, .ref ay, .int Mfr, .int Mln, .int Mhb_])), (ab, .inl (g.2.2.1, 4096, .inl ((f_X6_putFragment MB_p MU Mal_p 4 bq (Mbs - bq)).1))), (au, .inl (g.2.2.1, 400, .inl MU)), (ah, .inl (g.2.2.1, 4096, .inl MH)), (ar, .inl (g.2.2.1, 4096, .inl MR)), (aw, .inl (g.2.2.1, 100, .inl MW)), (ay, .inl (g.2.2.1, 100, .inl MY))]) C dX6_append_152 (c_X6_putFragment (zl X) g M ab au ah ar aw ay MB_p MU MH MR MW MY 0 Msz Mal_p Mbs Mpl Mbg Mlo Mhs Mhf Mhp Mrs Mrf Mto Mtb Mfr Mln Mhb_ 4 bq (Mbs - bq) (zapp_seg_bf hz hu hp hb c_3 c_4 c_42) (zapp_room_bf hz hp hq c_3 c_4 c_42 hm_p hip)) gX6_append_X6_putFragment rfl ⟨rfl, rfl⟩ (by decide +kernel) (by decide) (by decide) rfl rfl rfl rfl (Nat.le_of_ble_eq_true rfl) rfl rfl ⟨rfl, rfl, rfl⟩ (by decide) rfl ?_
                    generalize hT69 : (f_X6_putFragment MB_p MU Mal_p 4 bq (Mbs - bq)) = T69
                    obtain ⟨MBq69, Malq69⟩ := T69
                    refine z_aload_n C dX6_append_155 rfl 4 rfl ?_
                    refine z_iconst (v := 1) C dX6_append_156 (by decide) ?_
                    refine z_put (ci := 5) (v := .int 1) (ty := .boolean) (Cn := RX6) (T := TX6) (N := 23) (ws' := [(M, .inr (5, [.int 0, .int Msz, .int Malq69, .ref ab, .int Mbs, .ref au, .int Mpl, .int Mbg, .int Mlo, .int Mhs, .int Mhf, .ref ah, .int Mhp, .int Mrs, .int Mrf, .ref ar, .int Mto, .int Mtb, .ref aw, .ref ay, .int Mfr, .int Mln, .int 1])), (ab, .inl (g.2.2.1, 4096, .inl MBq69)), (au, .inl (g.2.2.1, 400, .inl MU)), (ah, .inl (g.2.2.1, 4096, .inl MH)), (ar, .inl (g.2.2.1, 4096, .inl MR)), (aw, .inl (g.2.2.1, 100, .inl MW)), (ay, .inl (g.2.2.1, 100, .inl MY))]) C dX6_append_157 (fun w h => List.mem_cons_of_mem _ (List.mem_append_right _ h)) tyX6 tyX6_ok nmX6 0 rfl rfl 22 (by decide) (List.mem_of_getElem? (i := 5) rfl) rfl rfl (by decide +kernel) rfl rfl (Nat.le_of_ble_eq_true rfl) rfl ?_
                    refine z_iload_n C dX6_append_160 rfl 5 rfl ?_
                    refine z_iload C dX6_append_161 1 rfl ?_
                    refine z_iadd C dX6_append_163 ?_
                    refine z_istore_n (lv' := [(1, .int (bq + (Mbs - bq))), (6, .int 1), (5, .int (Mbs - bq)), (4, .int (Mbs - bq)), (3, .int Msz), (0, .ref M), (2, .int mo)]) C dX6_append_164 rfl (by decide) rfl ?_
                    refine z_iload C dX6_append_165 1 rfl ?_
                    refine z_if_ne (tgt := 174) C dX6_append_167 (by decide) (fun c_70 => ?_) (fun c_70 => absurd c_70 (by decide))
                    refine z_iconst (v := 0) C dX6_append_174 (by decide) ?_
                    refine z_istore_n (lv' := [(2, .int 0), (1, .int (bq + (Mbs - bq))), (6, .int 1), (5, .int (Mbs - bq)), (4, .int (Mbs - bq)), (3, .int Msz), (0, .ref M)]) C dX6_append_175 rfl (by decide) rfl ?_
                    refine z_goto (tgt := 22) C dX6_append_176 (by decide) ?_
                    exact z_lv [6, 1, 0] rfl (ih (bq + (Mbs - bq)) 0 MBq69 Malq69 1 (zap_e hp c_3) (zapp_q0_bf hz hp hq c_3 c_4 c_42 hm_p hip hT69) (zapp_b_bf hz hu hp hb c_3 c_4 c_42) (by rw [← hv]; simp only [lp_X6_append, if_neg c_3, if_neg c_4, ← hip, hvp, if_neg c_42, if_neg c_67, hT69]))
                  · skip
                    refine z_aload_n C dX6_append_119 rfl 4 rfl ?_
                    refine z_get (ci := 5) (v := .int Mhb_) (Cn := RX6) (T := TX6) (N := 23) C dX6_append_120 (fun w h => List.mem_cons_of_mem _ (List.mem_append_right _ h)) 0 rfl rfl 22 (by decide) (List.mem_of_getElem? (i := 5) rfl) rfl rfl ?_
                    refine z_if_ne (tgt := 139) C dX6_append_123 (by decide) (fun c_71 => ?_) (fun c_71 => ?_)
                    · skip
                      refine z_iload C dX6_append_139 0 rfl ?_
                      refine z_if_eq (tgt := 148) C dX6_append_141 (by decide) (fun c_72 => absurd c_72 (by decide)) (fun c_72 => ?_)
                      refine z_iconst (v := 4) C dX6_append_144 (by decide) ?_
                      refine z_goto (tgt := 149) C dX6_append_145 (by decide) ?_
                      refine z_iload_n C dX6_append_149 rfl 5 rfl ?_
                      refine z_iload C dX6_append_150 1 rfl ?_
                      refine z_callVv (n := 3) (isC := [0, 1, 2, 3, 4, 5, 6]) (isR := []) (isP := [0, 1, 2, 3, 4, 5, 6]) (As := [.int 4, .int bq, .int (Mbs - bq)]) (rest := []) (wr := []) (ws2 := [(M, .inr (5, [.int 0, .int Msz, .int ((f_X6_putFragment MB_p MU Mal_p 4 bq (Mbs - bq)).2), .ref ab, .int Mbs, .ref au, .int Mpl, .int Mbg, .int Mlo, .int Mhs, .int Mhf, .ref ah, .int Mhp, .int Mrs, .int Mrf, .ref ar, .int Mto, .int Mtb, .ref aw, .ref ay, .int Mfr, .int Mln, .int Mhb_])), (ab, .inl (g.2.2.1, 4096, .inl ((f_X6_putFragment MB_p MU Mal_p 4 bq (Mbs - bq)).1))), (au, .inl (g.2.2.1, 400, .inl MU)), (ah, .inl (g.2.2.1, 4096, .inl MH)), (ar, .inl (g.2.2.1, 4096, .inl MR)), (aw, .inl (g.2.2.1, 100, .inl MW)), (ay, .inl (g.2.2.1, 100, .inl MY))]) C dX6_append_152 (c_X6_putFragment (zl X) g M ab au ah ar aw ay MB_p MU MH MR MW MY 0 Msz Mal_p Mbs Mpl Mbg Mlo Mhs Mhf Mhp Mrs Mrf Mto Mtb Mfr Mln Mhb_ 4 bq (Mbs - bq) (zapp_seg_bf hz hu hp hb c_3 c_4 c_42) (zapp_room_bf hz hp hq c_3 c_4 c_42 hm_p hip)) gX6_append_X6_putFragment rfl ⟨rfl, rfl⟩ (by decide +kernel) (by decide) (by decide) rfl rfl rfl rfl (Nat.le_of_ble_eq_true rfl) rfl rfl ⟨rfl, rfl, rfl⟩ (by decide) rfl ?_
                      generalize hT73 : (f_X6_putFragment MB_p MU Mal_p 4 bq (Mbs - bq)) = T73
                      obtain ⟨MBq73, Malq73⟩ := T73
                      refine z_aload_n C dX6_append_155 rfl 4 rfl ?_
                      refine z_iconst (v := 1) C dX6_append_156 (by decide) ?_
                      refine z_put (ci := 5) (v := .int 1) (ty := .boolean) (Cn := RX6) (T := TX6) (N := 23) (ws' := [(M, .inr (5, [.int 0, .int Msz, .int Malq73, .ref ab, .int Mbs, .ref au, .int Mpl, .int Mbg, .int Mlo, .int Mhs, .int Mhf, .ref ah, .int Mhp, .int Mrs, .int Mrf, .ref ar, .int Mto, .int Mtb, .ref aw, .ref ay, .int Mfr, .int Mln, .int 1])), (ab, .inl (g.2.2.1, 4096, .inl MBq73)), (au, .inl (g.2.2.1, 400, .inl MU)), (ah, .inl (g.2.2.1, 4096, .inl MH)), (ar, .inl (g.2.2.1, 4096, .inl MR)), (aw, .inl (g.2.2.1, 100, .inl MW)), (ay, .inl (g.2.2.1, 100, .inl MY))]) C dX6_append_157 (fun w h => List.mem_cons_of_mem _ (List.mem_append_right _ h)) tyX6 tyX6_ok nmX6 0 rfl rfl 22 (by decide) (List.mem_of_getElem? (i := 5) rfl) rfl rfl (by decide +kernel) rfl rfl (Nat.le_of_ble_eq_true rfl) rfl ?_
                      refine z_iload_n C dX6_append_160 rfl 5 rfl ?_
                      refine z_iload C dX6_append_161 1 rfl ?_
                      refine z_iadd C dX6_append_163 ?_
                      refine z_istore_n (lv' := [(1, .int (bq + (Mbs - bq))), (6, .int 1), (5, .int (Mbs - bq)), (4, .int (Mbs - bq)), (3, .int Msz), (0, .ref M), (2, .int mo)]) C dX6_append_164 rfl (by decide) rfl ?_
                      refine z_iload C dX6_append_165 1 rfl ?_
                      refine z_if_ne (tgt := 174) C dX6_append_167 (by decide) (fun c_74 => ?_) (fun c_74 => absurd c_74 (by decide))
                      refine z_iconst (v := 0) C dX6_append_174 (by decide) ?_
                      refine z_istore_n (lv' := [(2, .int 0), (1, .int (bq + (Mbs - bq))), (6, .int 1), (5, .int (Mbs - bq)), (4, .int (Mbs - bq)), (3, .int Msz), (0, .ref M)]) C dX6_append_175 rfl (by decide) rfl ?_
                      refine z_goto (tgt := 22) C dX6_append_176 (by decide) ?_
                      exact z_lv [6, 1, 0] rfl (ih (bq + (Mbs - bq)) 0 MBq73 Malq73 1 (zap_e hp c_3) (zapp_q0_bf hz hp hq c_3 c_4 c_42 hm_p hip hT73) (zapp_b_bf hz hu hp hb c_3 c_4 c_42) (by rw [← hv]; simp only [lp_X6_append, if_neg c_3, if_neg c_4, ← hip, hvp, if_neg c_42, if_pos c_67, if_neg c_71, hT73]))
                    · skip
                      refine z_iload C dX6_append_126 0 rfl ?_
                      refine z_if_eq (tgt := 135) C dX6_append_128 (by decide) (fun c_75 => absurd c_75 (by decide)) (fun c_75 => ?_)
                      refine z_iconst (v := 1) C dX6_append_131 (by decide) ?_
                      refine z_goto (tgt := 149) C dX6_append_132 (by decide) ?_
                      refine z_iload_n C dX6_append_149 rfl 5 rfl ?_
                      refine z_iload C dX6_append_150 1 rfl ?_
                      refine z_callVv (n := 3) (isC := [0, 1, 2, 3, 4, 5, 6]) (isR := []) (isP := [0, 1, 2, 3, 4, 5, 6]) (As := [.int 1, .int bq, .int (Mbs - bq)]) (rest := []) (wr := []) (ws2 := [(M, .inr (5, [.int 0, .int Msz, .int ((f_X6_putFragment MB_p MU Mal_p 1 bq (Mbs - bq)).2), .ref ab, .int Mbs, .ref au, .int Mpl, .int Mbg, .int Mlo, .int Mhs, .int Mhf, .ref ah, .int Mhp, .int Mrs, .int Mrf, .ref ar, .int Mto, .int Mtb, .ref aw, .ref ay, .int Mfr, .int Mln, .int Mhb_])), (ab, .inl (g.2.2.1, 4096, .inl ((f_X6_putFragment MB_p MU Mal_p 1 bq (Mbs - bq)).1))), (au, .inl (g.2.2.1, 400, .inl MU)), (ah, .inl (g.2.2.1, 4096, .inl MH)), (ar, .inl (g.2.2.1, 4096, .inl MR)), (aw, .inl (g.2.2.1, 100, .inl MW)), (ay, .inl (g.2.2.1, 100, .inl MY))]) C dX6_append_152 (c_X6_putFragment (zl X) g M ab au ah ar aw ay MB_p MU MH MR MW MY 0 Msz Mal_p Mbs Mpl Mbg Mlo Mhs Mhf Mhp Mrs Mrf Mto Mtb Mfr Mln Mhb_ 1 bq (Mbs - bq) (zapp_seg_bf hz hu hp hb c_3 c_4 c_42) (zapp_room_bf hz hp hq c_3 c_4 c_42 hm_p hip)) gX6_append_X6_putFragment rfl ⟨rfl, rfl⟩ (by decide +kernel) (by decide) (by decide) rfl rfl rfl rfl (Nat.le_of_ble_eq_true rfl) rfl rfl ⟨rfl, rfl, rfl⟩ (by decide) rfl ?_
                      generalize hT76 : (f_X6_putFragment MB_p MU Mal_p 1 bq (Mbs - bq)) = T76
                      obtain ⟨MBq76, Malq76⟩ := T76
                      refine z_aload_n C dX6_append_155 rfl 4 rfl ?_
                      refine z_iconst (v := 1) C dX6_append_156 (by decide) ?_
                      refine z_put (ci := 5) (v := .int 1) (ty := .boolean) (Cn := RX6) (T := TX6) (N := 23) (ws' := [(M, .inr (5, [.int 0, .int Msz, .int Malq76, .ref ab, .int Mbs, .ref au, .int Mpl, .int Mbg, .int Mlo, .int Mhs, .int Mhf, .ref ah, .int Mhp, .int Mrs, .int Mrf, .ref ar, .int Mto, .int Mtb, .ref aw, .ref ay, .int Mfr, .int Mln, .int 1])), (ab, .inl (g.2.2.1, 4096, .inl MBq76)), (au, .inl (g.2.2.1, 400, .inl MU)), (ah, .inl (g.2.2.1, 4096, .inl MH)), (ar, .inl (g.2.2.1, 4096, .inl MR)), (aw, .inl (g.2.2.1, 100, .inl MW)), (ay, .inl (g.2.2.1, 100, .inl MY))]) C dX6_append_157 (fun w h => List.mem_cons_of_mem _ (List.mem_append_right _ h)) tyX6 tyX6_ok nmX6 0 rfl rfl 22 (by decide) (List.mem_of_getElem? (i := 5) rfl) rfl rfl (by decide +kernel) rfl rfl (Nat.le_of_ble_eq_true rfl) rfl ?_
                      refine z_iload_n C dX6_append_160 rfl 5 rfl ?_
                      refine z_iload C dX6_append_161 1 rfl ?_
                      refine z_iadd C dX6_append_163 ?_
                      refine z_istore_n (lv' := [(1, .int (bq + (Mbs - bq))), (6, .int 1), (5, .int (Mbs - bq)), (4, .int (Mbs - bq)), (3, .int Msz), (0, .ref M), (2, .int mo)]) C dX6_append_164 rfl (by decide) rfl ?_
                      refine z_iload C dX6_append_165 1 rfl ?_
                      refine z_if_ne (tgt := 174) C dX6_append_167 (by decide) (fun c_77 => ?_) (fun c_77 => absurd c_77 (by decide))
                      refine z_iconst (v := 0) C dX6_append_174 (by decide) ?_
                      refine z_istore_n (lv' := [(2, .int 0), (1, .int (bq + (Mbs - bq))), (6, .int 1), (5, .int (Mbs - bq)), (4, .int (Mbs - bq)), (3, .int Msz), (0, .ref M)]) C dX6_append_175 rfl (by decide) rfl ?_
                      refine z_goto (tgt := 22) C dX6_append_176 (by decide) ?_
                      exact z_lv [6, 1, 0] rfl (ih (bq + (Mbs - bq)) 0 MBq76 Malq76 1 (zap_e hp c_3) (zapp_q0_bf hz hp hq c_3 c_4 c_42 hm_p hip hT76) (zapp_b_bf hz hu hp hb c_3 c_4 c_42) (by rw [← hv]; simp only [lp_X6_append, if_neg c_3, if_neg c_4, ← hip, hvp, if_neg c_42, if_pos c_67, if_pos c_71, hT76]))
              | succ rp ihp =>
                intro ip hip MB_p Mal_p hvp hm_p
                refine z_iload C dX6_append_50 4 rfl ?_
                refine z_iload_n C dX6_append_52 rfl 3 rfl ?_
                refine z_icmp_ge (tgt := 67) C dX6_append_53 (by decide) (fun c_78 => absurd c_78 (zfor_in hip)) (fun c_78 => ?_)
                refine z_aload_n C dX6_append_56 rfl 0 rfl ?_
                refine z_iconst (v := 0) C dX6_append_57 (by decide) ?_
                refine z_callVv (n := 1) (isC := [0, 1, 2, 3, 4, 5, 6]) (isR := []) (isP := [0, 1, 2, 3, 4, 5, 6]) (As := [.int 0]) (rest := []) (wr := []) (ws2 := [(M, .inr (5, [.int 0, .int Msz, .int (Mal_p + 1), .ref ab, .int Mbs, .ref au, .int Mpl, .int Mbg, .int Mlo, .int Mhs, .int Mhf, .ref ah, .int Mhp, .int Mrs, .int Mrf, .ref ar, .int Mto, .int Mtb, .ref aw, .ref ay, .int Mfr, .int Mln, .int Mhb_])), (ab, .inl (g.2.2.1, 4096, .inl (upd MB_p (Mal_p).toNatClampNeg (0 &&& 255)))), (au, .inl (g.2.2.1, 400, .inl MU)), (ah, .inl (g.2.2.1, 4096, .inl MH)), (ar, .inl (g.2.2.1, 4096, .inl MR)), (aw, .inl (g.2.2.1, 100, .inl MW)), (ay, .inl (g.2.2.1, 100, .inl MY))]) C dX6_append_58 (c_X6_put (zl X) g M ab au ah ar aw ay MB_p MU MH MR MW MY 0 Msz Mal_p Mbs Mpl Mbg Mlo Mhs Mhf Mhp Mrs Mrf Mto Mtb Mfr Mln Mhb_ 0 (zpad_room hz hp hq c_3 c_4 hm_p hip)) gX6_append_X6_put rfl ⟨rfl, rfl⟩ (by decide +kernel) (by decide) (by decide) rfl rfl rfl rfl (Nat.le_of_ble_eq_true rfl) rfl rfl ⟨rfl, rfl, rfl⟩ (by decide) rfl ?_
                refine z_iinc (v := (nI (ip + 1))) (lv' := [(4, .int (nI (ip + 1))), (0, .ref M), (1, .int bq), (2, .int mo), (3, .int (Msz - (zMod Mal_ Msz)))]) C dX6_append_61 4 rfl (nI_1 ip) (by decide) rfl ?_
                refine z_goto (tgt := 50) C dX6_append_64 (by decide) ?_
                have hsp : lpp_X6_append  (MB_, Mal_) (ip + 1) = ((upd MB_p (Mal_p).toNatClampNeg (0 &&& 255)), (Mal_p + 1)) := by
                  show bp_X6_append  (nI ip) (lpp_X6_append  (MB_, Mal_) ip) = _
                  rw [hvp]
                  rfl
                exact z_lv [1, 2, 3, 4, 0] rfl (ihp (ip + 1) (by omega) (upd MB_p (Mal_p).toNatClampNeg (0 &&& 255)) (Mal_p + 1) hsp (zpad_s hm_p))
            exact z_lv [2, 3, 4, 1, 0] rfl (loopp ((Msz - (zMod Mal_ Msz))).toNatClampNeg 0 (Nat.zero_add _) MB_ Mal_ rfl (zpad_0 _))
    exact z_lv [2, 1, 0] rfl (loop 1000 0 1 MB Mal Mhb (by rw [Int32.sub_zero]; exact zap_i hz ha hu) (by rw [Int32.sub_zero]; exact zapp_i hT1 c_2) ⟨by decide, hu.1⟩ (by simp only [f_X6_append, hT1, if_pos c_2]))
  · skip
    refine z_bipush (v := (-2)) C dX6_append_15 (by decide) ?_
    have he : (f_X6_append MB MU Msz Mal Mbs Mhb) = ((-2), MB, 0, Mal, Mhb) := by simp only [f_X6_append, hT1, if_neg c_2]
    exact hret _ _ _ _ dX6_append_17 (by first | rw [he] | rfl) (by first | rw [he] | rfl)
