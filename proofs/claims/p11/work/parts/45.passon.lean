def f_X6_passOn (MB : Nat → Int32) (MH : Nat → Int32) (MR : Nat → Int32) (MW : Nat → Int32) (MY : Nat → Int32) (Mlo : Int32) (Mhs : Int32) (Mhf : Int32) (Mhp : Int32) (Mrs : Int32) (Mrf : Int32) (Mto : Int32) (Mtb : Int32) (Mfr : Int32) (Mln : Int32) (v : Int32) : Int32 × (Nat → Int32) × (Nat → Int32) × (Nat → Int32) × (Nat → Int32) × Int32 × Int32 × Int32 × Int32 × Int32 × Int32 × Int32 × Int32 :=
  if v = (-1) then
    (1, MH, MR, MW, MY, Mlo, 0, 0, Mhp, Mrs, Mrf, Mto, Mtb)
  else
    if v = (-2) then
      if Mhf = 0 then
        (0, MH, MR, MW, MY, Mlo, 0, 0, Mhp, Mrs, Mrf, Mto, Mtb)
      else
        match (f_X6_tell MW MY Mto Mtb 3 Mhs) with
        | (MWq49, MYq49, Mtoq49, Mtbq49) =>
          (0, MH, MR, MWq49, MYq49, Mlo, 0, 0, Mhp, Mrs, Mrf, Mtoq49, Mtbq49)
    else
      if Mlo = 0 then
        if v = 1 then
          match (f_X6_start MB MH MW MY Mhs Mhf Mto Mtb Mfr Mln) with
          | (MHq5, MWq5, MYq5, Mhsq5, Mhfq5, Mhpq5, Mtoq5, Mtbq5) =>
            match (f_X6_finish MHq5 MR Mhsq5 Mhpq5) with
            | (MRq7, Mhsq7, Mhfq7, Mrsq7, Mrfq7) =>
              (1, MHq5, MRq7, MWq5, MYq5, Mlo, Mhsq7, Mhfq7, Mhpq5, Mrsq7, Mrfq7, Mtoq5, Mtbq5)
        else
          if v = 2 then
            match (f_X6_start MB MH MW MY Mhs Mhf Mto Mtb Mfr Mln) with
            | (MHq27, MWq27, MYq27, Mhsq27, Mhfq27, Mhpq27, Mtoq27, Mtbq27) =>
              (0, MHq27, MR, MWq27, MYq27, Mlo, Mhsq27, Mhfq27, Mhpq27, Mrs, Mrf, Mtoq27, Mtbq27)
          else
            if v = 3 then
              if Mhf = 0 then
                match (f_X6_tell MW MY Mto Mtb 5 Mln) with
                | (MWq17, MYq17, Mtoq17, Mtbq17) =>
                  (0, MH, MR, MWq17, MYq17, Mlo, Mhs, Mhf, Mhp, Mrs, Mrf, Mtoq17, Mtbq17)
              else
                match (f_X6_take MB MH Mhs Mfr Mln) with
                | (MHq12, Mhsq12) =>
                  if v = 4 then
                    match (f_X6_finish MHq12 MR Mhsq12 Mhp) with
                    | (MRq15, Mhsq15, Mhfq15, Mrsq15, Mrfq15) =>
                      (1, MHq12, MRq15, MW, MY, Mlo, Mhsq15, Mhfq15, Mhp, Mrsq15, Mrfq15, Mto, Mtb)
                  else
                    (0, MHq12, MR, MW, MY, Mlo, Mhsq12, Mhf, Mhp, Mrs, Mrf, Mto, Mtb)
            else
              if v = 4 then
                if Mhf = 0 then
                  match (f_X6_tell MW MY Mto Mtb 5 Mln) with
                  | (MWq26, MYq26, Mtoq26, Mtbq26) =>
                    (0, MH, MR, MWq26, MYq26, Mlo, Mhs, Mhf, Mhp, Mrs, Mrf, Mtoq26, Mtbq26)
                else
                  match (f_X6_take MB MH Mhs Mfr Mln) with
                  | (MHq22, Mhsq22) =>
                    match (f_X6_finish MHq22 MR Mhsq22 Mhp) with
                    | (MRq24, Mhsq24, Mhfq24, Mrsq24, Mrfq24) =>
                      (1, MHq22, MRq24, MW, MY, Mlo, Mhsq24, Mhfq24, Mhp, Mrsq24, Mrfq24, Mto, Mtb)
              else
                match (f_X6_tell MW MY Mto Mtb 6 (Mln + Mhs)) with
                | (MWq19, MYq19, Mtoq19, Mtbq19) =>
                  (0, MH, MR, MWq19, MYq19, Mlo, 0, 0, Mhp, Mrs, Mrf, Mtoq19, Mtbq19)
      else
        if v = 3 then
          (0, MH, MR, MW, MY, 1, Mhs, Mhf, Mhp, Mrs, Mrf, Mto, Mtb)
        else
          if v = 4 then
            (0, MH, MR, MW, MY, 0, Mhs, Mhf, Mhp, Mrs, Mrf, Mto, Mtb)
          else
            if v = 1 then
              match (f_X6_start MB MH MW MY Mhs Mhf Mto Mtb Mfr Mln) with
              | (MHq34, MWq34, MYq34, Mhsq34, Mhfq34, Mhpq34, Mtoq34, Mtbq34) =>
                match (f_X6_finish MHq34 MR Mhsq34 Mhpq34) with
                | (MRq36, Mhsq36, Mhfq36, Mrsq36, Mrfq36) =>
                  (1, MHq34, MRq36, MWq34, MYq34, 0, Mhsq36, Mhfq36, Mhpq34, Mrsq36, Mrfq36, Mtoq34, Mtbq34)
            else
              if v = 2 then
                match (f_X6_start MB MH MW MY Mhs Mhf Mto Mtb Mfr Mln) with
                | (MHq43, MWq43, MYq43, Mhsq43, Mhfq43, Mhpq43, Mtoq43, Mtbq43) =>
                  (0, MHq43, MR, MWq43, MYq43, 0, Mhsq43, Mhfq43, Mhpq43, Mrs, Mrf, Mtoq43, Mtbq43)
              else
                match (f_X6_tell MW MY Mto Mtb 6 (Mln + Mhs)) with
                | (MWq41, MYq41, Mtoq41, Mtbq41) =>
                  (0, MH, MR, MWq41, MYq41, 0, 0, 0, Mhp, Mrs, Mrf, Mtoq41, Mtbq41)
theorem zbool_X6_passOn (MB MH MR MW MY : Nat → Int32) (lo hs hf hp rs rf to tb fr ln v : Int32) : narrow .boolean (.int (f_X6_passOn MB MH MR MW MY lo hs hf hp rs rf to tb fr ln v).1) = .int (f_X6_passOn MB MH MR MW MY lo hs hf hp rs rf to tb fr ln v).1 := by
  unfold f_X6_passOn
  repeat' split
  all_goals ((try dsimp only); rfl)
theorem zdok_X6_passOn0 {k : Nat} {MB MH MR MW MY : Nat → Int32} {lo hs hf hp rs rf to tb fr ln v : Int32} (hd : zdok (k + 1) to) : zdok k (f_X6_passOn MB MH MR MW MY lo hs hf hp rs rf to tb fr ln v).2.2.2.2.2.2.2.2.2.2.2.1 := by
  unfold f_X6_passOn
  repeat' split
  all_goals first | exact zdok_X6_start hd (by assumption) | exact zdok_X6_tell hd (by assumption) | exact zdok_le hd (by omega)
theorem zdok_X6_passOn {k : Nat} {MB MH MR MW MY H1 R1 W1 Y1 : Nat → Int32} {lo hs hf hp rs rf to tb fr ln v r lo1 hs1 hf1 hp1 rs1 rf1 to1 tb1 : Int32} (hd : zdok (k + 1) to) (e : f_X6_passOn MB MH MR MW MY lo hs hf hp rs rf to tb fr ln v = (r, H1, R1, W1, Y1, lo1, hs1, hf1, hp1, rs1, rf1, to1, tb1)) : zdok k to1 := by
  have h := zdok_X6_passOn0 (MB := MB) (MH := MH) (MR := MR) (MW := MW) (MY := MY) (lo := lo) (hs := hs) (hf := hf) (hp := hp) (rs := rs) (rf := rf) (tb := tb) (fr := fr) (ln := ln) (v := v) hd
  rw [e] at h
  exact h
theorem zfin {MH MR R1 : Nat → Int32} {hs hp s1 h1 rs1 rf1 : Int32} (e : f_X6_finish MH MR hs hp = (R1, s1, h1, rs1, rf1)) : s1 = 0 ∧ rs1 = hs := by
  unfold f_X6_finish at e
  cases e
  exact ⟨rfl, rfl⟩
theorem zrs_of {a : Int32} (h : zok 4096 a) : zrs a := ⟨by have := h.1; omega, h.2.1⟩
def zpaQ (v hs ln r hs1 rs rs1 : Int32) : Prop := (v = -1 → ¬ r = 0) ∧ (hs1 = 0 ∨ hs1 = hs ∨ ((¬ v = -1 ∧ ¬ v = -2) ∧ (hs1 = 0 + ln ∨ hs1 = hs + ln))) ∧ (zrs rs → zrs rs1)
theorem zpass0 {MB MH MR MW MY : Nat → Int32} {lo hs hf hp rs rf to tb fr ln v : Int32} (ht : zdok 1 to) (hk : zpo v fr ln hs) : zpaQ v hs ln (f_X6_passOn MB MH MR MW MY lo hs hf hp rs rf to tb fr ln v).1 (f_X6_passOn MB MH MR MW MY lo hs hf hp rs rf to tb fr ln v).2.2.2.2.2.2.1 rs (f_X6_passOn MB MH MR MW MY lo hs hf hp rs rf to tb fr ln v).2.2.2.2.2.2.2.2.2.1 := by
  unfold f_X6_passOn
  split
  · exact ⟨fun _ => (by show ¬ (1 : Int32) = 0; decide), Or.inl rfl, id⟩
  · next c1 =>
    split
    · split
      · exact ⟨fun h => absurd h c1, Or.inl rfl, id⟩
      · split
        exact ⟨fun h => absurd h c1, Or.inl rfl, id⟩
    · next c2 =>
      obtain ⟨s1, s2, s3⟩ := zpo_3 hk c1 c2
      have hl := s1.2.1
      repeat' split
      all_goals first
        | exact ⟨fun h => absurd h c1, Or.inl rfl, id⟩
        | exact ⟨fun h => absurd h c1, Or.inr (Or.inl rfl), id⟩
        | exact ⟨fun h => absurd h c1, Or.inr (Or.inr ⟨⟨c1, c2⟩, Or.inl (zstart hl (by assumption))⟩), id⟩
        | exact ⟨fun h => absurd h c1, Or.inr (Or.inr ⟨⟨c1, c2⟩, Or.inr (ztake hl (by assumption))⟩), id⟩
        | exact ⟨fun h => absurd h c1, Or.inl (zfin (by assumption)).1, fun _ => (zfin (by assumption)).2 ▸ zrs_of (zok_X6_start ht s3 s1 (by assumption))⟩
        | exact ⟨fun h => absurd h c1, Or.inl (zfin (by assumption)).1, fun _ => (zfin (by assumption)).2 ▸ zrs_of (zok_X6_take s2 s1 (by assumption))⟩
theorem zpass {MB MH MR MW MY H1 R1 W1 Y1 : Nat → Int32} {lo hs hf hp rs rf to tb fr ln v r lo1 hs1 hf1 hp1 rs1 rf1 to1 tb1 : Int32} (ht : zdok 1 to) (hk : zpo v fr ln hs) (e : f_X6_passOn MB MH MR MW MY lo hs hf hp rs rf to tb fr ln v = (r, H1, R1, W1, Y1, lo1, hs1, hf1, hp1, rs1, rf1, to1, tb1)) : zpaQ v hs ln r hs1 rs rs1 := by
  have h := zpass0 (MB := MB) (MH := MH) (MR := MR) (MW := MW) (MY := MY) (lo := lo) (hf := hf) (hp := hp) (rs := rs) (rf := rf) (tb := tb) ht hk
  rw [e] at h
  exact h
set_option maxHeartbeats 4000000 in
set_option maxRecDepth 100000 in
theorem c_X6_passOn (l : Launch) (g : zG) (M ab au ah ar aw ay : Nat) (MB : Nat → Int32) (MU : Nat → Int32) (MH : Nat → Int32) (MR : Nat → Int32) (MW : Nat → Int32) (MY : Nat → Int32) (Mft : Int32) (Msz : Int32) (Mal : Int32) (Mbs : Int32) (Mpl : Int32) (Mbg : Int32) (Mlo : Int32) (Mhs : Int32) (Mhf : Int32) (Mhp : Int32) (Mrs : Int32) (Mrf : Int32) (Mto : Int32) (Mtb : Int32) (Mfr : Int32) (Mln : Int32) (Mhb : Int32) (v : Int32) (ht : zdok 1 Mto) (hk : zpo v Mfr Mln Mhs) : zMI l yX6_passOn wsX6_passOn ({ frames := 2, cells := 0, slots := 0, locals := 42 }) g [.ref M, .int v] [(M, .inr (5, [.int Mft, .int Msz, .int Mal, .ref ab, .int Mbs, .ref au, .int Mpl, .int Mbg, .int Mlo, .int Mhs, .int Mhf, .ref ah, .int Mhp, .int Mrs, .int Mrf, .ref ar, .int Mto, .int Mtb, .ref aw, .ref ay, .int Mfr, .int Mln, .int Mhb])), (ab, .inl (g.2.2.1, 4096, .inl MB)), (au, .inl (g.2.2.1, 400, .inl MU)), (ah, .inl (g.2.2.1, 4096, .inl MH)), (ar, .inl (g.2.2.1, 4096, .inl MR)), (aw, .inl (g.2.2.1, 100, .inl MW)), (ay, .inl (g.2.2.1, 100, .inl MY))] ((f_X6_passOn MB MH MR MW MY Mlo Mhs Mhf Mhp Mrs Mrf Mto Mtb Mfr Mln v).1) [(M, .inr (5, [.int Mft, .int Msz, .int Mal, .ref ab, .int Mbs, .ref au, .int Mpl, .int Mbg, .int ((f_X6_passOn MB MH MR MW MY Mlo Mhs Mhf Mhp Mrs Mrf Mto Mtb Mfr Mln v).2.2.2.2.2.1), .int ((f_X6_passOn MB MH MR MW MY Mlo Mhs Mhf Mhp Mrs Mrf Mto Mtb Mfr Mln v).2.2.2.2.2.2.1), .int ((f_X6_passOn MB MH MR MW MY Mlo Mhs Mhf Mhp Mrs Mrf Mto Mtb Mfr Mln v).2.2.2.2.2.2.2.1), .ref ah, .int ((f_X6_passOn MB MH MR MW MY Mlo Mhs Mhf Mhp Mrs Mrf Mto Mtb Mfr Mln v).2.2.2.2.2.2.2.2.1), .int ((f_X6_passOn MB MH MR MW MY Mlo Mhs Mhf Mhp Mrs Mrf Mto Mtb Mfr Mln v).2.2.2.2.2.2.2.2.2.1), .int ((f_X6_passOn MB MH MR MW MY Mlo Mhs Mhf Mhp Mrs Mrf Mto Mtb Mfr Mln v).2.2.2.2.2.2.2.2.2.2.1), .ref ar, .int ((f_X6_passOn MB MH MR MW MY Mlo Mhs Mhf Mhp Mrs Mrf Mto Mtb Mfr Mln v).2.2.2.2.2.2.2.2.2.2.2.1), .int ((f_X6_passOn MB MH MR MW MY Mlo Mhs Mhf Mhp Mrs Mrf Mto Mtb Mfr Mln v).2.2.2.2.2.2.2.2.2.2.2.2), .ref aw, .ref ay, .int Mfr, .int Mln, .int Mhb])), (ab, .inl (g.2.2.1, 4096, .inl MB)), (au, .inl (g.2.2.1, 400, .inl MU)), (ah, .inl (g.2.2.1, 4096, .inl ((f_X6_passOn MB MH MR MW MY Mlo Mhs Mhf Mhp Mrs Mrf Mto Mtb Mfr Mln v).2.1))), (ar, .inl (g.2.2.1, 4096, .inl ((f_X6_passOn MB MH MR MW MY Mlo Mhs Mhf Mhp Mrs Mrf Mto Mtb Mfr Mln v).2.2.1))), (aw, .inl (g.2.2.1, 100, .inl ((f_X6_passOn MB MH MR MW MY Mlo Mhs Mhf Mhp Mrs Mrf Mto Mtb Mfr Mln v).2.2.2.1))), (ay, .inl (g.2.2.1, 100, .inl ((f_X6_passOn MB MH MR MW MY Mlo Mhs Mhf Mhp Mrs Mrf Mto Mtb Mfr Mln v).2.2.2.2.1)))] := by
  refine zMI_of (cc := cX6_passOn) (nL := 2) (ty := .boolean) (by decide) rfl (Nat.le_of_ble_eq_true rfl) (zbool_X6_passOn _ _ _ _ _ _ _ _ _ _ _ _ _ _ _ _) ?_
  intro X C hret
  refine z_lv (lv' := [(0, .ref M), (1, .int v)]) [0, 1] rfl ?_
  refine z_iload_n C dX6_passOn_0 rfl 1 rfl ?_
  refine z_iconst (v := (-1)) C dX6_passOn_1 (by decide) ?_
  refine z_icmp_ne (tgt := 11) C dX6_passOn_2 (by decide) (fun c_1 => ?_) (fun c_1 => ?_)
  · skip
    refine z_iload_n C dX6_passOn_11 rfl 1 rfl ?_
    refine z_bipush (v := (-2)) C dX6_passOn_12 (by decide) ?_
    refine z_icmp_ne (tgt := 39) C dX6_passOn_14 (by decide) (fun c_2 => ?_) (fun c_2 => ?_)
    · skip
      refine z_aload_n C dX6_passOn_39 rfl 0 rfl ?_
      refine z_get (ci := 5) (v := .int Mlo) (Cn := RX6) (T := TX6) (N := 23) C dX6_passOn_40 (fun w h => List.mem_cons_of_mem _ (List.mem_append_right _ h)) 0 rfl rfl 8 (by decide) (List.mem_of_getElem? (i := 3) rfl) rfl rfl ?_
      refine z_if_eq (tgt := 72) C dX6_passOn_43 (by decide) (fun c_3 => ?_) (fun c_3 => ?_)
      · skip
        refine z_iload_n C dX6_passOn_72 rfl 1 rfl ?_
        refine z_iconst (v := 1) C dX6_passOn_73 (by decide) ?_
        refine z_icmp_eq (tgt := 82) C dX6_passOn_74 (by decide) (fun c_4 => ?_) (fun c_4 => ?_)
        · skip
          refine z_aload_n C dX6_passOn_82 rfl 0 rfl ?_
          refine z_callVv (n := 0) (isC := [0, 1, 2, 3, 4, 5, 6]) (isR := []) (isP := [0, 1, 2, 3, 4, 5, 6]) (As := []) (rest := []) (wr := []) (ws2 := [(M, .inr (5, [.int Mft, .int Msz, .int Mal, .ref ab, .int Mbs, .ref au, .int Mpl, .int Mbg, .int Mlo, .int ((f_X6_start MB MH MW MY Mhs Mhf Mto Mtb Mfr Mln).2.2.2.1), .int ((f_X6_start MB MH MW MY Mhs Mhf Mto Mtb Mfr Mln).2.2.2.2.1), .ref ah, .int ((f_X6_start MB MH MW MY Mhs Mhf Mto Mtb Mfr Mln).2.2.2.2.2.1), .int Mrs, .int Mrf, .ref ar, .int ((f_X6_start MB MH MW MY Mhs Mhf Mto Mtb Mfr Mln).2.2.2.2.2.2.1), .int ((f_X6_start MB MH MW MY Mhs Mhf Mto Mtb Mfr Mln).2.2.2.2.2.2.2), .ref aw, .ref ay, .int Mfr, .int Mln, .int Mhb])), (ab, .inl (g.2.2.1, 4096, .inl MB)), (au, .inl (g.2.2.1, 400, .inl MU)), (ah, .inl (g.2.2.1, 4096, .inl ((f_X6_start MB MH MW MY Mhs Mhf Mto Mtb Mfr Mln).1))), (ar, .inl (g.2.2.1, 4096, .inl MR)), (aw, .inl (g.2.2.1, 100, .inl ((f_X6_start MB MH MW MY Mhs Mhf Mto Mtb Mfr Mln).2.1))), (ay, .inl (g.2.2.1, 100, .inl ((f_X6_start MB MH MW MY Mhs Mhf Mto Mtb Mfr Mln).2.2.1)))]) C dX6_passOn_83 (c_X6_start (zl X) g M ab au ah ar aw ay MB MU MH MR MW MY Mft Msz Mal Mbs Mpl Mbg Mlo Mhs Mhf Mhp Mrs Mrf Mto Mtb Mfr Mln Mhb ht (zpo_3 hk c_1 c_2).2.2 (zpo_3 hk c_1 c_2).1) gX6_passOn_X6_start rfl ⟨rfl, rfl⟩ (by decide +kernel) (by decide) (by decide) rfl rfl rfl rfl (Nat.le_of_ble_eq_true rfl) rfl rfl ⟨rfl, rfl, rfl⟩ (by decide) rfl ?_
          generalize hT5 : (f_X6_start MB MH MW MY Mhs Mhf Mto Mtb Mfr Mln) = T5
          obtain ⟨MHq5, MWq5, MYq5, Mhsq5, Mhfq5, Mhpq5, Mtoq5, Mtbq5⟩ := T5
          have k5_Mhs : zok 4096 Mhsq5 := zok_X6_start ht (zpo_3 hk c_1 c_2).2.2 (zpo_3 hk c_1 c_2).1 hT5
          have k5_Mto : zdok (0) Mtoq5 := zdok_X6_start (zdok_le ht (by omega)) hT5
          refine z_iload_n C dX6_passOn_86 rfl 1 rfl ?_
          refine z_iconst (v := 1) C dX6_passOn_87 (by decide) ?_
          refine z_icmp_ne (tgt := 95) C dX6_passOn_88 (by decide) (fun c_6 => absurd c_4 c_6) (fun c_6 => ?_)
          refine z_aload_n C dX6_passOn_91 rfl 0 rfl ?_
          refine z_callVv (n := 0) (isC := [0, 1, 2, 3, 4, 5, 6]) (isR := []) (isP := [0, 1, 2, 3, 4, 5, 6]) (As := []) (rest := []) (wr := []) (ws2 := [(M, .inr (5, [.int Mft, .int Msz, .int Mal, .ref ab, .int Mbs, .ref au, .int Mpl, .int Mbg, .int Mlo, .int ((f_X6_finish MHq5 MR Mhsq5 Mhpq5).2.1), .int ((f_X6_finish MHq5 MR Mhsq5 Mhpq5).2.2.1), .ref ah, .int Mhpq5, .int ((f_X6_finish MHq5 MR Mhsq5 Mhpq5).2.2.2.1), .int ((f_X6_finish MHq5 MR Mhsq5 Mhpq5).2.2.2.2), .ref ar, .int Mtoq5, .int Mtbq5, .ref aw, .ref ay, .int Mfr, .int Mln, .int Mhb])), (ab, .inl (g.2.2.1, 4096, .inl MB)), (au, .inl (g.2.2.1, 400, .inl MU)), (ah, .inl (g.2.2.1, 4096, .inl MHq5)), (ar, .inl (g.2.2.1, 4096, .inl ((f_X6_finish MHq5 MR Mhsq5 Mhpq5).1))), (aw, .inl (g.2.2.1, 100, .inl MWq5)), (ay, .inl (g.2.2.1, 100, .inl MYq5))]) C dX6_passOn_92 (c_X6_finish (zl X) g M ab au ah ar aw ay MB MU MHq5 MR MWq5 MYq5 Mft Msz Mal Mbs Mpl Mbg Mlo Mhsq5 Mhfq5 Mhpq5 Mrs Mrf Mtoq5 Mtbq5 Mfr Mln Mhb k5_Mhs) gX6_passOn_X6_finish rfl ⟨rfl, rfl⟩ (by decide +kernel) (by decide) (by decide) rfl rfl rfl rfl (Nat.le_of_ble_eq_true rfl) rfl rfl ⟨rfl, rfl, rfl⟩ (by decide) rfl ?_
          generalize hT7 : (f_X6_finish MHq5 MR Mhsq5 Mhpq5) = T7
          obtain ⟨MRq7, Mhsq7, Mhfq7, Mrsq7, Mrfq7⟩ := T7
          refine z_iload_n C dX6_passOn_95 rfl 1 rfl ?_
          refine z_iconst (v := 1) C dX6_passOn_96 (by decide) ?_
          refine z_icmp_ne (tgt := 104) C dX6_passOn_97 (by decide) (fun c_8 => absurd c_4 c_8) (fun c_8 => ?_)
          refine z_iconst (v := 1) C dX6_passOn_100 (by decide) ?_
          refine z_goto (tgt := 105) C dX6_passOn_101 (by decide) ?_
          have he : (f_X6_passOn MB MH MR MW MY Mlo Mhs Mhf Mhp Mrs Mrf Mto Mtb Mfr Mln v) = (1, MHq5, MRq7, MWq5, MYq5, Mlo, Mhsq7, Mhfq7, Mhpq5, Mrsq7, Mrfq7, Mtoq5, Mtbq5) := by simp only [f_X6_passOn, if_neg c_1, if_neg c_2, if_pos c_3, if_pos c_4, hT5, hT7]
          exact hret _ _ _ _ dX6_passOn_105 (by first | rw [he] | rfl) (by first | rw [he] | rfl)
        · skip
          refine z_iload_n C dX6_passOn_77 rfl 1 rfl ?_
          refine z_iconst (v := 2) C dX6_passOn_78 (by decide) ?_
          refine z_icmp_ne (tgt := 106) C dX6_passOn_79 (by decide) (fun c_9 => ?_) (fun c_9 => ?_)
          · skip
            refine z_iload_n C dX6_passOn_106 rfl 1 rfl ?_
            refine z_iconst (v := 3) C dX6_passOn_107 (by decide) ?_
            refine z_icmp_eq (tgt := 116) C dX6_passOn_108 (by decide) (fun c_10 => ?_) (fun c_10 => ?_)
            · skip
              refine z_aload_n C dX6_passOn_116 rfl 0 rfl ?_
              refine z_get (ci := 5) (v := .int Mhf) (Cn := RX6) (T := TX6) (N := 23) C dX6_passOn_117 (fun w h => List.mem_cons_of_mem _ (List.mem_append_right _ h)) 0 rfl rfl 10 (by decide) (List.mem_of_getElem? (i := 1) rfl) rfl rfl ?_
              refine z_if_ne (tgt := 134) C dX6_passOn_120 (by decide) (fun c_11 => ?_) (fun c_11 => ?_)
              · skip
                refine z_aload_n C dX6_passOn_134 rfl 0 rfl ?_
                refine z_callVv (n := 0) (isC := [0, 1, 2, 3, 4, 5, 6]) (isR := []) (isP := [0, 1, 2, 3, 4, 5, 6]) (As := []) (rest := []) (wr := []) (ws2 := [(M, .inr (5, [.int Mft, .int Msz, .int Mal, .ref ab, .int Mbs, .ref au, .int Mpl, .int Mbg, .int Mlo, .int ((f_X6_take MB MH Mhs Mfr Mln).2), .int Mhf, .ref ah, .int Mhp, .int Mrs, .int Mrf, .ref ar, .int Mto, .int Mtb, .ref aw, .ref ay, .int Mfr, .int Mln, .int Mhb])), (ab, .inl (g.2.2.1, 4096, .inl MB)), (au, .inl (g.2.2.1, 400, .inl MU)), (ah, .inl (g.2.2.1, 4096, .inl ((f_X6_take MB MH Mhs Mfr Mln).1))), (ar, .inl (g.2.2.1, 4096, .inl MR)), (aw, .inl (g.2.2.1, 100, .inl MW)), (ay, .inl (g.2.2.1, 100, .inl MY))]) C dX6_passOn_135 (c_X6_take (zl X) g M ab au ah ar aw ay MB MU MH MR MW MY Mft Msz Mal Mbs Mpl Mbg Mlo Mhs Mhf Mhp Mrs Mrf Mto Mtb Mfr Mln Mhb (zpo_3 hk c_1 c_2).2.1 (zpo_3 hk c_1 c_2).1) gX6_passOn_X6_take rfl ⟨rfl, rfl⟩ (by decide +kernel) (by decide) (by decide) rfl rfl rfl rfl (Nat.le_of_ble_eq_true rfl) rfl rfl ⟨rfl, rfl, rfl⟩ (by decide) rfl ?_
                generalize hT12 : (f_X6_take MB MH Mhs Mfr Mln) = T12
                obtain ⟨MHq12, Mhsq12⟩ := T12
                have k12_Mhs : zok 4096 Mhsq12 := zok_X6_take (zpo_3 hk c_1 c_2).2.1 (zpo_3 hk c_1 c_2).1 hT12
                refine z_iload_n C dX6_passOn_138 rfl 1 rfl ?_
                refine z_iconst (v := 4) C dX6_passOn_139 (by decide) ?_
                refine z_icmp_ne (tgt := 147) C dX6_passOn_140 (by decide) (fun c_13 => ?_) (fun c_13 => ?_)
                · skip
                  refine z_iload_n C dX6_passOn_147 rfl 1 rfl ?_
                  refine z_iconst (v := 4) C dX6_passOn_148 (by decide) ?_
                  refine z_icmp_ne (tgt := 156) C dX6_passOn_149 (by decide) (fun c_14 => ?_) (fun c_14 => absurd c_14 c_13)
                  refine z_iconst (v := 0) C dX6_passOn_156 (by decide) ?_
                  have he : (f_X6_passOn MB MH MR MW MY Mlo Mhs Mhf Mhp Mrs Mrf Mto Mtb Mfr Mln v) = (0, MHq12, MR, MW, MY, Mlo, Mhsq12, Mhf, Mhp, Mrs, Mrf, Mto, Mtb) := by simp only [f_X6_passOn, if_neg c_1, if_neg c_2, if_pos c_3, if_neg c_4, if_neg c_9, if_pos c_10, if_neg c_11, hT12, if_neg c_13]
                  exact hret _ _ _ _ dX6_passOn_157 (by first | rw [he] | rfl) (by first | rw [he] | rfl)
                · skip
                  refine z_aload_n C dX6_passOn_143 rfl 0 rfl ?_
                  refine z_callVv (n := 0) (isC := [0, 1, 2, 3, 4, 5, 6]) (isR := []) (isP := [0, 1, 2, 3, 4, 5, 6]) (As := []) (rest := []) (wr := []) (ws2 := [(M, .inr (5, [.int Mft, .int Msz, .int Mal, .ref ab, .int Mbs, .ref au, .int Mpl, .int Mbg, .int Mlo, .int ((f_X6_finish MHq12 MR Mhsq12 Mhp).2.1), .int ((f_X6_finish MHq12 MR Mhsq12 Mhp).2.2.1), .ref ah, .int Mhp, .int ((f_X6_finish MHq12 MR Mhsq12 Mhp).2.2.2.1), .int ((f_X6_finish MHq12 MR Mhsq12 Mhp).2.2.2.2), .ref ar, .int Mto, .int Mtb, .ref aw, .ref ay, .int Mfr, .int Mln, .int Mhb])), (ab, .inl (g.2.2.1, 4096, .inl MB)), (au, .inl (g.2.2.1, 400, .inl MU)), (ah, .inl (g.2.2.1, 4096, .inl MHq12)), (ar, .inl (g.2.2.1, 4096, .inl ((f_X6_finish MHq12 MR Mhsq12 Mhp).1))), (aw, .inl (g.2.2.1, 100, .inl MW)), (ay, .inl (g.2.2.1, 100, .inl MY))]) C dX6_passOn_144 (c_X6_finish (zl X) g M ab au ah ar aw ay MB MU MHq12 MR MW MY Mft Msz Mal Mbs Mpl Mbg Mlo Mhsq12 Mhf Mhp Mrs Mrf Mto Mtb Mfr Mln Mhb k12_Mhs) gX6_passOn_X6_finish rfl ⟨rfl, rfl⟩ (by decide +kernel) (by decide) (by decide) rfl rfl rfl rfl (Nat.le_of_ble_eq_true rfl) rfl rfl ⟨rfl, rfl, rfl⟩ (by decide) rfl ?_
                  generalize hT15 : (f_X6_finish MHq12 MR Mhsq12 Mhp) = T15
                  obtain ⟨MRq15, Mhsq15, Mhfq15, Mrsq15, Mrfq15⟩ := T15
                  refine z_iload_n C dX6_passOn_147 rfl 1 rfl ?_
                  refine z_iconst (v := 4) C dX6_passOn_148 (by decide) ?_
                  refine z_icmp_ne (tgt := 156) C dX6_passOn_149 (by decide) (fun c_16 => absurd c_13 c_16) (fun c_16 => ?_)
                  refine z_iconst (v := 1) C dX6_passOn_152 (by decide) ?_
                  refine z_goto (tgt := 157) C dX6_passOn_153 (by decide) ?_
                  have he : (f_X6_passOn MB MH MR MW MY Mlo Mhs Mhf Mhp Mrs Mrf Mto Mtb Mfr Mln v) = (1, MHq12, MRq15, MW, MY, Mlo, Mhsq15, Mhfq15, Mhp, Mrsq15, Mrfq15, Mto, Mtb) := by simp only [f_X6_passOn, if_neg c_1, if_neg c_2, if_pos c_3, if_neg c_4, if_neg c_9, if_pos c_10, if_neg c_11, hT12, if_pos c_13, hT15]
                  exact hret _ _ _ _ dX6_passOn_157 (by first | rw [he] | rfl) (by first | rw [he] | rfl)
              · skip
                refine z_aload_n C dX6_passOn_123 rfl 0 rfl ?_
                refine z_iconst (v := 5) C dX6_passOn_124 (by decide) ?_
                refine z_aload_n C dX6_passOn_125 rfl 0 rfl ?_
                refine z_get (ci := 5) (v := .int Mln) (Cn := RX6) (T := TX6) (N := 23) C dX6_passOn_126 (fun w h => List.mem_cons_of_mem _ (List.mem_append_right _ h)) 0 rfl rfl 21 (by decide) (List.mem_of_getElem? (i := 4) rfl) rfl rfl ?_
                refine z_callVv (n := 2) (isC := [0, 1, 2, 3, 4, 5, 6]) (isR := []) (isP := [0, 1, 2, 3, 4, 5, 6]) (As := [.int 5, .int Mln]) (rest := []) (wr := []) (ws2 := [(M, .inr (5, [.int Mft, .int Msz, .int Mal, .ref ab, .int Mbs, .ref au, .int Mpl, .int Mbg, .int Mlo, .int Mhs, .int Mhf, .ref ah, .int Mhp, .int Mrs, .int Mrf, .ref ar, .int ((f_X6_tell MW MY Mto Mtb 5 Mln).2.2.1), .int ((f_X6_tell MW MY Mto Mtb 5 Mln).2.2.2), .ref aw, .ref ay, .int Mfr, .int Mln, .int Mhb])), (ab, .inl (g.2.2.1, 4096, .inl MB)), (au, .inl (g.2.2.1, 400, .inl MU)), (ah, .inl (g.2.2.1, 4096, .inl MH)), (ar, .inl (g.2.2.1, 4096, .inl MR)), (aw, .inl (g.2.2.1, 100, .inl ((f_X6_tell MW MY Mto Mtb 5 Mln).1))), (ay, .inl (g.2.2.1, 100, .inl ((f_X6_tell MW MY Mto Mtb 5 Mln).2.1)))]) C dX6_passOn_129 (c_X6_tell (zl X) g M ab au ah ar aw ay MB MU MH MR MW MY Mft Msz Mal Mbs Mpl Mbg Mlo Mhs Mhf Mhp Mrs Mrf Mto Mtb Mfr Mln Mhb 5 Mln ht) gX6_passOn_X6_tell rfl ⟨rfl, rfl⟩ (by decide +kernel) (by decide) (by decide) rfl rfl rfl rfl (Nat.le_of_ble_eq_true rfl) rfl rfl ⟨rfl, rfl, rfl⟩ (by decide) rfl ?_
                generalize hT17 : (f_X6_tell MW MY Mto Mtb 5 Mln) = T17
                obtain ⟨MWq17, MYq17, Mtoq17, Mtbq17⟩ := T17
                have k17_Mto : zdok (0) Mtoq17 := zdok_X6_tell (zdok_le ht (by omega)) hT17
                refine z_iconst (v := 0) C dX6_passOn_132 (by decide) ?_
                have he : (f_X6_passOn MB MH MR MW MY Mlo Mhs Mhf Mhp Mrs Mrf Mto Mtb Mfr Mln v) = (0, MH, MR, MWq17, MYq17, Mlo, Mhs, Mhf, Mhp, Mrs, Mrf, Mtoq17, Mtbq17) := by simp only [f_X6_passOn, if_neg c_1, if_neg c_2, if_pos c_3, if_neg c_4, if_neg c_9, if_pos c_10, if_pos c_11, hT17]
                exact hret _ _ _ _ dX6_passOn_133 (by first | rw [he] | rfl) (by first | rw [he] | rfl)
            · skip
              refine z_iload_n C dX6_passOn_111 rfl 1 rfl ?_
              refine z_iconst (v := 4) C dX6_passOn_112 (by decide) ?_
              refine z_icmp_ne (tgt := 158) C dX6_passOn_113 (by decide) (fun c_18 => ?_) (fun c_18 => ?_)
              · skip
                refine z_aload_n C dX6_passOn_158 rfl 0 rfl ?_
                refine z_bipush (v := 6) C dX6_passOn_159 (by decide) ?_
                refine z_aload_n C dX6_passOn_161 rfl 0 rfl ?_
                refine z_get (ci := 5) (v := .int Mln) (Cn := RX6) (T := TX6) (N := 23) C dX6_passOn_162 (fun w h => List.mem_cons_of_mem _ (List.mem_append_right _ h)) 0 rfl rfl 21 (by decide) (List.mem_of_getElem? (i := 4) rfl) rfl rfl ?_
                refine z_aload_n C dX6_passOn_165 rfl 0 rfl ?_
                refine z_get (ci := 5) (v := .int Mhs) (Cn := RX6) (T := TX6) (N := 23) C dX6_passOn_166 (fun w h => List.mem_cons_of_mem _ (List.mem_append_right _ h)) 0 rfl rfl 9 (by decide) (List.mem_of_getElem? (i := 2) rfl) rfl rfl ?_
                refine z_iadd C dX6_passOn_169 ?_
                refine z_callVv (n := 2) (isC := [0, 1, 2, 3, 4, 5, 6]) (isR := []) (isP := [0, 1, 2, 3, 4, 5, 6]) (As := [.int 6, .int (Mln + Mhs)]) (rest := []) (wr := []) (ws2 := [(M, .inr (5, [.int Mft, .int Msz, .int Mal, .ref ab, .int Mbs, .ref au, .int Mpl, .int Mbg, .int Mlo, .int Mhs, .int Mhf, .ref ah, .int Mhp, .int Mrs, .int Mrf, .ref ar, .int ((f_X6_tell MW MY Mto Mtb 6 (Mln + Mhs)).2.2.1), .int ((f_X6_tell MW MY Mto Mtb 6 (Mln + Mhs)).2.2.2), .ref aw, .ref ay, .int Mfr, .int Mln, .int Mhb])), (ab, .inl (g.2.2.1, 4096, .inl MB)), (au, .inl (g.2.2.1, 400, .inl MU)), (ah, .inl (g.2.2.1, 4096, .inl MH)), (ar, .inl (g.2.2.1, 4096, .inl MR)), (aw, .inl (g.2.2.1, 100, .inl ((f_X6_tell MW MY Mto Mtb 6 (Mln + Mhs)).1))), (ay, .inl (g.2.2.1, 100, .inl ((f_X6_tell MW MY Mto Mtb 6 (Mln + Mhs)).2.1)))]) C dX6_passOn_170 (c_X6_tell (zl X) g M ab au ah ar aw ay MB MU MH MR MW MY Mft Msz Mal Mbs Mpl Mbg Mlo Mhs Mhf Mhp Mrs Mrf Mto Mtb Mfr Mln Mhb 6 (Mln + Mhs) ht) gX6_passOn_X6_tell rfl ⟨rfl, rfl⟩ (by decide +kernel) (by decide) (by decide) rfl rfl rfl rfl (Nat.le_of_ble_eq_true rfl) rfl rfl ⟨rfl, rfl, rfl⟩ (by decide) rfl ?_
                generalize hT19 : (f_X6_tell MW MY Mto Mtb 6 (Mln + Mhs)) = T19
                obtain ⟨MWq19, MYq19, Mtoq19, Mtbq19⟩ := T19
                have k19_Mto : zdok (0) Mtoq19 := zdok_X6_tell (zdok_le ht (by omega)) hT19
                refine z_aload_n C dX6_passOn_173 rfl 0 rfl ?_
                refine z_callVv (n := 0) (isC := [0, 1, 2, 3, 4, 5, 6]) (isR := []) (isP := [0, 1, 2, 3, 4, 5, 6]) (As := []) (rest := []) (wr := []) (ws2 := [(M, .inr (5, [.int Mft, .int Msz, .int Mal, .ref ab, .int Mbs, .ref au, .int Mpl, .int Mbg, .int Mlo, .int 0, .int 0, .ref ah, .int Mhp, .int Mrs, .int Mrf, .ref ar, .int Mtoq19, .int Mtbq19, .ref aw, .ref ay, .int Mfr, .int Mln, .int Mhb])), (ab, .inl (g.2.2.1, 4096, .inl MB)), (au, .inl (g.2.2.1, 400, .inl MU)), (ah, .inl (g.2.2.1, 4096, .inl MH)), (ar, .inl (g.2.2.1, 4096, .inl MR)), (aw, .inl (g.2.2.1, 100, .inl MWq19)), (ay, .inl (g.2.2.1, 100, .inl MYq19))]) C dX6_passOn_174 (c_X6_drop (zl X) g M ab au ah ar aw ay MB MU MH MR MWq19 MYq19 Mft Msz Mal Mbs Mpl Mbg Mlo Mhs Mhf Mhp Mrs Mrf Mtoq19 Mtbq19 Mfr Mln Mhb) gX6_passOn_X6_drop rfl ⟨rfl, rfl⟩ (by decide +kernel) (by decide) (by decide) rfl rfl rfl rfl (Nat.le_of_ble_eq_true rfl) rfl rfl ⟨rfl, rfl, rfl⟩ (by decide) rfl ?_
                refine z_iconst (v := 0) C dX6_passOn_177 (by decide) ?_
                have he : (f_X6_passOn MB MH MR MW MY Mlo Mhs Mhf Mhp Mrs Mrf Mto Mtb Mfr Mln v) = (0, MH, MR, MWq19, MYq19, Mlo, 0, 0, Mhp, Mrs, Mrf, Mtoq19, Mtbq19) := by simp only [f_X6_passOn, if_neg c_1, if_neg c_2, if_pos c_3, if_neg c_4, if_neg c_9, if_neg c_10, if_neg c_18, hT19]
                exact hret _ _ _ _ dX6_passOn_178 (by first | rw [he] | rfl) (by first | rw [he] | rfl)
              · skip
                refine z_aload_n C dX6_passOn_116 rfl 0 rfl ?_
                refine z_get (ci := 5) (v := .int Mhf) (Cn := RX6) (T := TX6) (N := 23) C dX6_passOn_117 (fun w h => List.mem_cons_of_mem _ (List.mem_append_right _ h)) 0 rfl rfl 10 (by decide) (List.mem_of_getElem? (i := 1) rfl) rfl rfl ?_
                refine z_if_ne (tgt := 134) C dX6_passOn_120 (by decide) (fun c_21 => ?_) (fun c_21 => ?_)
                · skip
                  refine z_aload_n C dX6_passOn_134 rfl 0 rfl ?_
                  refine z_callVv (n := 0) (isC := [0, 1, 2, 3, 4, 5, 6]) (isR := []) (isP := [0, 1, 2, 3, 4, 5, 6]) (As := []) (rest := []) (wr := []) (ws2 := [(M, .inr (5, [.int Mft, .int Msz, .int Mal, .ref ab, .int Mbs, .ref au, .int Mpl, .int Mbg, .int Mlo, .int ((f_X6_take MB MH Mhs Mfr Mln).2), .int Mhf, .ref ah, .int Mhp, .int Mrs, .int Mrf, .ref ar, .int Mto, .int Mtb, .ref aw, .ref ay, .int Mfr, .int Mln, .int Mhb])), (ab, .inl (g.2.2.1, 4096, .inl MB)), (au, .inl (g.2.2.1, 400, .inl MU)), (ah, .inl (g.2.2.1, 4096, .inl ((f_X6_take MB MH Mhs Mfr Mln).1))), (ar, .inl (g.2.2.1, 4096, .inl MR)), (aw, .inl (g.2.2.1, 100, .inl MW)), (ay, .inl (g.2.2.1, 100, .inl MY))]) C dX6_passOn_135 (c_X6_take (zl X) g M ab au ah ar aw ay MB MU MH MR MW MY Mft Msz Mal Mbs Mpl Mbg Mlo Mhs Mhf Mhp Mrs Mrf Mto Mtb Mfr Mln Mhb (zpo_3 hk c_1 c_2).2.1 (zpo_3 hk c_1 c_2).1) gX6_passOn_X6_take rfl ⟨rfl, rfl⟩ (by decide +kernel) (by decide) (by decide) rfl rfl rfl rfl (Nat.le_of_ble_eq_true rfl) rfl rfl ⟨rfl, rfl, rfl⟩ (by decide) rfl ?_
                  generalize hT22 : (f_X6_take MB MH Mhs Mfr Mln) = T22
                  obtain ⟨MHq22, Mhsq22⟩ := T22
                  have k22_Mhs : zok 4096 Mhsq22 := zok_X6_take (zpo_3 hk c_1 c_2).2.1 (zpo_3 hk c_1 c_2).1 hT22
                  refine z_iload_n C dX6_passOn_138 rfl 1 rfl ?_
                  refine z_iconst (v := 4) C dX6_passOn_139 (by decide) ?_
                  refine z_icmp_ne (tgt := 147) C dX6_passOn_140 (by decide) (fun c_23 => absurd c_18 c_23) (fun c_23 => ?_)
                  refine z_aload_n C dX6_passOn_143 rfl 0 rfl ?_
                  refine z_callVv (n := 0) (isC := [0, 1, 2, 3, 4, 5, 6]) (isR := []) (isP := [0, 1, 2, 3, 4, 5, 6]) (As := []) (rest := []) (wr := []) (ws2 := [(M, .inr (5, [.int Mft, .int Msz, .int Mal, .ref ab, .int Mbs, .ref au, .int Mpl, .int Mbg, .int Mlo, .int ((f_X6_finish MHq22 MR Mhsq22 Mhp).2.1), .int ((f_X6_finish MHq22 MR Mhsq22 Mhp).2.2.1), .ref ah, .int Mhp, .int ((f_X6_finish MHq22 MR Mhsq22 Mhp).2.2.2.1), .int ((f_X6_finish MHq22 MR Mhsq22 Mhp).2.2.2.2), .ref ar, .int Mto, .int Mtb, .ref aw, .ref ay, .int Mfr, .int Mln, .int Mhb])), (ab, .inl (g.2.2.1, 4096, .inl MB)), (au, .inl (g.2.2.1, 400, .inl MU)), (ah, .inl (g.2.2.1, 4096, .inl MHq22)), (ar, .inl (g.2.2.1, 4096, .inl ((f_X6_finish MHq22 MR Mhsq22 Mhp).1))), (aw, .inl (g.2.2.1, 100, .inl MW)), (ay, .inl (g.2.2.1, 100, .inl MY))]) C dX6_passOn_144 (c_X6_finish (zl X) g M ab au ah ar aw ay MB MU MHq22 MR MW MY Mft Msz Mal Mbs Mpl Mbg Mlo Mhsq22 Mhf Mhp Mrs Mrf Mto Mtb Mfr Mln Mhb k22_Mhs) gX6_passOn_X6_finish rfl ⟨rfl, rfl⟩ (by decide +kernel) (by decide) (by decide) rfl rfl rfl rfl (Nat.le_of_ble_eq_true rfl) rfl rfl ⟨rfl, rfl, rfl⟩ (by decide) rfl ?_
                  generalize hT24 : (f_X6_finish MHq22 MR Mhsq22 Mhp) = T24
                  obtain ⟨MRq24, Mhsq24, Mhfq24, Mrsq24, Mrfq24⟩ := T24
                  refine z_iload_n C dX6_passOn_147 rfl 1 rfl ?_
                  refine z_iconst (v := 4) C dX6_passOn_148 (by decide) ?_
                  refine z_icmp_ne (tgt := 156) C dX6_passOn_149 (by decide) (fun c_25 => absurd c_18 c_25) (fun c_25 => ?_)
                  refine z_iconst (v := 1) C dX6_passOn_152 (by decide) ?_
                  refine z_goto (tgt := 157) C dX6_passOn_153 (by decide) ?_
                  have he : (f_X6_passOn MB MH MR MW MY Mlo Mhs Mhf Mhp Mrs Mrf Mto Mtb Mfr Mln v) = (1, MHq22, MRq24, MW, MY, Mlo, Mhsq24, Mhfq24, Mhp, Mrsq24, Mrfq24, Mto, Mtb) := by simp only [f_X6_passOn, if_neg c_1, if_neg c_2, if_pos c_3, if_neg c_4, if_neg c_9, if_neg c_10, if_pos c_18, if_neg c_21, hT22, hT24]
                  exact hret _ _ _ _ dX6_passOn_157 (by first | rw [he] | rfl) (by first | rw [he] | rfl)
                · skip
                  refine z_aload_n C dX6_passOn_123 rfl 0 rfl ?_
                  refine z_iconst (v := 5) C dX6_passOn_124 (by decide) ?_
                  refine z_aload_n C dX6_passOn_125 rfl 0 rfl ?_
                  refine z_get (ci := 5) (v := .int Mln) (Cn := RX6) (T := TX6) (N := 23) C dX6_passOn_126 (fun w h => List.mem_cons_of_mem _ (List.mem_append_right _ h)) 0 rfl rfl 21 (by decide) (List.mem_of_getElem? (i := 4) rfl) rfl rfl ?_
                  refine z_callVv (n := 2) (isC := [0, 1, 2, 3, 4, 5, 6]) (isR := []) (isP := [0, 1, 2, 3, 4, 5, 6]) (As := [.int 5, .int Mln]) (rest := []) (wr := []) (ws2 := [(M, .inr (5, [.int Mft, .int Msz, .int Mal, .ref ab, .int Mbs, .ref au, .int Mpl, .int Mbg, .int Mlo, .int Mhs, .int Mhf, .ref ah, .int Mhp, .int Mrs, .int Mrf, .ref ar, .int ((f_X6_tell MW MY Mto Mtb 5 Mln).2.2.1), .int ((f_X6_tell MW MY Mto Mtb 5 Mln).2.2.2), .ref aw, .ref ay, .int Mfr, .int Mln, .int Mhb])), (ab, .inl (g.2.2.1, 4096, .inl MB)), (au, .inl (g.2.2.1, 400, .inl MU)), (ah, .inl (g.2.2.1, 4096, .inl MH)), (ar, .inl (g.2.2.1, 4096, .inl MR)), (aw, .inl (g.2.2.1, 100, .inl ((f_X6_tell MW MY Mto Mtb 5 Mln).1))), (ay, .inl (g.2.2.1, 100, .inl ((f_X6_tell MW MY Mto Mtb 5 Mln).2.1)))]) C dX6_passOn_129 (c_X6_tell (zl X) g M ab au ah ar aw ay MB MU MH MR MW MY Mft Msz Mal Mbs Mpl Mbg Mlo Mhs Mhf Mhp Mrs Mrf Mto Mtb Mfr Mln Mhb 5 Mln ht) gX6_passOn_X6_tell rfl ⟨rfl, rfl⟩ (by decide +kernel) (by decide) (by decide) rfl rfl rfl rfl (Nat.le_of_ble_eq_true rfl) rfl rfl ⟨rfl, rfl, rfl⟩ (by decide) rfl ?_
                  generalize hT26 : (f_X6_tell MW MY Mto Mtb 5 Mln) = T26
                  obtain ⟨MWq26, MYq26, Mtoq26, Mtbq26⟩ := T26
                  have k26_Mto : zdok (0) Mtoq26 := zdok_X6_tell (zdok_le ht (by omega)) hT26
                  refine z_iconst (v := 0) C dX6_passOn_132 (by decide) ?_
                  have he : (f_X6_passOn MB MH MR MW MY Mlo Mhs Mhf Mhp Mrs Mrf Mto Mtb Mfr Mln v) = (0, MH, MR, MWq26, MYq26, Mlo, Mhs, Mhf, Mhp, Mrs, Mrf, Mtoq26, Mtbq26) := by simp only [f_X6_passOn, if_neg c_1, if_neg c_2, if_pos c_3, if_neg c_4, if_neg c_9, if_neg c_10, if_pos c_18, if_pos c_21, hT26]
                  exact hret _ _ _ _ dX6_passOn_133 (by first | rw [he] | rfl) (by first | rw [he] | rfl)
          · skip
            refine z_aload_n C dX6_passOn_82 rfl 0 rfl ?_
            refine z_callVv (n := 0) (isC := [0, 1, 2, 3, 4, 5, 6]) (isR := []) (isP := [0, 1, 2, 3, 4, 5, 6]) (As := []) (rest := []) (wr := []) (ws2 := [(M, .inr (5, [.int Mft, .int Msz, .int Mal, .ref ab, .int Mbs, .ref au, .int Mpl, .int Mbg, .int Mlo, .int ((f_X6_start MB MH MW MY Mhs Mhf Mto Mtb Mfr Mln).2.2.2.1), .int ((f_X6_start MB MH MW MY Mhs Mhf Mto Mtb Mfr Mln).2.2.2.2.1), .ref ah, .int ((f_X6_start MB MH MW MY Mhs Mhf Mto Mtb Mfr Mln).2.2.2.2.2.1), .int Mrs, .int Mrf, .ref ar, .int ((f_X6_start MB MH MW MY Mhs Mhf Mto Mtb Mfr Mln).2.2.2.2.2.2.1), .int ((f_X6_start MB MH MW MY Mhs Mhf Mto Mtb Mfr Mln).2.2.2.2.2.2.2), .ref aw, .ref ay, .int Mfr, .int Mln, .int Mhb])), (ab, .inl (g.2.2.1, 4096, .inl MB)), (au, .inl (g.2.2.1, 400, .inl MU)), (ah, .inl (g.2.2.1, 4096, .inl ((f_X6_start MB MH MW MY Mhs Mhf Mto Mtb Mfr Mln).1))), (ar, .inl (g.2.2.1, 4096, .inl MR)), (aw, .inl (g.2.2.1, 100, .inl ((f_X6_start MB MH MW MY Mhs Mhf Mto Mtb Mfr Mln).2.1))), (ay, .inl (g.2.2.1, 100, .inl ((f_X6_start MB MH MW MY Mhs Mhf Mto Mtb Mfr Mln).2.2.1)))]) C dX6_passOn_83 (c_X6_start (zl X) g M ab au ah ar aw ay MB MU MH MR MW MY Mft Msz Mal Mbs Mpl Mbg Mlo Mhs Mhf Mhp Mrs Mrf Mto Mtb Mfr Mln Mhb ht (zpo_3 hk c_1 c_2).2.2 (zpo_3 hk c_1 c_2).1) gX6_passOn_X6_start rfl ⟨rfl, rfl⟩ (by decide +kernel) (by decide) (by decide) rfl rfl rfl rfl (Nat.le_of_ble_eq_true rfl) rfl rfl ⟨rfl, rfl, rfl⟩ (by decide) rfl ?_
            generalize hT27 : (f_X6_start MB MH MW MY Mhs Mhf Mto Mtb Mfr Mln) = T27
            obtain ⟨MHq27, MWq27, MYq27, Mhsq27, Mhfq27, Mhpq27, Mtoq27, Mtbq27⟩ := T27
            have k27_Mhs : zok 4096 Mhsq27 := zok_X6_start ht (zpo_3 hk c_1 c_2).2.2 (zpo_3 hk c_1 c_2).1 hT27
            have k27_Mto : zdok (0) Mtoq27 := zdok_X6_start (zdok_le ht (by omega)) hT27
            refine z_iload_n C dX6_passOn_86 rfl 1 rfl ?_
            refine z_iconst (v := 1) C dX6_passOn_87 (by decide) ?_
            refine z_icmp_ne (tgt := 95) C dX6_passOn_88 (by decide) (fun c_28 => ?_) (fun c_28 => absurd c_28 c_4)
            refine z_iload_n C dX6_passOn_95 rfl 1 rfl ?_
            refine z_iconst (v := 1) C dX6_passOn_96 (by decide) ?_
            refine z_icmp_ne (tgt := 104) C dX6_passOn_97 (by decide) (fun c_29 => ?_) (fun c_29 => absurd c_29 c_4)
            refine z_iconst (v := 0) C dX6_passOn_104 (by decide) ?_
            have he : (f_X6_passOn MB MH MR MW MY Mlo Mhs Mhf Mhp Mrs Mrf Mto Mtb Mfr Mln v) = (0, MHq27, MR, MWq27, MYq27, Mlo, Mhsq27, Mhfq27, Mhpq27, Mrs, Mrf, Mtoq27, Mtbq27) := by simp only [f_X6_passOn, if_neg c_1, if_neg c_2, if_pos c_3, if_neg c_4, if_pos c_9, hT27]
            exact hret _ _ _ _ dX6_passOn_105 (by first | rw [he] | rfl) (by first | rw [he] | rfl)
      · skip
        refine z_aload_n C dX6_passOn_46 rfl 0 rfl ?_
        refine z_iload_n C dX6_passOn_47 rfl 1 rfl ?_
        refine z_iconst (v := 3) C dX6_passOn_48 (by decide) ?_
        refine z_icmp_ne (tgt := 56) C dX6_passOn_49 (by decide) (fun c_30 => ?_) (fun c_30 => ?_)
        · skip
          refine z_iconst (v := 0) C dX6_passOn_56 (by decide) ?_
          refine z_put (ci := 5) (v := .int 0) (ty := .boolean) (Cn := RX6) (T := TX6) (N := 23) (ws' := [(M, .inr (5, [.int Mft, .int Msz, .int Mal, .ref ab, .int Mbs, .ref au, .int Mpl, .int Mbg, .int 0, .int Mhs, .int Mhf, .ref ah, .int Mhp, .int Mrs, .int Mrf, .ref ar, .int Mto, .int Mtb, .ref aw, .ref ay, .int Mfr, .int Mln, .int Mhb])), (ab, .inl (g.2.2.1, 4096, .inl MB)), (au, .inl (g.2.2.1, 400, .inl MU)), (ah, .inl (g.2.2.1, 4096, .inl MH)), (ar, .inl (g.2.2.1, 4096, .inl MR)), (aw, .inl (g.2.2.1, 100, .inl MW)), (ay, .inl (g.2.2.1, 100, .inl MY))]) C dX6_passOn_57 (fun w h => List.mem_cons_of_mem _ (List.mem_append_right _ h)) tyX6 tyX6_ok nmX6 0 rfl rfl 8 (by decide) (List.mem_of_getElem? (i := 3) rfl) rfl rfl (by decide +kernel) rfl rfl (Nat.le_of_ble_eq_true rfl) rfl ?_
          refine z_iload_n C dX6_passOn_60 rfl 1 rfl ?_
          refine z_iconst (v := 3) C dX6_passOn_61 (by decide) ?_
          refine z_icmp_eq (tgt := 70) C dX6_passOn_62 (by decide) (fun c_31 => absurd c_31 c_30) (fun c_31 => ?_)
          refine z_iload_n C dX6_passOn_65 rfl 1 rfl ?_
          refine z_iconst (v := 4) C dX6_passOn_66 (by decide) ?_
          refine z_icmp_ne (tgt := 72) C dX6_passOn_67 (by decide) (fun c_32 => ?_) (fun c_32 => ?_)
          · skip
            refine z_iload_n C dX6_passOn_72 rfl 1 rfl ?_
            refine z_iconst (v := 1) C dX6_passOn_73 (by decide) ?_
            refine z_icmp_eq (tgt := 82) C dX6_passOn_74 (by decide) (fun c_33 => ?_) (fun c_33 => ?_)
            · skip
              refine z_aload_n C dX6_passOn_82 rfl 0 rfl ?_
              refine z_callVv (n := 0) (isC := [0, 1, 2, 3, 4, 5, 6]) (isR := []) (isP := [0, 1, 2, 3, 4, 5, 6]) (As := []) (rest := []) (wr := []) (ws2 := [(M, .inr (5, [.int Mft, .int Msz, .int Mal, .ref ab, .int Mbs, .ref au, .int Mpl, .int Mbg, .int 0, .int ((f_X6_start MB MH MW MY Mhs Mhf Mto Mtb Mfr Mln).2.2.2.1), .int ((f_X6_start MB MH MW MY Mhs Mhf Mto Mtb Mfr Mln).2.2.2.2.1), .ref ah, .int ((f_X6_start MB MH MW MY Mhs Mhf Mto Mtb Mfr Mln).2.2.2.2.2.1), .int Mrs, .int Mrf, .ref ar, .int ((f_X6_start MB MH MW MY Mhs Mhf Mto Mtb Mfr Mln).2.2.2.2.2.2.1), .int ((f_X6_start MB MH MW MY Mhs Mhf Mto Mtb Mfr Mln).2.2.2.2.2.2.2), .ref aw, .ref ay, .int Mfr, .int Mln, .int Mhb])), (ab, .inl (g.2.2.1, 4096, .inl MB)), (au, .inl (g.2.2.1, 400, .inl MU)), (ah, .inl (g.2.2.1, 4096, .inl ((f_X6_start MB MH MW MY Mhs Mhf Mto Mtb Mfr Mln).1))), (ar, .inl (g.2.2.1, 4096, .inl MR)), (aw, .inl (g.2.2.1, 100, .inl ((f_X6_start MB MH MW MY Mhs Mhf Mto Mtb Mfr Mln).2.1))), (ay, .inl (g.2.2.1, 100, .inl ((f_X6_start MB MH MW MY Mhs Mhf Mto Mtb Mfr Mln).2.2.1)))]) C dX6_passOn_83 (c_X6_start (zl X) g M ab au ah ar aw ay MB MU MH MR MW MY Mft Msz Mal Mbs Mpl Mbg 0 Mhs Mhf Mhp Mrs Mrf Mto Mtb Mfr Mln Mhb ht (zpo_3 hk c_1 c_2).2.2 (zpo_3 hk c_1 c_2).1) gX6_passOn_X6_start rfl ⟨rfl, rfl⟩ (by decide +kernel) (by decide) (by decide) rfl rfl rfl rfl (Nat.le_of_ble_eq_true rfl) rfl rfl ⟨rfl, rfl, rfl⟩ (by decide) rfl ?_
              generalize hT34 : (f_X6_start MB MH MW MY Mhs Mhf Mto Mtb Mfr Mln) = T34
              obtain ⟨MHq34, MWq34, MYq34, Mhsq34, Mhfq34, Mhpq34, Mtoq34, Mtbq34⟩ := T34
              have k34_Mhs : zok 4096 Mhsq34 := zok_X6_start ht (zpo_3 hk c_1 c_2).2.2 (zpo_3 hk c_1 c_2).1 hT34
              have k34_Mto : zdok (0) Mtoq34 := zdok_X6_start (zdok_le ht (by omega)) hT34
              refine z_iload_n C dX6_passOn_86 rfl 1 rfl ?_
              refine z_iconst (v := 1) C dX6_passOn_87 (by decide) ?_
              refine z_icmp_ne (tgt := 95) C dX6_passOn_88 (by decide) (fun c_35 => absurd c_33 c_35) (fun c_35 => ?_)
              refine z_aload_n C dX6_passOn_91 rfl 0 rfl ?_
              refine z_callVv (n := 0) (isC := [0, 1, 2, 3, 4, 5, 6]) (isR := []) (isP := [0, 1, 2, 3, 4, 5, 6]) (As := []) (rest := []) (wr := []) (ws2 := [(M, .inr (5, [.int Mft, .int Msz, .int Mal, .ref ab, .int Mbs, .ref au, .int Mpl, .int Mbg, .int 0, .int ((f_X6_finish MHq34 MR Mhsq34 Mhpq34).2.1), .int ((f_X6_finish MHq34 MR Mhsq34 Mhpq34).2.2.1), .ref ah, .int Mhpq34, .int ((f_X6_finish MHq34 MR Mhsq34 Mhpq34).2.2.2.1), .int ((f_X6_finish MHq34 MR Mhsq34 Mhpq34).2.2.2.2), .ref ar, .int Mtoq34, .int Mtbq34, .ref aw, .ref ay, .int Mfr, .int Mln, .int Mhb])), (ab, .inl (g.2.2.1, 4096, .inl MB)), (au, .inl (g.2.2.1, 400, .inl MU)), (ah, .inl (g.2.2.1, 4096, .inl MHq34)), (ar, .inl (g.2.2.1, 4096, .inl ((f_X6_finish MHq34 MR Mhsq34 Mhpq34).1))), (aw, .inl (g.2.2.1, 100, .inl MWq34)), (ay, .inl (g.2.2.1, 100, .inl MYq34))]) C dX6_passOn_92 (c_X6_finish (zl X) g M ab au ah ar aw ay MB MU MHq34 MR MWq34 MYq34 Mft Msz Mal Mbs Mpl Mbg 0 Mhsq34 Mhfq34 Mhpq34 Mrs Mrf Mtoq34 Mtbq34 Mfr Mln Mhb k34_Mhs) gX6_passOn_X6_finish rfl ⟨rfl, rfl⟩ (by decide +kernel) (by decide) (by decide) rfl rfl rfl rfl (Nat.le_of_ble_eq_true rfl) rfl rfl ⟨rfl, rfl, rfl⟩ (by decide) rfl ?_
              generalize hT36 : (f_X6_finish MHq34 MR Mhsq34 Mhpq34) = T36
              obtain ⟨MRq36, Mhsq36, Mhfq36, Mrsq36, Mrfq36⟩ := T36
              refine z_iload_n C dX6_passOn_95 rfl 1 rfl ?_
              refine z_iconst (v := 1) C dX6_passOn_96 (by decide) ?_
              refine z_icmp_ne (tgt := 104) C dX6_passOn_97 (by decide) (fun c_37 => absurd c_33 c_37) (fun c_37 => ?_)
              refine z_iconst (v := 1) C dX6_passOn_100 (by decide) ?_
              refine z_goto (tgt := 105) C dX6_passOn_101 (by decide) ?_
              have he : (f_X6_passOn MB MH MR MW MY Mlo Mhs Mhf Mhp Mrs Mrf Mto Mtb Mfr Mln v) = (1, MHq34, MRq36, MWq34, MYq34, 0, Mhsq36, Mhfq36, Mhpq34, Mrsq36, Mrfq36, Mtoq34, Mtbq34) := by simp only [f_X6_passOn, if_neg c_1, if_neg c_2, if_neg c_3, if_neg c_30, if_neg c_32, if_pos c_33, hT34, hT36]
              exact hret _ _ _ _ dX6_passOn_105 (by first | rw [he] | rfl) (by first | rw [he] | rfl)
            · skip
              refine z_iload_n C dX6_passOn_77 rfl 1 rfl ?_
              refine z_iconst (v := 2) C dX6_passOn_78 (by decide) ?_
              refine z_icmp_ne (tgt := 106) C dX6_passOn_79 (by decide) (fun c_38 => ?_) (fun c_38 => ?_)
              · skip
                refine z_iload_n C dX6_passOn_106 rfl 1 rfl ?_
                refine z_iconst (v := 3) C dX6_passOn_107 (by decide) ?_
                refine z_icmp_eq (tgt := 116) C dX6_passOn_108 (by decide) (fun c_39 => absurd c_39 c_30) (fun c_39 => ?_)
                refine z_iload_n C dX6_passOn_111 rfl 1 rfl ?_
                refine z_iconst (v := 4) C dX6_passOn_112 (by decide) ?_
                refine z_icmp_ne (tgt := 158) C dX6_passOn_113 (by decide) (fun c_40 => ?_) (fun c_40 => absurd c_40 c_32)
                refine z_aload_n C dX6_passOn_158 rfl 0 rfl ?_
                refine z_bipush (v := 6) C dX6_passOn_159 (by decide) ?_
                refine z_aload_n C dX6_passOn_161 rfl 0 rfl ?_
                refine z_get (ci := 5) (v := .int Mln) (Cn := RX6) (T := TX6) (N := 23) C dX6_passOn_162 (fun w h => List.mem_cons_of_mem _ (List.mem_append_right _ h)) 0 rfl rfl 21 (by decide) (List.mem_of_getElem? (i := 4) rfl) rfl rfl ?_
                refine z_aload_n C dX6_passOn_165 rfl 0 rfl ?_
                refine z_get (ci := 5) (v := .int Mhs) (Cn := RX6) (T := TX6) (N := 23) C dX6_passOn_166 (fun w h => List.mem_cons_of_mem _ (List.mem_append_right _ h)) 0 rfl rfl 9 (by decide) (List.mem_of_getElem? (i := 2) rfl) rfl rfl ?_
                refine z_iadd C dX6_passOn_169 ?_
                refine z_callVv (n := 2) (isC := [0, 1, 2, 3, 4, 5, 6]) (isR := []) (isP := [0, 1, 2, 3, 4, 5, 6]) (As := [.int 6, .int (Mln + Mhs)]) (rest := []) (wr := []) (ws2 := [(M, .inr (5, [.int Mft, .int Msz, .int Mal, .ref ab, .int Mbs, .ref au, .int Mpl, .int Mbg, .int 0, .int Mhs, .int Mhf, .ref ah, .int Mhp, .int Mrs, .int Mrf, .ref ar, .int ((f_X6_tell MW MY Mto Mtb 6 (Mln + Mhs)).2.2.1), .int ((f_X6_tell MW MY Mto Mtb 6 (Mln + Mhs)).2.2.2), .ref aw, .ref ay, .int Mfr, .int Mln, .int Mhb])), (ab, .inl (g.2.2.1, 4096, .inl MB)), (au, .inl (g.2.2.1, 400, .inl MU)), (ah, .inl (g.2.2.1, 4096, .inl MH)), (ar, .inl (g.2.2.1, 4096, .inl MR)), (aw, .inl (g.2.2.1, 100, .inl ((f_X6_tell MW MY Mto Mtb 6 (Mln + Mhs)).1))), (ay, .inl (g.2.2.1, 100, .inl ((f_X6_tell MW MY Mto Mtb 6 (Mln + Mhs)).2.1)))]) C dX6_passOn_170 (c_X6_tell (zl X) g M ab au ah ar aw ay MB MU MH MR MW MY Mft Msz Mal Mbs Mpl Mbg 0 Mhs Mhf Mhp Mrs Mrf Mto Mtb Mfr Mln Mhb 6 (Mln + Mhs) ht) gX6_passOn_X6_tell rfl ⟨rfl, rfl⟩ (by decide +kernel) (by decide) (by decide) rfl rfl rfl rfl (Nat.le_of_ble_eq_true rfl) rfl rfl ⟨rfl, rfl, rfl⟩ (by decide) rfl ?_
                generalize hT41 : (f_X6_tell MW MY Mto Mtb 6 (Mln + Mhs)) = T41
                obtain ⟨MWq41, MYq41, Mtoq41, Mtbq41⟩ := T41
                have k41_Mto : zdok (0) Mtoq41 := zdok_X6_tell (zdok_le ht (by omega)) hT41
                refine z_aload_n C dX6_passOn_173 rfl 0 rfl ?_
                refine z_callVv (n := 0) (isC := [0, 1, 2, 3, 4, 5, 6]) (isR := []) (isP := [0, 1, 2, 3, 4, 5, 6]) (As := []) (rest := []) (wr := []) (ws2 := [(M, .inr (5, [.int Mft, .int Msz, .int Mal, .ref ab, .int Mbs, .ref au, .int Mpl, .int Mbg, .int 0, .int 0, .int 0, .ref ah, .int Mhp, .int Mrs, .int Mrf, .ref ar, .int Mtoq41, .int Mtbq41, .ref aw, .ref ay, .int Mfr, .int Mln, .int Mhb])), (ab, .inl (g.2.2.1, 4096, .inl MB)), (au, .inl (g.2.2.1, 400, .inl MU)), (ah, .inl (g.2.2.1, 4096, .inl MH)), (ar, .inl (g.2.2.1, 4096, .inl MR)), (aw, .inl (g.2.2.1, 100, .inl MWq41)), (ay, .inl (g.2.2.1, 100, .inl MYq41))]) C dX6_passOn_174 (c_X6_drop (zl X) g M ab au ah ar aw ay MB MU MH MR MWq41 MYq41 Mft Msz Mal Mbs Mpl Mbg 0 Mhs Mhf Mhp Mrs Mrf Mtoq41 Mtbq41 Mfr Mln Mhb) gX6_passOn_X6_drop rfl ⟨rfl, rfl⟩ (by decide +kernel) (by decide) (by decide) rfl rfl rfl rfl (Nat.le_of_ble_eq_true rfl) rfl rfl ⟨rfl, rfl, rfl⟩ (by decide) rfl ?_
                refine z_iconst (v := 0) C dX6_passOn_177 (by decide) ?_
                have he : (f_X6_passOn MB MH MR MW MY Mlo Mhs Mhf Mhp Mrs Mrf Mto Mtb Mfr Mln v) = (0, MH, MR, MWq41, MYq41, 0, 0, 0, Mhp, Mrs, Mrf, Mtoq41, Mtbq41) := by simp only [f_X6_passOn, if_neg c_1, if_neg c_2, if_neg c_3, if_neg c_30, if_neg c_32, if_neg c_33, if_neg c_38, hT41]
                exact hret _ _ _ _ dX6_passOn_178 (by first | rw [he] | rfl) (by first | rw [he] | rfl)
              · skip
                refine z_aload_n C dX6_passOn_82 rfl 0 rfl ?_
                refine z_callVv (n := 0) (isC := [0, 1, 2, 3, 4, 5, 6]) (isR := []) (isP := [0, 1, 2, 3, 4, 5, 6]) (As := []) (rest := []) (wr := []) (ws2 := [(M, .inr (5, [.int Mft, .int Msz, .int Mal, .ref ab, .int Mbs, .ref au, .int Mpl, .int Mbg, .int 0, .int ((f_X6_start MB MH MW MY Mhs Mhf Mto Mtb Mfr Mln).2.2.2.1), .int ((f_X6_start MB MH MW MY Mhs Mhf Mto Mtb Mfr Mln).2.2.2.2.1), .ref ah, .int ((f_X6_start MB MH MW MY Mhs Mhf Mto Mtb Mfr Mln).2.2.2.2.2.1), .int Mrs, .int Mrf, .ref ar, .int ((f_X6_start MB MH MW MY Mhs Mhf Mto Mtb Mfr Mln).2.2.2.2.2.2.1), .int ((f_X6_start MB MH MW MY Mhs Mhf Mto Mtb Mfr Mln).2.2.2.2.2.2.2), .ref aw, .ref ay, .int Mfr, .int Mln, .int Mhb])), (ab, .inl (g.2.2.1, 4096, .inl MB)), (au, .inl (g.2.2.1, 400, .inl MU)), (ah, .inl (g.2.2.1, 4096, .inl ((f_X6_start MB MH MW MY Mhs Mhf Mto Mtb Mfr Mln).1))), (ar, .inl (g.2.2.1, 4096, .inl MR)), (aw, .inl (g.2.2.1, 100, .inl ((f_X6_start MB MH MW MY Mhs Mhf Mto Mtb Mfr Mln).2.1))), (ay, .inl (g.2.2.1, 100, .inl ((f_X6_start MB MH MW MY Mhs Mhf Mto Mtb Mfr Mln).2.2.1)))]) C dX6_passOn_83 (c_X6_start (zl X) g M ab au ah ar aw ay MB MU MH MR MW MY Mft Msz Mal Mbs Mpl Mbg 0 Mhs Mhf Mhp Mrs Mrf Mto Mtb Mfr Mln Mhb ht (zpo_3 hk c_1 c_2).2.2 (zpo_3 hk c_1 c_2).1) gX6_passOn_X6_start rfl ⟨rfl, rfl⟩ (by decide +kernel) (by decide) (by decide) rfl rfl rfl rfl (Nat.le_of_ble_eq_true rfl) rfl rfl ⟨rfl, rfl, rfl⟩ (by decide) rfl ?_
                generalize hT43 : (f_X6_start MB MH MW MY Mhs Mhf Mto Mtb Mfr Mln) = T43
                obtain ⟨MHq43, MWq43, MYq43, Mhsq43, Mhfq43, Mhpq43, Mtoq43, Mtbq43⟩ := T43
                have k43_Mhs : zok 4096 Mhsq43 := zok_X6_start ht (zpo_3 hk c_1 c_2).2.2 (zpo_3 hk c_1 c_2).1 hT43
                have k43_Mto : zdok (0) Mtoq43 := zdok_X6_start (zdok_le ht (by omega)) hT43
                refine z_iload_n C dX6_passOn_86 rfl 1 rfl ?_
                refine z_iconst (v := 1) C dX6_passOn_87 (by decide) ?_
                refine z_icmp_ne (tgt := 95) C dX6_passOn_88 (by decide) (fun c_44 => ?_) (fun c_44 => absurd c_44 c_33)
                refine z_iload_n C dX6_passOn_95 rfl 1 rfl ?_
                refine z_iconst (v := 1) C dX6_passOn_96 (by decide) ?_
                refine z_icmp_ne (tgt := 104) C dX6_passOn_97 (by decide) (fun c_45 => ?_) (fun c_45 => absurd c_45 c_33)
                refine z_iconst (v := 0) C dX6_passOn_104 (by decide) ?_
                have he : (f_X6_passOn MB MH MR MW MY Mlo Mhs Mhf Mhp Mrs Mrf Mto Mtb Mfr Mln v) = (0, MHq43, MR, MWq43, MYq43, 0, Mhsq43, Mhfq43, Mhpq43, Mrs, Mrf, Mtoq43, Mtbq43) := by simp only [f_X6_passOn, if_neg c_1, if_neg c_2, if_neg c_3, if_neg c_30, if_neg c_32, if_neg c_33, if_pos c_38, hT43]
                exact hret _ _ _ _ dX6_passOn_105 (by first | rw [he] | rfl) (by first | rw [he] | rfl)
          · skip
            refine z_iconst (v := 0) C dX6_passOn_70 (by decide) ?_
            have he : (f_X6_passOn MB MH MR MW MY Mlo Mhs Mhf Mhp Mrs Mrf Mto Mtb Mfr Mln v) = (0, MH, MR, MW, MY, 0, Mhs, Mhf, Mhp, Mrs, Mrf, Mto, Mtb) := by simp only [f_X6_passOn, if_neg c_1, if_neg c_2, if_neg c_3, if_neg c_30, if_pos c_32]
            exact hret _ _ _ _ dX6_passOn_71 (by first | rw [he] | rfl) (by first | rw [he] | rfl)
        · skip
          refine z_iconst (v := 1) C dX6_passOn_52 (by decide) ?_
          refine z_goto (tgt := 57) C dX6_passOn_53 (by decide) ?_
          refine z_put (ci := 5) (v := .int 1) (ty := .boolean) (Cn := RX6) (T := TX6) (N := 23) (ws' := [(M, .inr (5, [.int Mft, .int Msz, .int Mal, .ref ab, .int Mbs, .ref au, .int Mpl, .int Mbg, .int 1, .int Mhs, .int Mhf, .ref ah, .int Mhp, .int Mrs, .int Mrf, .ref ar, .int Mto, .int Mtb, .ref aw, .ref ay, .int Mfr, .int Mln, .int Mhb])), (ab, .inl (g.2.2.1, 4096, .inl MB)), (au, .inl (g.2.2.1, 400, .inl MU)), (ah, .inl (g.2.2.1, 4096, .inl MH)), (ar, .inl (g.2.2.1, 4096, .inl MR)), (aw, .inl (g.2.2.1, 100, .inl MW)), (ay, .inl (g.2.2.1, 100, .inl MY))]) C dX6_passOn_57 (fun w h => List.mem_cons_of_mem _ (List.mem_append_right _ h)) tyX6 tyX6_ok nmX6 0 rfl rfl 8 (by decide) (List.mem_of_getElem? (i := 3) rfl) rfl rfl (by decide +kernel) rfl rfl (Nat.le_of_ble_eq_true rfl) rfl ?_
          refine z_iload_n C dX6_passOn_60 rfl 1 rfl ?_
          refine z_iconst (v := 3) C dX6_passOn_61 (by decide) ?_
          refine z_icmp_eq (tgt := 70) C dX6_passOn_62 (by decide) (fun c_46 => ?_) (fun c_46 => absurd c_30 c_46)
          refine z_iconst (v := 0) C dX6_passOn_70 (by decide) ?_
          have he : (f_X6_passOn MB MH MR MW MY Mlo Mhs Mhf Mhp Mrs Mrf Mto Mtb Mfr Mln v) = (0, MH, MR, MW, MY, 1, Mhs, Mhf, Mhp, Mrs, Mrf, Mto, Mtb) := by simp only [f_X6_passOn, if_neg c_1, if_neg c_2, if_neg c_3, if_pos c_30]
          exact hret _ _ _ _ dX6_passOn_71 (by first | rw [he] | rfl) (by first | rw [he] | rfl)
    · skip
      refine z_aload_n C dX6_passOn_17 rfl 0 rfl ?_
      refine z_get (ci := 5) (v := .int Mhf) (Cn := RX6) (T := TX6) (N := 23) C dX6_passOn_18 (fun w h => List.mem_cons_of_mem _ (List.mem_append_right _ h)) 0 rfl rfl 10 (by decide) (List.mem_of_getElem? (i := 1) rfl) rfl rfl ?_
      refine z_if_eq (tgt := 33) C dX6_passOn_21 (by decide) (fun c_47 => ?_) (fun c_47 => ?_)
      · skip
        refine z_aload_n C dX6_passOn_33 rfl 0 rfl ?_
        refine z_callVv (n := 0) (isC := [0, 1, 2, 3, 4, 5, 6]) (isR := []) (isP := [0, 1, 2, 3, 4, 5, 6]) (As := []) (rest := []) (wr := []) (ws2 := [(M, .inr (5, [.int Mft, .int Msz, .int Mal, .ref ab, .int Mbs, .ref au, .int Mpl, .int Mbg, .int Mlo, .int 0, .int 0, .ref ah, .int Mhp, .int Mrs, .int Mrf, .ref ar, .int Mto, .int Mtb, .ref aw, .ref ay, .int Mfr, .int Mln, .int Mhb])), (ab, .inl (g.2.2.1, 4096, .inl MB)), (au, .inl (g.2.2.1, 400, .inl MU)), (ah, .inl (g.2.2.1, 4096, .inl MH)), (ar, .inl (g.2.2.1, 4096, .inl MR)), (aw, .inl (g.2.2.1, 100, .inl MW)), (ay, .inl (g.2.2.1, 100, .inl MY))]) C dX6_passOn_34 (c_X6_drop (zl X) g M ab au ah ar aw ay MB MU MH MR MW MY Mft Msz Mal Mbs Mpl Mbg Mlo Mhs Mhf Mhp Mrs Mrf Mto Mtb Mfr Mln Mhb) gX6_passOn_X6_drop rfl ⟨rfl, rfl⟩ (by decide +kernel) (by decide) (by decide) rfl rfl rfl rfl (Nat.le_of_ble_eq_true rfl) rfl rfl ⟨rfl, rfl, rfl⟩ (by decide) rfl ?_
        refine z_iconst (v := 0) C dX6_passOn_37 (by decide) ?_
        have he : (f_X6_passOn MB MH MR MW MY Mlo Mhs Mhf Mhp Mrs Mrf Mto Mtb Mfr Mln v) = (0, MH, MR, MW, MY, Mlo, 0, 0, Mhp, Mrs, Mrf, Mto, Mtb) := by simp only [f_X6_passOn, if_neg c_1, if_pos c_2, if_pos c_47]
        exact hret _ _ _ _ dX6_passOn_38 (by first | rw [he] | rfl) (by first | rw [he] | rfl)
      · skip
        refine z_aload_n C dX6_passOn_24 rfl 0 rfl ?_
        refine z_iconst (v := 3) C dX6_passOn_25 (by decide) ?_
        refine z_aload_n C dX6_passOn_26 rfl 0 rfl ?_
        refine z_get (ci := 5) (v := .int Mhs) (Cn := RX6) (T := TX6) (N := 23) C dX6_passOn_27 (fun w h => List.mem_cons_of_mem _ (List.mem_append_right _ h)) 0 rfl rfl 9 (by decide) (List.mem_of_getElem? (i := 2) rfl) rfl rfl ?_
        refine z_callVv (n := 2) (isC := [0, 1, 2, 3, 4, 5, 6]) (isR := []) (isP := [0, 1, 2, 3, 4, 5, 6]) (As := [.int 3, .int Mhs]) (rest := []) (wr := []) (ws2 := [(M, .inr (5, [.int Mft, .int Msz, .int Mal, .ref ab, .int Mbs, .ref au, .int Mpl, .int Mbg, .int Mlo, .int Mhs, .int Mhf, .ref ah, .int Mhp, .int Mrs, .int Mrf, .ref ar, .int ((f_X6_tell MW MY Mto Mtb 3 Mhs).2.2.1), .int ((f_X6_tell MW MY Mto Mtb 3 Mhs).2.2.2), .ref aw, .ref ay, .int Mfr, .int Mln, .int Mhb])), (ab, .inl (g.2.2.1, 4096, .inl MB)), (au, .inl (g.2.2.1, 400, .inl MU)), (ah, .inl (g.2.2.1, 4096, .inl MH)), (ar, .inl (g.2.2.1, 4096, .inl MR)), (aw, .inl (g.2.2.1, 100, .inl ((f_X6_tell MW MY Mto Mtb 3 Mhs).1))), (ay, .inl (g.2.2.1, 100, .inl ((f_X6_tell MW MY Mto Mtb 3 Mhs).2.1)))]) C dX6_passOn_30 (c_X6_tell (zl X) g M ab au ah ar aw ay MB MU MH MR MW MY Mft Msz Mal Mbs Mpl Mbg Mlo Mhs Mhf Mhp Mrs Mrf Mto Mtb Mfr Mln Mhb 3 Mhs ht) gX6_passOn_X6_tell rfl ⟨rfl, rfl⟩ (by decide +kernel) (by decide) (by decide) rfl rfl rfl rfl (Nat.le_of_ble_eq_true rfl) rfl rfl ⟨rfl, rfl, rfl⟩ (by decide) rfl ?_
        generalize hT49 : (f_X6_tell MW MY Mto Mtb 3 Mhs) = T49
        obtain ⟨MWq49, MYq49, Mtoq49, Mtbq49⟩ := T49
        have k49_Mto : zdok (0) Mtoq49 := zdok_X6_tell (zdok_le ht (by omega)) hT49
        refine z_aload_n C dX6_passOn_33 rfl 0 rfl ?_
        refine z_callVv (n := 0) (isC := [0, 1, 2, 3, 4, 5, 6]) (isR := []) (isP := [0, 1, 2, 3, 4, 5, 6]) (As := []) (rest := []) (wr := []) (ws2 := [(M, .inr (5, [.int Mft, .int Msz, .int Mal, .ref ab, .int Mbs, .ref au, .int Mpl, .int Mbg, .int Mlo, .int 0, .int 0, .ref ah, .int Mhp, .int Mrs, .int Mrf, .ref ar, .int Mtoq49, .int Mtbq49, .ref aw, .ref ay, .int Mfr, .int Mln, .int Mhb])), (ab, .inl (g.2.2.1, 4096, .inl MB)), (au, .inl (g.2.2.1, 400, .inl MU)), (ah, .inl (g.2.2.1, 4096, .inl MH)), (ar, .inl (g.2.2.1, 4096, .inl MR)), (aw, .inl (g.2.2.1, 100, .inl MWq49)), (ay, .inl (g.2.2.1, 100, .inl MYq49))]) C dX6_passOn_34 (c_X6_drop (zl X) g M ab au ah ar aw ay MB MU MH MR MWq49 MYq49 Mft Msz Mal Mbs Mpl Mbg Mlo Mhs Mhf Mhp Mrs Mrf Mtoq49 Mtbq49 Mfr Mln Mhb) gX6_passOn_X6_drop rfl ⟨rfl, rfl⟩ (by decide +kernel) (by decide) (by decide) rfl rfl rfl rfl (Nat.le_of_ble_eq_true rfl) rfl rfl ⟨rfl, rfl, rfl⟩ (by decide) rfl ?_
        refine z_iconst (v := 0) C dX6_passOn_37 (by decide) ?_
        have he : (f_X6_passOn MB MH MR MW MY Mlo Mhs Mhf Mhp Mrs Mrf Mto Mtb Mfr Mln v) = (0, MH, MR, MWq49, MYq49, Mlo, 0, 0, Mhp, Mrs, Mrf, Mtoq49, Mtbq49) := by simp only [f_X6_passOn, if_neg c_1, if_pos c_2, if_neg c_47, hT49]
        exact hret _ _ _ _ dX6_passOn_38 (by first | rw [he] | rfl) (by first | rw [he] | rfl)
  · skip
    refine z_aload_n C dX6_passOn_5 rfl 0 rfl ?_
    refine z_callVv (n := 0) (isC := [0, 1, 2, 3, 4, 5, 6]) (isR := []) (isP := [0, 1, 2, 3, 4, 5, 6]) (As := []) (rest := []) (wr := []) (ws2 := [(M, .inr (5, [.int Mft, .int Msz, .int Mal, .ref ab, .int Mbs, .ref au, .int Mpl, .int Mbg, .int Mlo, .int 0, .int 0, .ref ah, .int Mhp, .int Mrs, .int Mrf, .ref ar, .int Mto, .int Mtb, .ref aw, .ref ay, .int Mfr, .int Mln, .int Mhb])), (ab, .inl (g.2.2.1, 4096, .inl MB)), (au, .inl (g.2.2.1, 400, .inl MU)), (ah, .inl (g.2.2.1, 4096, .inl MH)), (ar, .inl (g.2.2.1, 4096, .inl MR)), (aw, .inl (g.2.2.1, 100, .inl MW)), (ay, .inl (g.2.2.1, 100, .inl MY))]) C dX6_passOn_6 (c_X6_drop (zl X) g M ab au ah ar aw ay MB MU MH MR MW MY Mft Msz Mal Mbs Mpl Mbg Mlo Mhs Mhf Mhp Mrs Mrf Mto Mtb Mfr Mln Mhb) gX6_passOn_X6_drop rfl ⟨rfl, rfl⟩ (by decide +kernel) (by decide) (by decide) rfl rfl rfl rfl (Nat.le_of_ble_eq_true rfl) rfl rfl ⟨rfl, rfl, rfl⟩ (by decide) rfl ?_
    refine z_iconst (v := 1) C dX6_passOn_9 (by decide) ?_
    have he : (f_X6_passOn MB MH MR MW MY Mlo Mhs Mhf Mhp Mrs Mrf Mto Mtb Mfr Mln v) = (1, MH, MR, MW, MY, Mlo, 0, 0, Mhp, Mrs, Mrf, Mto, Mtb) := by simp only [f_X6_passOn, if_pos c_1]
    exact hret _ _ _ _ dX6_passOn_10 (by first | rw [he] | rfl) (by first | rw [he] | rfl)
