def lp_X6_appendedSize (Msz : Int32) : Nat → Int32 → Int32 → Int32 → Int32
  | 0, _, _, _ => (0)
  | n + 1, nn, lf, mo =>
    if mo = 0 then
      nn
    else
      if 7 ≤ (Msz - (zMod nn Msz)) then
        if ((Msz - (zMod nn Msz)) - 7) ≤ lf then
          if (lf - ((Msz - (zMod nn Msz)) - 7)) ≤ 0 then
            lp_X6_appendedSize Msz n ((nn + 7) + ((Msz - (zMod nn Msz)) - 7)) (lf - ((Msz - (zMod nn Msz)) - 7)) 0
          else
            lp_X6_appendedSize Msz n ((nn + 7) + ((Msz - (zMod nn Msz)) - 7)) (lf - ((Msz - (zMod nn Msz)) - 7)) 1
        else
          if (lf - lf) ≤ 0 then
            lp_X6_appendedSize Msz n ((nn + 7) + lf) (lf - lf) 0
          else
            lp_X6_appendedSize Msz n ((nn + 7) + lf) (lf - lf) 1
      else
        if (Msz - 7) ≤ lf then
          if (lf - (Msz - 7)) ≤ 0 then
            lp_X6_appendedSize Msz n (((nn + (Msz - (zMod nn Msz))) + 7) + (Msz - 7)) (lf - (Msz - 7)) 0
          else
            lp_X6_appendedSize Msz n (((nn + (Msz - (zMod nn Msz))) + 7) + (Msz - 7)) (lf - (Msz - 7)) 1
        else
          if (lf - lf) ≤ 0 then
            lp_X6_appendedSize Msz n (((nn + (Msz - (zMod nn Msz))) + 7) + lf) (lf - lf) 0
          else
            lp_X6_appendedSize Msz n (((nn + (Msz - (zMod nn Msz))) + 7) + lf) (lf - lf) 1
def f_X6_appendedSize (Msz : Int32) (Mal : Int32) (Mbs : Int32) : Int32 :=
  lp_X6_appendedSize Msz 1000 Mal Mbs 1
theorem zap_0 {z nn lf mo : Int32} {n : Nat} (h : zap z n nn lf mo) (c0 : mo = 0) : lp_X6_appendedSize z n nn lf mo = nn := by
  cases n with
  | zero => exact absurd (zap_z h) id
  | succ n => unfold lp_X6_appendedSize; rw [if_pos c0]
theorem zap_ge {z : Int32} (hz : zsz z) : ∀ (n : Nat) (nn lf mo : Int32), zap z n nn lf mo → nn.toInt ≤ (lp_X6_appendedSize z n nn lf mo).toInt := by
  intro n
  induction n with
  | zero => intro nn lf mo h; exact absurd (zap_z h) id
  | succ n ih =>
    intro nn lf mo h
    by_cases c0 : mo = 0
    · rw [zap_0 h c0]; exact Int.le_refl _
    · unfold lp_X6_appendedSize
      rw [if_neg c0]
      obtain ⟨p1, p2, p3, p4, p5, p6, p7, p8, p9, p10, p11, p12, p13⟩ := zap_pl hz h c0
      obtain ⟨z1, z2⟩ := id hz
      split
      · next c1 =>
        split
        · next c2 =>
          split
          · next c3 =>
            have := ih _ _ _ (zap_e (nn' := ((nn + 7) + ((z - zMod nn z) - 7))) (lf' := (lf - ((z - zMod nn z) - 7))) h c0)
            omega
          · next c3 =>
            have := ih _ _ _ (zap_a hz h c0 c1 c2 c3)
            omega
        · next c2 =>
          split
          · next c3 =>
            have := ih _ _ _ (zap_e (nn' := ((nn + 7) + lf)) (lf' := (lf - lf)) h c0)
            omega
          · next c3 => rw [zsub_self] at c3; exact absurd (by decide) c3
      · next c1 =>
        split
        · next c2 =>
          split
          · next c3 =>
            have := ih _ _ _ (zap_e (nn' := (((nn + (z - zMod nn z)) + 7) + (z - 7))) (lf' := (lf - (z - 7))) h c0)
            omega
          · next c3 =>
            have := ih _ _ _ (zap_b hz h c0 c1 c2 c3)
            omega
        · next c2 =>
          split
          · next c3 =>
            have := ih _ _ _ (zap_e (nn' := (((nn + (z - zMod nn z)) + 7) + lf)) (lf' := (lf - lf)) h c0)
            omega
          · next c3 => rw [zsub_self] at c3; exact absurd (by decide) c3
set_option maxHeartbeats 4000000 in
set_option maxRecDepth 100000 in
theorem c_X6_appendedSize (l : Launch) (g : zG) (M ab au ah ar aw ay : Nat) (MB : Nat → Int32) (MU : Nat → Int32) (MH : Nat → Int32) (MR : Nat → Int32) (MW : Nat → Int32) (MY : Nat → Int32) (Mft : Int32) (Msz : Int32) (Mal : Int32) (Mbs : Int32) (Mpl : Int32) (Mbg : Int32) (Mlo : Int32) (Mhs : Int32) (Mhf : Int32) (Mhp : Int32) (Mrs : Int32) (Mrf : Int32) (Mto : Int32) (Mtb : Int32) (Mfr : Int32) (Mln : Int32) (Mhb : Int32) (hz : zsz Msz) (ha : zok 4096 Mal) (hu : zok 400 Mbs) : zMI l yX6_appendedSize wsX6_appendedSize ({ frames := 0, cells := 0, slots := 0, locals := 0 }) g [.ref M] [(M, .inr (5, [.int Mft, .int Msz, .int Mal, .ref ab, .int Mbs, .ref au, .int Mpl, .int Mbg, .int Mlo, .int Mhs, .int Mhf, .ref ah, .int Mhp, .int Mrs, .int Mrf, .ref ar, .int Mto, .int Mtb, .ref aw, .ref ay, .int Mfr, .int Mln, .int Mhb])), (ab, .inl (g.2.2.1, 4096, .inl MB)), (au, .inl (g.2.2.1, 400, .inl MU)), (ah, .inl (g.2.2.1, 4096, .inl MH)), (ar, .inl (g.2.2.1, 4096, .inl MR)), (aw, .inl (g.2.2.1, 100, .inl MW)), (ay, .inl (g.2.2.1, 100, .inl MY))] (f_X6_appendedSize Msz Mal Mbs) [(M, .inr (5, [.int Mft, .int Msz, .int Mal, .ref ab, .int Mbs, .ref au, .int Mpl, .int Mbg, .int Mlo, .int Mhs, .int Mhf, .ref ah, .int Mhp, .int Mrs, .int Mrf, .ref ar, .int Mto, .int Mtb, .ref aw, .ref ay, .int Mfr, .int Mln, .int Mhb])), (ab, .inl (g.2.2.1, 4096, .inl MB)), (au, .inl (g.2.2.1, 400, .inl MU)), (ah, .inl (g.2.2.1, 4096, .inl MH)), (ar, .inl (g.2.2.1, 4096, .inl MR)), (aw, .inl (g.2.2.1, 100, .inl MW)), (ay, .inl (g.2.2.1, 100, .inl MY))] := by
  refine zMI_of (cc := cX6_appendedSize) (nL := 6) (ty := .int) (by decide) rfl (Nat.le_of_ble_eq_true rfl) rfl ?_
  intro X C hret
  refine z_lv (lv' := [(0, .ref M)]) [0] rfl ?_
  refine z_aload_n C dX6_appendedSize_0 rfl 0 rfl ?_
  refine z_get (ci := 5) (v := .int Mal) (Cn := RX6) (T := TX6) (N := 23) C dX6_appendedSize_1 (fun w h => List.mem_cons_of_mem _ (List.mem_append_right _ h)) 0 rfl rfl 2 (by decide) (List.mem_of_getElem? (i := 1) rfl) rfl rfl ?_
  refine z_istore_n (lv' := [(1, .int Mal), (0, .ref M)]) C dX6_appendedSize_4 rfl (by decide) rfl ?_
  refine z_aload_n C dX6_appendedSize_5 rfl 1 rfl ?_
  refine z_get (ci := 5) (v := .int Mbs) (Cn := RX6) (T := TX6) (N := 23) C dX6_appendedSize_6 (fun w h => List.mem_cons_of_mem _ (List.mem_append_right _ h)) 0 rfl rfl 4 (by decide) (List.mem_of_getElem? (i := 2) rfl) rfl rfl ?_
  refine z_istore_n (lv' := [(2, .int Mbs), (1, .int Mal), (0, .ref M)]) C dX6_appendedSize_9 rfl (by decide) rfl ?_
  refine z_iconst (v := 1) C dX6_appendedSize_10 (by decide) ?_
  refine z_istore_n (lv' := [(3, .int 1), (2, .int Mbs), (1, .int Mal), (0, .ref M)]) C dX6_appendedSize_11 rfl (by decide) rfl ?_
  have loop : ∀ (n : Nat) (nn : Int32) (lf : Int32) (mo : Int32), zap Msz n nn lf mo → lp_X6_appendedSize Msz n nn lf mo = (f_X6_appendedSize Msz Mal Mbs) → zV X g 6 0 0 12 [(0, .ref M), (1, .int nn), (2, .int lf), (3, .int mo)] [] [(M, .inr (5, [.int Mft, .int Msz, .int Mal, .ref ab, .int Mbs, .ref au, .int Mpl, .int Mbg, .int Mlo, .int Mhs, .int Mhf, .ref ah, .int Mhp, .int Mrs, .int Mrf, .ref ar, .int Mto, .int Mtb, .ref aw, .ref ay, .int Mfr, .int Mln, .int Mhb])), (ab, .inl (g.2.2.1, 4096, .inl MB)), (au, .inl (g.2.2.1, 400, .inl MU)), (ah, .inl (g.2.2.1, 4096, .inl MH)), (ar, .inl (g.2.2.1, 4096, .inl MR)), (aw, .inl (g.2.2.1, 100, .inl MW)), (ay, .inl (g.2.2.1, 100, .inl MY))] := by
    intro n
    induction n with
    | zero =>
      intro nn lf mo hp hv
      exact absurd (zap_z hp) id
    | succ n ih =>
      intro nn lf mo hp hv
      refine z_iload_n C dX6_appendedSize_12 rfl 3 rfl ?_
      refine z_if_eq (tgt := 93) C dX6_appendedSize_13 (by decide) (fun c_1 => ?_) (fun c_1 => ?_)
      · skip
        refine z_iload_n C dX6_appendedSize_93 rfl 1 rfl ?_
        have he : (f_X6_appendedSize Msz Mal Mbs) = nn := by rw [← hv]; simp only [lp_X6_appendedSize, if_pos c_1]
        exact hret _ _ _ _ dX6_appendedSize_94 (by first | rw [he] | rfl) (by first | rw [he] | rfl)
      · skip
        refine z_aload_n C dX6_appendedSize_16 rfl 0 rfl ?_
        refine z_get (ci := 5) (v := .int Msz) (Cn := RX6) (T := TX6) (N := 23) C dX6_appendedSize_17 (fun w h => List.mem_cons_of_mem _ (List.mem_append_right _ h)) 0 rfl rfl 1 (by decide) (List.mem_of_getElem? (i := 3) rfl) rfl rfl ?_
        refine z_iload_n C dX6_appendedSize_20 rfl 1 rfl ?_
        refine z_aload_n C dX6_appendedSize_21 rfl 0 rfl ?_
        refine z_get (ci := 5) (v := .int Msz) (Cn := RX6) (T := TX6) (N := 23) C dX6_appendedSize_22 (fun w h => List.mem_cons_of_mem _ (List.mem_append_right _ h)) 0 rfl rfl 1 (by decide) (List.mem_of_getElem? (i := 3) rfl) rfl rfl ?_
        refine z_irem C dX6_appendedSize_25 (zsz_ne hz) ?_
        refine z_isub C dX6_appendedSize_26 ?_
        refine z_istore (lv' := [(4, .int (Msz - (zMod nn Msz))), (0, .ref M), (1, .int nn), (2, .int lf), (3, .int mo)]) C dX6_appendedSize_27 (by decide) rfl ?_
        refine z_iload C dX6_appendedSize_29 0 rfl ?_
        refine z_bipush (v := 7) C dX6_appendedSize_31 (by decide) ?_
        refine z_icmp_ge (tgt := 47) C dX6_appendedSize_33 (by decide) (fun c_2 => ?_) (fun c_2 => ?_)
        · skip
          refine z_iload_n C dX6_appendedSize_47 rfl 3 rfl ?_
          refine z_iload C dX6_appendedSize_48 0 rfl ?_
          refine z_bipush (v := 7) C dX6_appendedSize_50 (by decide) ?_
          refine z_isub C dX6_appendedSize_52 ?_
          refine z_icmp_ge (tgt := 60) C dX6_appendedSize_53 (by decide) (fun c_3 => ?_) (fun c_3 => ?_)
          · skip
            refine z_iload C dX6_appendedSize_60 0 rfl ?_
            refine z_bipush (v := 7) C dX6_appendedSize_62 (by decide) ?_
            refine z_isub C dX6_appendedSize_64 ?_
            refine z_istore (lv' := [(5, .int ((Msz - (zMod nn Msz)) - 7)), (4, .int (Msz - (zMod nn Msz))), (0, .ref M), (1, .int nn), (2, .int lf), (3, .int mo)]) C dX6_appendedSize_65 (by decide) rfl ?_
            refine z_iload_n C dX6_appendedSize_67 rfl 3 rfl ?_
            refine z_bipush (v := 7) C dX6_appendedSize_68 (by decide) ?_
            refine z_iadd C dX6_appendedSize_70 ?_
            refine z_iload C dX6_appendedSize_71 0 rfl ?_
            refine z_iadd C dX6_appendedSize_73 ?_
            refine z_istore_n (lv' := [(1, .int ((nn + 7) + ((Msz - (zMod nn Msz)) - 7))), (5, .int ((Msz - (zMod nn Msz)) - 7)), (4, .int (Msz - (zMod nn Msz))), (0, .ref M), (2, .int lf), (3, .int mo)]) C dX6_appendedSize_74 rfl (by decide) rfl ?_
            refine z_iload_n C dX6_appendedSize_75 rfl 4 rfl ?_
            refine z_iload C dX6_appendedSize_76 1 rfl ?_
            refine z_isub C dX6_appendedSize_78 ?_
            refine z_istore_n (lv' := [(2, .int (lf - ((Msz - (zMod nn Msz)) - 7))), (1, .int ((nn + 7) + ((Msz - (zMod nn Msz)) - 7))), (5, .int ((Msz - (zMod nn Msz)) - 7)), (4, .int (Msz - (zMod nn Msz))), (0, .ref M), (3, .int mo)]) C dX6_appendedSize_79 rfl (by decide) rfl ?_
            refine z_iload_n C dX6_appendedSize_80 rfl 0 rfl ?_
            refine z_if_le (tgt := 88) C dX6_appendedSize_81 (by decide) (fun c_4 => ?_) (fun c_4 => ?_)
            · skip
              refine z_iconst (v := 0) C dX6_appendedSize_88 (by decide) ?_
              refine z_istore_n (lv' := [(3, .int 0), (2, .int (lf - ((Msz - (zMod nn Msz)) - 7))), (1, .int ((nn + 7) + ((Msz - (zMod nn Msz)) - 7))), (5, .int ((Msz - (zMod nn Msz)) - 7)), (4, .int (Msz - (zMod nn Msz))), (0, .ref M)]) C dX6_appendedSize_89 rfl (by decide) rfl ?_
              refine z_goto (tgt := 12) C dX6_appendedSize_90 (by decide) ?_
              exact z_lv [5, 2, 1, 0] rfl (ih ((nn + 7) + ((Msz - (zMod nn Msz)) - 7)) (lf - ((Msz - (zMod nn Msz)) - 7)) 0 (zap_e hp c_1) (by rw [← hv]; simp only [lp_X6_appendedSize, if_neg c_1, if_pos c_2, if_pos c_3, if_pos c_4]))
            · skip
              refine z_iconst (v := 1) C dX6_appendedSize_84 (by decide) ?_
              refine z_goto (tgt := 89) C dX6_appendedSize_85 (by decide) ?_
              refine z_istore_n (lv' := [(3, .int 1), (2, .int (lf - ((Msz - (zMod nn Msz)) - 7))), (1, .int ((nn + 7) + ((Msz - (zMod nn Msz)) - 7))), (5, .int ((Msz - (zMod nn Msz)) - 7)), (4, .int (Msz - (zMod nn Msz))), (0, .ref M)]) C dX6_appendedSize_89 rfl (by decide) rfl ?_
              refine z_goto (tgt := 12) C dX6_appendedSize_90 (by decide) ?_
              exact z_lv [5, 2, 1, 0] rfl (ih ((nn + 7) + ((Msz - (zMod nn Msz)) - 7)) (lf - ((Msz - (zMod nn Msz)) - 7)) 1 (zap_a hz hp c_1 c_2 c_3 c_4) (by rw [← hv]; simp only [lp_X6_appendedSize, if_neg c_1, if_pos c_2, if_pos c_3, if_neg c_4]))
          · skip
            refine z_iload_n C dX6_appendedSize_56 rfl 3 rfl ?_
            refine z_goto (tgt := 65) C dX6_appendedSize_57 (by decide) ?_
            refine z_istore (lv' := [(5, .int lf), (4, .int (Msz - (zMod nn Msz))), (0, .ref M), (1, .int nn), (2, .int lf), (3, .int mo)]) C dX6_appendedSize_65 (by decide) rfl ?_
            refine z_iload_n C dX6_appendedSize_67 rfl 3 rfl ?_
            refine z_bipush (v := 7) C dX6_appendedSize_68 (by decide) ?_
            refine z_iadd C dX6_appendedSize_70 ?_
            refine z_iload C dX6_appendedSize_71 0 rfl ?_
            refine z_iadd C dX6_appendedSize_73 ?_
            refine z_istore_n (lv' := [(1, .int ((nn + 7) + lf)), (5, .int lf), (4, .int (Msz - (zMod nn Msz))), (0, .ref M), (2, .int lf), (3, .int mo)]) C dX6_appendedSize_74 rfl (by decide) rfl ?_
            refine z_iload_n C dX6_appendedSize_75 rfl 4 rfl ?_
            refine z_iload C dX6_appendedSize_76 1 rfl ?_
            refine z_isub C dX6_appendedSize_78 ?_
            refine z_istore_n (lv' := [(2, .int (lf - lf)), (1, .int ((nn + 7) + lf)), (5, .int lf), (4, .int (Msz - (zMod nn Msz))), (0, .ref M), (3, .int mo)]) C dX6_appendedSize_79 rfl (by decide) rfl ?_
            refine z_iload_n C dX6_appendedSize_80 rfl 0 rfl ?_
            refine z_if_le (tgt := 88) C dX6_appendedSize_81 (by decide) (fun c_5 => ?_) (fun c_5 => ?_)
            · skip
              refine z_iconst (v := 0) C dX6_appendedSize_88 (by decide) ?_
              refine z_istore_n (lv' := [(3, .int 0), (2, .int (lf - lf)), (1, .int ((nn + 7) + lf)), (5, .int lf), (4, .int (Msz - (zMod nn Msz))), (0, .ref M)]) C dX6_appendedSize_89 rfl (by decide) rfl ?_
              refine z_goto (tgt := 12) C dX6_appendedSize_90 (by decide) ?_
              exact z_lv [5, 2, 1, 0] rfl (ih ((nn + 7) + lf) (lf - lf) 0 (zap_e hp c_1) (by rw [← hv]; simp only [lp_X6_appendedSize, if_neg c_1, if_pos c_2, if_neg c_3, if_pos c_5]))
            · skip
              refine z_iconst (v := 1) C dX6_appendedSize_84 (by decide) ?_
              refine z_goto (tgt := 89) C dX6_appendedSize_85 (by decide) ?_
              refine z_istore_n (lv' := [(3, .int 1), (2, .int (lf - lf)), (1, .int ((nn + 7) + lf)), (5, .int lf), (4, .int (Msz - (zMod nn Msz))), (0, .ref M)]) C dX6_appendedSize_89 rfl (by decide) rfl ?_
              refine z_goto (tgt := 12) C dX6_appendedSize_90 (by decide) ?_
              exact z_lv [5, 2, 1, 0] rfl (ih ((nn + 7) + lf) (lf - lf) 1 (zap_n c_5) (by rw [← hv]; simp only [lp_X6_appendedSize, if_neg c_1, if_pos c_2, if_neg c_3, if_neg c_5]))
        · skip
          refine z_iload_n C dX6_appendedSize_36 rfl 2 rfl ?_
          refine z_iload C dX6_appendedSize_37 0 rfl ?_
          refine z_iadd C dX6_appendedSize_39 ?_
          refine z_istore_n (lv' := [(1, .int (nn + (Msz - (zMod nn Msz)))), (4, .int (Msz - (zMod nn Msz))), (0, .ref M), (2, .int lf), (3, .int mo)]) C dX6_appendedSize_40 rfl (by decide) rfl ?_
          refine z_aload_n C dX6_appendedSize_41 rfl 2 rfl ?_
          refine z_get (ci := 5) (v := .int Msz) (Cn := RX6) (T := TX6) (N := 23) C dX6_appendedSize_42 (fun w h => List.mem_cons_of_mem _ (List.mem_append_right _ h)) 0 rfl rfl 1 (by decide) (List.mem_of_getElem? (i := 3) rfl) rfl rfl ?_
          refine z_istore (lv' := [(4, .int Msz), (1, .int (nn + (Msz - (zMod nn Msz)))), (0, .ref M), (2, .int lf), (3, .int mo)]) C dX6_appendedSize_45 (by decide) rfl ?_
          refine z_iload_n C dX6_appendedSize_47 rfl 3 rfl ?_
          refine z_iload C dX6_appendedSize_48 0 rfl ?_
          refine z_bipush (v := 7) C dX6_appendedSize_50 (by decide) ?_
          refine z_isub C dX6_appendedSize_52 ?_
          refine z_icmp_ge (tgt := 60) C dX6_appendedSize_53 (by decide) (fun c_6 => ?_) (fun c_6 => ?_)
          · skip
            refine z_iload C dX6_appendedSize_60 0 rfl ?_
            refine z_bipush (v := 7) C dX6_appendedSize_62 (by decide) ?_
            refine z_isub C dX6_appendedSize_64 ?_
            refine z_istore (lv' := [(5, .int (Msz - 7)), (4, .int Msz), (1, .int (nn + (Msz - (zMod nn Msz)))), (0, .ref M), (2, .int lf), (3, .int mo)]) C dX6_appendedSize_65 (by decide) rfl ?_
            refine z_iload_n C dX6_appendedSize_67 rfl 2 rfl ?_
            refine z_bipush (v := 7) C dX6_appendedSize_68 (by decide) ?_
            refine z_iadd C dX6_appendedSize_70 ?_
            refine z_iload C dX6_appendedSize_71 0 rfl ?_
            refine z_iadd C dX6_appendedSize_73 ?_
            refine z_istore_n (lv' := [(1, .int (((nn + (Msz - (zMod nn Msz))) + 7) + (Msz - 7))), (5, .int (Msz - 7)), (4, .int Msz), (0, .ref M), (2, .int lf), (3, .int mo)]) C dX6_appendedSize_74 rfl (by decide) rfl ?_
            refine z_iload_n C dX6_appendedSize_75 rfl 4 rfl ?_
            refine z_iload C dX6_appendedSize_76 1 rfl ?_
            refine z_isub C dX6_appendedSize_78 ?_
            refine z_istore_n (lv' := [(2, .int (lf - (Msz - 7))), (1, .int (((nn + (Msz - (zMod nn Msz))) + 7) + (Msz - 7))), (5, .int (Msz - 7)), (4, .int Msz), (0, .ref M), (3, .int mo)]) C dX6_appendedSize_79 rfl (by decide) rfl ?_
            refine z_iload_n C dX6_appendedSize_80 rfl 0 rfl ?_
            refine z_if_le (tgt := 88) C dX6_appendedSize_81 (by decide) (fun c_7 => ?_) (fun c_7 => ?_)
            · skip
              refine z_iconst (v := 0) C dX6_appendedSize_88 (by decide) ?_
              refine z_istore_n (lv' := [(3, .int 0), (2, .int (lf - (Msz - 7))), (1, .int (((nn + (Msz - (zMod nn Msz))) + 7) + (Msz - 7))), (5, .int (Msz - 7)), (4, .int Msz), (0, .ref M)]) C dX6_appendedSize_89 rfl (by decide) rfl ?_
              refine z_goto (tgt := 12) C dX6_appendedSize_90 (by decide) ?_
              exact z_lv [5, 2, 1, 0] rfl (ih (((nn + (Msz - (zMod nn Msz))) + 7) + (Msz - 7)) (lf - (Msz - 7)) 0 (zap_e hp c_1) (by rw [← hv]; simp only [lp_X6_appendedSize, if_neg c_1, if_neg c_2, if_pos c_6, if_pos c_7]))
            · skip
              refine z_iconst (v := 1) C dX6_appendedSize_84 (by decide) ?_
              refine z_goto (tgt := 89) C dX6_appendedSize_85 (by decide) ?_
              refine z_istore_n (lv' := [(3, .int 1), (2, .int (lf - (Msz - 7))), (1, .int (((nn + (Msz - (zMod nn Msz))) + 7) + (Msz - 7))), (5, .int (Msz - 7)), (4, .int Msz), (0, .ref M)]) C dX6_appendedSize_89 rfl (by decide) rfl ?_
              refine z_goto (tgt := 12) C dX6_appendedSize_90 (by decide) ?_
              exact z_lv [5, 2, 1, 0] rfl (ih (((nn + (Msz - (zMod nn Msz))) + 7) + (Msz - 7)) (lf - (Msz - 7)) 1 (zap_b hz hp c_1 c_2 c_6 c_7) (by rw [← hv]; simp only [lp_X6_appendedSize, if_neg c_1, if_neg c_2, if_pos c_6, if_neg c_7]))
          · skip
            refine z_iload_n C dX6_appendedSize_56 rfl 3 rfl ?_
            refine z_goto (tgt := 65) C dX6_appendedSize_57 (by decide) ?_
            refine z_istore (lv' := [(5, .int lf), (4, .int Msz), (1, .int (nn + (Msz - (zMod nn Msz)))), (0, .ref M), (2, .int lf), (3, .int mo)]) C dX6_appendedSize_65 (by decide) rfl ?_
            refine z_iload_n C dX6_appendedSize_67 rfl 2 rfl ?_
            refine z_bipush (v := 7) C dX6_appendedSize_68 (by decide) ?_
            refine z_iadd C dX6_appendedSize_70 ?_
            refine z_iload C dX6_appendedSize_71 0 rfl ?_
            refine z_iadd C dX6_appendedSize_73 ?_
            refine z_istore_n (lv' := [(1, .int (((nn + (Msz - (zMod nn Msz))) + 7) + lf)), (5, .int lf), (4, .int Msz), (0, .ref M), (2, .int lf), (3, .int mo)]) C dX6_appendedSize_74 rfl (by decide) rfl ?_
            refine z_iload_n C dX6_appendedSize_75 rfl 4 rfl ?_
            refine z_iload C dX6_appendedSize_76 1 rfl ?_
            refine z_isub C dX6_appendedSize_78 ?_
            refine z_istore_n (lv' := [(2, .int (lf - lf)), (1, .int (((nn + (Msz - (zMod nn Msz))) + 7) + lf)), (5, .int lf), (4, .int Msz), (0, .ref M), (3, .int mo)]) C dX6_appendedSize_79 rfl (by decide) rfl ?_
            refine z_iload_n C dX6_appendedSize_80 rfl 0 rfl ?_
            refine z_if_le (tgt := 88) C dX6_appendedSize_81 (by decide) (fun c_8 => ?_) (fun c_8 => ?_)
            · skip
              refine z_iconst (v := 0) C dX6_appendedSize_88 (by decide) ?_
              refine z_istore_n (lv' := [(3, .int 0), (2, .int (lf - lf)), (1, .int (((nn + (Msz - (zMod nn Msz))) + 7) + lf)), (5, .int lf), (4, .int Msz), (0, .ref M)]) C dX6_appendedSize_89 rfl (by decide) rfl ?_
              refine z_goto (tgt := 12) C dX6_appendedSize_90 (by decide) ?_
              exact z_lv [5, 2, 1, 0] rfl (ih (((nn + (Msz - (zMod nn Msz))) + 7) + lf) (lf - lf) 0 (zap_e hp c_1) (by rw [← hv]; simp only [lp_X6_appendedSize, if_neg c_1, if_neg c_2, if_neg c_6, if_pos c_8]))
            · skip
              refine z_iconst (v := 1) C dX6_appendedSize_84 (by decide) ?_
              refine z_goto (tgt := 89) C dX6_appendedSize_85 (by decide) ?_
              refine z_istore_n (lv' := [(3, .int 1), (2, .int (lf - lf)), (1, .int (((nn + (Msz - (zMod nn Msz))) + 7) + lf)), (5, .int lf), (4, .int Msz), (0, .ref M)]) C dX6_appendedSize_89 rfl (by decide) rfl ?_
              refine z_goto (tgt := 12) C dX6_appendedSize_90 (by decide) ?_
              exact z_lv [5, 2, 1, 0] rfl (ih (((nn + (Msz - (zMod nn Msz))) + 7) + lf) (lf - lf) 1 (zap_n c_8) (by rw [← hv]; simp only [lp_X6_appendedSize, if_neg c_1, if_neg c_2, if_neg c_6, if_neg c_8]))
  exact z_lv [3, 2, 1, 0] rfl (loop 1000 Mal Mbs 1 (zap_i hz ha hu) rfl)
