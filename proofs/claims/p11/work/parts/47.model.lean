def f_X6_count (Mal : Int32) (Mbs : Int32) (Mpl : Int32) (Mlo : Int32) (Mto : Int32) (Mtb : Int32) (v : Int32) : Int32 × Int32 :=
  if (f_X6_isIn v 0 5) = 0 then
    (0, 1)
  else
    if v = 0 then
      (Mal, 0)
    else
      if v = 1 then
        (Mpl, 0)
      else
        if v = 2 then
          if Mlo = 0 then
            (0, 0)
          else
            (1, 0)
        else
          if v = 3 then
            (Mto, 0)
          else
            if v = 4 then
              (Mtb, 0)
            else
              (Mbs, 0)
set_option maxHeartbeats 4000000 in
set_option maxRecDepth 100000 in
theorem c_X6_count (l : Launch) (g : zG) (M ab au ah ar aw ay : Nat) (MB : Nat → Int32) (MU : Nat → Int32) (MH : Nat → Int32) (MR : Nat → Int32) (MW : Nat → Int32) (MY : Nat → Int32) (Mft : Int32) (Msz : Int32) (Mal : Int32) (Mbs : Int32) (Mpl : Int32) (Mbg : Int32) (Mlo : Int32) (Mhs : Int32) (Mhf : Int32) (Mhp : Int32) (Mrs : Int32) (Mrf : Int32) (Mto : Int32) (Mtb : Int32) (Mfr : Int32) (Mln : Int32) (Mhb : Int32) (v : Int32) : zMI l yX6_count wsX6_count ({ frames := 1, cells := 0, slots := 0, locals := 22 }) g [.ref M, .int v] [(M, .inr (5, [.int Mft, .int Msz, .int Mal, .ref ab, .int Mbs, .ref au, .int Mpl, .int Mbg, .int Mlo, .int Mhs, .int Mhf, .ref ah, .int Mhp, .int Mrs, .int Mrf, .ref ar, .int Mto, .int Mtb, .ref aw, .ref ay, .int Mfr, .int Mln, .int Mhb])), (ab, .inl (g.2.2.1, 4096, .inl MB)), (au, .inl (g.2.2.1, 400, .inl MU)), (ah, .inl (g.2.2.1, 4096, .inl MH)), (ar, .inl (g.2.2.1, 4096, .inl MR)), (aw, .inl (g.2.2.1, 100, .inl MW)), (ay, .inl (g.2.2.1, 100, .inl MY))] ((f_X6_count Mal Mbs Mpl Mlo Mto Mtb v).1) [(M, .inr (5, [.int ((f_X6_count Mal Mbs Mpl Mlo Mto Mtb v).2), .int Msz, .int Mal, .ref ab, .int Mbs, .ref au, .int Mpl, .int Mbg, .int Mlo, .int Mhs, .int Mhf, .ref ah, .int Mhp, .int Mrs, .int Mrf, .ref ar, .int Mto, .int Mtb, .ref aw, .ref ay, .int Mfr, .int Mln, .int Mhb])), (ab, .inl (g.2.2.1, 4096, .inl MB)), (au, .inl (g.2.2.1, 400, .inl MU)), (ah, .inl (g.2.2.1, 4096, .inl MH)), (ar, .inl (g.2.2.1, 4096, .inl MR)), (aw, .inl (g.2.2.1, 100, .inl MW)), (ay, .inl (g.2.2.1, 100, .inl MY))] := by
  refine zMI_of (cc := cX6_count) (nL := 2) (ty := .int) (by decide) rfl (Nat.le_of_ble_eq_true rfl) rfl ?_
  intro X C hret
  refine z_lv (lv' := [(0, .ref M), (1, .int v)]) [0, 1] rfl ?_
  refine z_aload_n C dX6_count_0 rfl 0 rfl ?_
  refine z_iload_n C dX6_count_1 rfl 1 rfl ?_
  refine z_iconst (v := 0) C dX6_count_2 (by decide) ?_
  refine z_iconst (v := 5) C dX6_count_3 (by decide) ?_
  refine z_callSi (n := 3) (isC := []) (isR := [0, 1, 2, 3, 4, 5, 6]) (isP := [0, 1, 2, 3, 4, 5, 6]) (As := [.int v, .int 0, .int 5]) (rest := [.ref M]) (wr := [(M, .inr (5, [.int Mft, .int Msz, .int Mal, .ref ab, .int Mbs, .ref au, .int Mpl, .int Mbg, .int Mlo, .int Mhs, .int Mhf, .ref ah, .int Mhp, .int Mrs, .int Mrf, .ref ar, .int Mto, .int Mtb, .ref aw, .ref ay, .int Mfr, .int Mln, .int Mhb])), (ab, .inl (g.2.2.1, 4096, .inl MB)), (au, .inl (g.2.2.1, 400, .inl MU)), (ah, .inl (g.2.2.1, 4096, .inl MH)), (ar, .inl (g.2.2.1, 4096, .inl MR)), (aw, .inl (g.2.2.1, 100, .inl MW)), (ay, .inl (g.2.2.1, 100, .inl MY))]) (ws2 := [(M, .inr (5, [.int Mft, .int Msz, .int Mal, .ref ab, .int Mbs, .ref au, .int Mpl, .int Mbg, .int Mlo, .int Mhs, .int Mhf, .ref ah, .int Mhp, .int Mrs, .int Mrf, .ref ar, .int Mto, .int Mtb, .ref aw, .ref ay, .int Mfr, .int Mln, .int Mhb])), (ab, .inl (g.2.2.1, 4096, .inl MB)), (au, .inl (g.2.2.1, 400, .inl MU)), (ah, .inl (g.2.2.1, 4096, .inl MH)), (ar, .inl (g.2.2.1, 4096, .inl MR)), (aw, .inl (g.2.2.1, 100, .inl MW)), (ay, .inl (g.2.2.1, 100, .inl MY))]) C dX6_count_4 (c_X6_isIn (zl X) g v 0 5) gX6_count_X6_isIn rfl ⟨rfl, rfl⟩ (by decide +kernel) (by decide) (by decide) rfl rfl (Nat.le_of_ble_eq_true rfl) rfl rfl ⟨rfl, rfl, rfl⟩ (by decide) rfl ?_
  generalize hT1 : (f_X6_isIn v 0 5) = rq1
  refine z_if_eq (tgt := 14) C dX6_count_7 (by decide) (fun c_2 => ?_) (fun c_2 => ?_)
  · skip
    refine z_iconst (v := 1) C dX6_count_14 (by decide) ?_
    refine z_callVi (n := 1) (isC := [0, 1, 2, 3, 4, 5, 6]) (isR := []) (isP := [0, 1, 2, 3, 4, 5, 6]) (As := [.int 1]) (rest := []) (wr := []) (ws2 := [(M, .inr (5, [.int ((f_X6_refused 1).2), .int Msz, .int Mal, .ref ab, .int Mbs, .ref au, .int Mpl, .int Mbg, .int Mlo, .int Mhs, .int Mhf, .ref ah, .int Mhp, .int Mrs, .int Mrf, .ref ar, .int Mto, .int Mtb, .ref aw, .ref ay, .int Mfr, .int Mln, .int Mhb])), (ab, .inl (g.2.2.1, 4096, .inl MB)), (au, .inl (g.2.2.1, 400, .inl MU)), (ah, .inl (g.2.2.1, 4096, .inl MH)), (ar, .inl (g.2.2.1, 4096, .inl MR)), (aw, .inl (g.2.2.1, 100, .inl MW)), (ay, .inl (g.2.2.1, 100, .inl MY))]) C dX6_count_15 (c_X6_refused (zl X) g M ab au ah ar aw ay MB MU MH MR MW MY Mft Msz Mal Mbs Mpl Mbg Mlo Mhs Mhf Mhp Mrs Mrf Mto Mtb Mfr Mln Mhb 1) gX6_count_X6_refused rfl ⟨rfl, rfl⟩ (by decide +kernel) (by decide) (by decide) rfl rfl rfl rfl (Nat.le_of_ble_eq_true rfl) rfl rfl ⟨rfl, rfl, rfl⟩ (by decide) rfl ?_
    have hT3 : (f_X6_refused 1) = (1, 1) := by decide
    rw [hT3]
    refine z_if_eq (tgt := 23) C dX6_count_18 (by decide) (fun c_4 => absurd c_4 (by decide)) (fun c_4 => ?_)
    refine z_iconst (v := 0) C dX6_count_21 (by decide) ?_
    have he : (f_X6_count Mal Mbs Mpl Mlo Mto Mtb v) = (0, 1) := by simp only [f_X6_count, hT1, if_pos c_2]
    exact hret _ _ _ _ dX6_count_22 (by first | rw [he] | rfl) (by first | rw [he] | rfl)
  · skip
    refine z_iconst (v := 0) C dX6_count_10 (by decide) ?_
    refine z_goto (tgt := 15) C dX6_count_11 (by decide) ?_
    refine z_callVi (n := 1) (isC := [0, 1, 2, 3, 4, 5, 6]) (isR := []) (isP := [0, 1, 2, 3, 4, 5, 6]) (As := [.int 0]) (rest := []) (wr := []) (ws2 := [(M, .inr (5, [.int ((f_X6_refused 0).2), .int Msz, .int Mal, .ref ab, .int Mbs, .ref au, .int Mpl, .int Mbg, .int Mlo, .int Mhs, .int Mhf, .ref ah, .int Mhp, .int Mrs, .int Mrf, .ref ar, .int Mto, .int Mtb, .ref aw, .ref ay, .int Mfr, .int Mln, .int Mhb])), (ab, .inl (g.2.2.1, 4096, .inl MB)), (au, .inl (g.2.2.1, 400, .inl MU)), (ah, .inl (g.2.2.1, 4096, .inl MH)), (ar, .inl (g.2.2.1, 4096, .inl MR)), (aw, .inl (g.2.2.1, 100, .inl MW)), (ay, .inl (g.2.2.1, 100, .inl MY))]) C dX6_count_15 (c_X6_refused (zl X) g M ab au ah ar aw ay MB MU MH MR MW MY Mft Msz Mal Mbs Mpl Mbg Mlo Mhs Mhf Mhp Mrs Mrf Mto Mtb Mfr Mln Mhb 0) gX6_count_X6_refused rfl ⟨rfl, rfl⟩ (by decide +kernel) (by decide) (by decide) rfl rfl rfl rfl (Nat.le_of_ble_eq_true rfl) rfl rfl ⟨rfl, rfl, rfl⟩ (by decide) rfl ?_
    have hT5 : (f_X6_refused 0) = (0, 0) := by decide
    rw [hT5]
    refine z_if_eq (tgt := 23) C dX6_count_18 (by decide) (fun c_6 => ?_) (fun c_6 => absurd (by decide) c_6)
    refine z_iload_n C dX6_count_23 rfl 1 rfl ?_
    by_cases c_7 : v = 0
    · refine z_tableIn (off := 36) (tgt := 60) C dX6_count_24 (by rw [c_7]; decide) (by rw [c_7]; decide) (by rw [c_7]; decide) (by decide) ?_
      refine z_aload_n C dX6_count_60 rfl 0 rfl ?_
      refine z_get (ci := 5) (v := .int Mal) (Cn := RX6) (T := TX6) (N := 23) C dX6_count_61 (fun w h => List.mem_cons_of_mem _ (List.mem_append_right _ h)) 0 rfl rfl 2 (by decide) (List.mem_of_getElem? (i := 1) rfl) rfl rfl ?_
      have he : (f_X6_count Mal Mbs Mpl Mlo Mto Mtb v) = (Mal, 0) := by simp only [f_X6_count, hT1, if_neg c_2, if_pos c_7]
      exact hret _ _ _ _ dX6_count_64 (by first | rw [he] | rfl) (by first | rw [he] | rfl)
    · skip
      by_cases c_8 : v = 1
      · refine z_tableIn (off := 41) (tgt := 65) C dX6_count_24 (by rw [c_8]; decide) (by rw [c_8]; decide) (by rw [c_8]; decide) (by decide) ?_
        refine z_aload_n C dX6_count_65 rfl 0 rfl ?_
        refine z_get (ci := 5) (v := .int Mpl) (Cn := RX6) (T := TX6) (N := 23) C dX6_count_66 (fun w h => List.mem_cons_of_mem _ (List.mem_append_right _ h)) 0 rfl rfl 6 (by decide) (List.mem_of_getElem? (i := 2) rfl) rfl rfl ?_
        have he : (f_X6_count Mal Mbs Mpl Mlo Mto Mtb v) = (Mpl, 0) := by simp only [f_X6_count, hT1, if_neg c_2, if_neg c_7, if_pos c_8]
        exact hret _ _ _ _ dX6_count_69 (by first | rw [he] | rfl) (by first | rw [he] | rfl)
      · skip
        by_cases c_9 : v = 2
        · refine z_tableIn (off := 46) (tgt := 70) C dX6_count_24 (by rw [c_9]; decide) (by rw [c_9]; decide) (by rw [c_9]; decide) (by decide) ?_
          refine z_aload_n C dX6_count_70 rfl 0 rfl ?_
          refine z_get (ci := 5) (v := .int Mlo) (Cn := RX6) (T := TX6) (N := 23) C dX6_count_71 (fun w h => List.mem_cons_of_mem _ (List.mem_append_right _ h)) 0 rfl rfl 8 (by decide) (List.mem_of_getElem? (i := 3) rfl) rfl rfl ?_
          refine z_if_eq (tgt := 81) C dX6_count_74 (by decide) (fun c_10 => ?_) (fun c_10 => ?_)
          · skip
            refine z_iconst (v := 0) C dX6_count_81 (by decide) ?_
            have he : (f_X6_count Mal Mbs Mpl Mlo Mto Mtb v) = (0, 0) := by simp only [f_X6_count, hT1, if_neg c_2, if_neg c_7, if_neg c_8, if_pos c_9, if_pos c_10]
            exact hret _ _ _ _ dX6_count_82 (by first | rw [he] | rfl) (by first | rw [he] | rfl)
          · skip
            refine z_iconst (v := 1) C dX6_count_77 (by decide) ?_
            refine z_goto (tgt := 82) C dX6_count_78 (by decide) ?_
            have he : (f_X6_count Mal Mbs Mpl Mlo Mto Mtb v) = (1, 0) := by simp only [f_X6_count, hT1, if_neg c_2, if_neg c_7, if_neg c_8, if_pos c_9, if_neg c_10]
            exact hret _ _ _ _ dX6_count_82 (by first | rw [he] | rfl) (by first | rw [he] | rfl)
        · skip
          by_cases c_11 : v = 3
          · refine z_tableIn (off := 59) (tgt := 83) C dX6_count_24 (by rw [c_11]; decide) (by rw [c_11]; decide) (by rw [c_11]; decide) (by decide) ?_
            refine z_aload_n C dX6_count_83 rfl 0 rfl ?_
            refine z_get (ci := 5) (v := .int Mto) (Cn := RX6) (T := TX6) (N := 23) C dX6_count_84 (fun w h => List.mem_cons_of_mem _ (List.mem_append_right _ h)) 0 rfl rfl 16 (by decide) (List.mem_of_getElem? (i := 4) rfl) rfl rfl ?_
            have he : (f_X6_count Mal Mbs Mpl Mlo Mto Mtb v) = (Mto, 0) := by simp only [f_X6_count, hT1, if_neg c_2, if_neg c_7, if_neg c_8, if_neg c_9, if_pos c_11]
            exact hret _ _ _ _ dX6_count_87 (by first | rw [he] | rfl) (by first | rw [he] | rfl)
          · skip
            by_cases c_12 : v = 4
            · refine z_tableIn (off := 64) (tgt := 88) C dX6_count_24 (by rw [c_12]; decide) (by rw [c_12]; decide) (by rw [c_12]; decide) (by decide) ?_
              refine z_aload_n C dX6_count_88 rfl 0 rfl ?_
              refine z_get (ci := 5) (v := .int Mtb) (Cn := RX6) (T := TX6) (N := 23) C dX6_count_89 (fun w h => List.mem_cons_of_mem _ (List.mem_append_right _ h)) 0 rfl rfl 17 (by decide) (List.mem_of_getElem? (i := 5) rfl) rfl rfl ?_
              have he : (f_X6_count Mal Mbs Mpl Mlo Mto Mtb v) = (Mtb, 0) := by simp only [f_X6_count, hT1, if_neg c_2, if_neg c_7, if_neg c_8, if_neg c_9, if_neg c_11, if_pos c_12]
              exact hret _ _ _ _ dX6_count_92 (by first | rw [he] | rfl) (by first | rw [he] | rfl)
            · skip
              refine z_tableOut (tgt := 93) C dX6_count_24 (zsw_out5 c_7 c_8 c_9 c_11 c_12) (by decide) ?_
              refine z_aload_n C dX6_count_93 rfl 0 rfl ?_
              refine z_get (ci := 5) (v := .int Mbs) (Cn := RX6) (T := TX6) (N := 23) C dX6_count_94 (fun w h => List.mem_cons_of_mem _ (List.mem_append_right _ h)) 0 rfl rfl 4 (by decide) (List.mem_of_getElem? (i := 6) rfl) rfl rfl ?_
              have he : (f_X6_count Mal Mbs Mpl Mlo Mto Mtb v) = (Mbs, 0) := by simp only [f_X6_count, hT1, if_neg c_2, if_neg c_7, if_neg c_8, if_neg c_9, if_neg c_11, if_neg c_12]
              exact hret _ _ _ _ dX6_count_97 (by first | rw [he] | rfl) (by first | rw [he] | rfl)
def f_X6_told (MW : Nat → Int32) (MY : Nat → Int32) (Mto : Int32) (v : Int32) (x : Int32) : Int32 × Int32 :=
  if (f_X6_isIn x 0 1) = 0 then
    (0, 1)
  else
    if 100 ≤ Mto then
      if (f_X6_isIn v 0 (100 - 1)) = 0 then
        ((-1), 0)
      else
        if x = 0 then
          ((MW (v).toNatClampNeg), 0)
        else
          ((MY (v).toNatClampNeg), 0)
    else
      if (f_X6_isIn v 0 (Mto - 1)) = 0 then
        ((-1), 0)
      else
        if x = 0 then
          ((MW (v).toNatClampNeg), 0)
        else
          ((MY (v).toNatClampNeg), 0)
theorem ztold_a {a v r : Int32} (ht : zdok 1 a) (c0 : ¬ 100 ≤ a) (h : f_X6_isIn v 0 (a - 1) = r) (c : ¬ r = 0) : vp_in v 100 := by
  obtain ⟨h1, h2⟩ := zisIn h c
  obtain ⟨a1, a2⟩ := ht
  have o1 : (1 : Int32).toInt = 1 := rfl
  have oh : (100 : Int32).toInt = 100 := rfl
  have e : (a - 1).toInt = a.toInt - 1 := by rw [zsub] <;> rw [o1] <;> omega
  simp only [Int32.le_iff_toInt_le] at c0
  exact zin_tw h1 h2 (by decide) (by omega)
theorem ztold_b {a v r : Int32} (_ : zdok 1 a) (_ : 100 ≤ a) (h : f_X6_isIn v 0 (100 - 1) = r) (c : ¬ r = 0) : vp_in v 100 := by
  obtain ⟨h1, h2⟩ := zisIn h c
  exact zin_tw h1 h2 (by decide) (by decide)
set_option maxHeartbeats 4000000 in
set_option maxRecDepth 100000 in
theorem c_X6_told (l : Launch) (g : zG) (M ab au ah ar aw ay : Nat) (MB : Nat → Int32) (MU : Nat → Int32) (MH : Nat → Int32) (MR : Nat → Int32) (MW : Nat → Int32) (MY : Nat → Int32) (Mft : Int32) (Msz : Int32) (Mal : Int32) (Mbs : Int32) (Mpl : Int32) (Mbg : Int32) (Mlo : Int32) (Mhs : Int32) (Mhf : Int32) (Mhp : Int32) (Mrs : Int32) (Mrf : Int32) (Mto : Int32) (Mtb : Int32) (Mfr : Int32) (Mln : Int32) (Mhb : Int32) (v : Int32) (x : Int32) (ht : zdok 1 Mto) : zMI l yX6_told wsX6_told ({ frames := 1, cells := 0, slots := 0, locals := 22 }) g [.ref M, .int v, .int x] [(M, .inr (5, [.int Mft, .int Msz, .int Mal, .ref ab, .int Mbs, .ref au, .int Mpl, .int Mbg, .int Mlo, .int Mhs, .int Mhf, .ref ah, .int Mhp, .int Mrs, .int Mrf, .ref ar, .int Mto, .int Mtb, .ref aw, .ref ay, .int Mfr, .int Mln, .int Mhb])), (ab, .inl (g.2.2.1, 4096, .inl MB)), (au, .inl (g.2.2.1, 400, .inl MU)), (ah, .inl (g.2.2.1, 4096, .inl MH)), (ar, .inl (g.2.2.1, 4096, .inl MR)), (aw, .inl (g.2.2.1, 100, .inl MW)), (ay, .inl (g.2.2.1, 100, .inl MY))] ((f_X6_told MW MY Mto v x).1) [(M, .inr (5, [.int ((f_X6_told MW MY Mto v x).2), .int Msz, .int Mal, .ref ab, .int Mbs, .ref au, .int Mpl, .int Mbg, .int Mlo, .int Mhs, .int Mhf, .ref ah, .int Mhp, .int Mrs, .int Mrf, .ref ar, .int Mto, .int Mtb, .ref aw, .ref ay, .int Mfr, .int Mln, .int Mhb])), (ab, .inl (g.2.2.1, 4096, .inl MB)), (au, .inl (g.2.2.1, 400, .inl MU)), (ah, .inl (g.2.2.1, 4096, .inl MH)), (ar, .inl (g.2.2.1, 4096, .inl MR)), (aw, .inl (g.2.2.1, 100, .inl MW)), (ay, .inl (g.2.2.1, 100, .inl MY))] := by
  refine zMI_of (cc := cX6_told) (nL := 3) (ty := .int) (by decide) rfl (Nat.le_of_ble_eq_true rfl) rfl ?_
  intro X C hret
  refine z_lv (lv' := [(0, .ref M), (1, .int v), (2, .int x)]) [0, 1, 2] rfl ?_
  refine z_aload_n C dX6_told_0 rfl 0 rfl ?_
  refine z_iload_n C dX6_told_1 rfl 2 rfl ?_
  refine z_iconst (v := 0) C dX6_told_2 (by decide) ?_
  refine z_iconst (v := 1) C dX6_told_3 (by decide) ?_
  refine z_callSi (n := 3) (isC := []) (isR := [0, 1, 2, 3, 4, 5, 6]) (isP := [0, 1, 2, 3, 4, 5, 6]) (As := [.int x, .int 0, .int 1]) (rest := [.ref M]) (wr := [(M, .inr (5, [.int Mft, .int Msz, .int Mal, .ref ab, .int Mbs, .ref au, .int Mpl, .int Mbg, .int Mlo, .int Mhs, .int Mhf, .ref ah, .int Mhp, .int Mrs, .int Mrf, .ref ar, .int Mto, .int Mtb, .ref aw, .ref ay, .int Mfr, .int Mln, .int Mhb])), (ab, .inl (g.2.2.1, 4096, .inl MB)), (au, .inl (g.2.2.1, 400, .inl MU)), (ah, .inl (g.2.2.1, 4096, .inl MH)), (ar, .inl (g.2.2.1, 4096, .inl MR)), (aw, .inl (g.2.2.1, 100, .inl MW)), (ay, .inl (g.2.2.1, 100, .inl MY))]) (ws2 := [(M, .inr (5, [.int Mft, .int Msz, .int Mal, .ref ab, .int Mbs, .ref au, .int Mpl, .int Mbg, .int Mlo, .int Mhs, .int Mhf, .ref ah, .int Mhp, .int Mrs, .int Mrf, .ref ar, .int Mto, .int Mtb, .ref aw, .ref ay, .int Mfr, .int Mln, .int Mhb])), (ab, .inl (g.2.2.1, 4096, .inl MB)), (au, .inl (g.2.2.1, 400, .inl MU)), (ah, .inl (g.2.2.1, 4096, .inl MH)), (ar, .inl (g.2.2.1, 4096, .inl MR)), (aw, .inl (g.2.2.1, 100, .inl MW)), (ay, .inl (g.2.2.1, 100, .inl MY))]) C dX6_told_4 (c_X6_isIn (zl X) g x 0 1) gX6_told_X6_isIn rfl ⟨rfl, rfl⟩ (by decide +kernel) (by decide) (by decide) rfl rfl (Nat.le_of_ble_eq_true rfl) rfl rfl ⟨rfl, rfl, rfl⟩ (by decide) rfl ?_
  generalize hT1 : (f_X6_isIn x 0 1) = rq1
  refine z_if_eq (tgt := 14) C dX6_told_7 (by decide) (fun c_2 => ?_) (fun c_2 => ?_)
  · skip
    refine z_iconst (v := 1) C dX6_told_14 (by decide) ?_
    refine z_callVi (n := 1) (isC := [0, 1, 2, 3, 4, 5, 6]) (isR := []) (isP := [0, 1, 2, 3, 4, 5, 6]) (As := [.int 1]) (rest := []) (wr := []) (ws2 := [(M, .inr (5, [.int ((f_X6_refused 1).2), .int Msz, .int Mal, .ref ab, .int Mbs, .ref au, .int Mpl, .int Mbg, .int Mlo, .int Mhs, .int Mhf, .ref ah, .int Mhp, .int Mrs, .int Mrf, .ref ar, .int Mto, .int Mtb, .ref aw, .ref ay, .int Mfr, .int Mln, .int Mhb])), (ab, .inl (g.2.2.1, 4096, .inl MB)), (au, .inl (g.2.2.1, 400, .inl MU)), (ah, .inl (g.2.2.1, 4096, .inl MH)), (ar, .inl (g.2.2.1, 4096, .inl MR)), (aw, .inl (g.2.2.1, 100, .inl MW)), (ay, .inl (g.2.2.1, 100, .inl MY))]) C dX6_told_15 (c_X6_refused (zl X) g M ab au ah ar aw ay MB MU MH MR MW MY Mft Msz Mal Mbs Mpl Mbg Mlo Mhs Mhf Mhp Mrs Mrf Mto Mtb Mfr Mln Mhb 1) gX6_told_X6_refused rfl ⟨rfl, rfl⟩ (by decide +kernel) (by decide) (by decide) rfl rfl rfl rfl (Nat.le_of_ble_eq_true rfl) rfl rfl ⟨rfl, rfl, rfl⟩ (by decide) rfl ?_
    have hT3 : (f_X6_refused 1) = (1, 1) := by decide
    rw [hT3]
    refine z_if_eq (tgt := 23) C dX6_told_18 (by decide) (fun c_4 => absurd c_4 (by decide)) (fun c_4 => ?_)
    refine z_iconst (v := 0) C dX6_told_21 (by decide) ?_
    have he : (f_X6_told MW MY Mto v x) = (0, 1) := by simp only [f_X6_told, hT1, if_pos c_2]
    exact hret _ _ _ _ dX6_told_22 (by first | rw [he] | rfl) (by first | rw [he] | rfl)
  · skip
    refine z_iconst (v := 0) C dX6_told_10 (by decide) ?_
    refine z_goto (tgt := 15) C dX6_told_11 (by decide) ?_
    refine z_callVi (n := 1) (isC := [0, 1, 2, 3, 4, 5, 6]) (isR := []) (isP := [0, 1, 2, 3, 4, 5, 6]) (As := [.int 0]) (rest := []) (wr := []) (ws2 := [(M, .inr (5, [.int ((f_X6_refused 0).2), .int Msz, .int Mal, .ref ab, .int Mbs, .ref au, .int Mpl, .int Mbg, .int Mlo, .int Mhs, .int Mhf, .ref ah, .int Mhp, .int Mrs, .int Mrf, .ref ar, .int Mto, .int Mtb, .ref aw, .ref ay, .int Mfr, .int Mln, .int Mhb])), (ab, .inl (g.2.2.1, 4096, .inl MB)), (au, .inl (g.2.2.1, 400, .inl MU)), (ah, .inl (g.2.2.1, 4096, .inl MH)), (ar, .inl (g.2.2.1, 4096, .inl MR)), (aw, .inl (g.2.2.1, 100, .inl MW)), (ay, .inl (g.2.2.1, 100, .inl MY))]) C dX6_told_15 (c_X6_refused (zl X) g M ab au ah ar aw ay MB MU MH MR MW MY Mft Msz Mal Mbs Mpl Mbg Mlo Mhs Mhf Mhp Mrs Mrf Mto Mtb Mfr Mln Mhb 0) gX6_told_X6_refused rfl ⟨rfl, rfl⟩ (by decide +kernel) (by decide) (by decide) rfl rfl rfl rfl (Nat.le_of_ble_eq_true rfl) rfl rfl ⟨rfl, rfl, rfl⟩ (by decide) rfl ?_
    have hT5 : (f_X6_refused 0) = (0, 0) := by decide
    rw [hT5]
    refine z_if_eq (tgt := 23) C dX6_told_18 (by decide) (fun c_6 => ?_) (fun c_6 => absurd (by decide) c_6)
    refine z_iload_n C dX6_told_23 rfl 1 rfl ?_
    refine z_iconst (v := 0) C dX6_told_24 (by decide) ?_
    refine z_aload_n C dX6_told_25 rfl 0 rfl ?_
    refine z_get (ci := 5) (v := .int Mto) (Cn := RX6) (T := TX6) (N := 23) C dX6_told_26 (fun w h => List.mem_cons_of_mem _ (List.mem_append_right _ h)) 0 rfl rfl 16 (by decide) (List.mem_of_getElem? (i := 1) rfl) rfl rfl ?_
    refine z_bipush (v := 100) C dX6_told_29 (by decide) ?_
    refine z_icmp_ge (tgt := 41) C dX6_told_31 (by decide) (fun c_7 => ?_) (fun c_7 => ?_)
    · skip
      refine z_bipush (v := 100) C dX6_told_41 (by decide) ?_
      refine z_iconst (v := 1) C dX6_told_43 (by decide) ?_
      refine z_isub C dX6_told_44 ?_
      refine z_callSi (n := 3) (isC := []) (isR := [0, 1, 2, 3, 4, 5, 6]) (isP := [0, 1, 2, 3, 4, 5, 6]) (As := [.int v, .int 0, .int (100 - 1)]) (rest := []) (wr := [(M, .inr (5, [.int 0, .int Msz, .int Mal, .ref ab, .int Mbs, .ref au, .int Mpl, .int Mbg, .int Mlo, .int Mhs, .int Mhf, .ref ah, .int Mhp, .int Mrs, .int Mrf, .ref ar, .int Mto, .int Mtb, .ref aw, .ref ay, .int Mfr, .int Mln, .int Mhb])), (ab, .inl (g.2.2.1, 4096, .inl MB)), (au, .inl (g.2.2.1, 400, .inl MU)), (ah, .inl (g.2.2.1, 4096, .inl MH)), (ar, .inl (g.2.2.1, 4096, .inl MR)), (aw, .inl (g.2.2.1, 100, .inl MW)), (ay, .inl (g.2.2.1, 100, .inl MY))]) (ws2 := [(M, .inr (5, [.int 0, .int Msz, .int Mal, .ref ab, .int Mbs, .ref au, .int Mpl, .int Mbg, .int Mlo, .int Mhs, .int Mhf, .ref ah, .int Mhp, .int Mrs, .int Mrf, .ref ar, .int Mto, .int Mtb, .ref aw, .ref ay, .int Mfr, .int Mln, .int Mhb])), (ab, .inl (g.2.2.1, 4096, .inl MB)), (au, .inl (g.2.2.1, 400, .inl MU)), (ah, .inl (g.2.2.1, 4096, .inl MH)), (ar, .inl (g.2.2.1, 4096, .inl MR)), (aw, .inl (g.2.2.1, 100, .inl MW)), (ay, .inl (g.2.2.1, 100, .inl MY))]) C dX6_told_45 (c_X6_isIn (zl X) g v 0 (100 - 1)) gX6_told_X6_isIn rfl ⟨rfl, rfl⟩ (by decide +kernel) (by decide) (by decide) rfl rfl (Nat.le_of_ble_eq_true rfl) rfl rfl ⟨rfl, rfl, rfl⟩ (by decide) rfl ?_
      generalize hT8 : (f_X6_isIn v 0 (100 - 1)) = rq8
      refine z_if_ne (tgt := 53) C dX6_told_48 (by decide) (fun c_9 => ?_) (fun c_9 => ?_)
      · skip
        refine z_iload_n C dX6_told_53 rfl 2 rfl ?_
        refine z_if_ne (tgt := 66) C dX6_told_54 (by decide) (fun c_10 => ?_) (fun c_10 => ?_)
        · skip
          refine z_aload_n C dX6_told_66 rfl 0 rfl ?_
          refine z_get (ci := 5) (v := .ref ay) (Cn := RX6) (T := TX6) (N := 23) C dX6_told_67 (fun w h => List.mem_cons_of_mem _ (List.mem_append_right _ h)) 0 rfl rfl 19 (by decide) (List.mem_of_getElem? (i := 3) rfl) rfl rfl ?_
          refine z_iload_n C dX6_told_70 rfl 1 rfl ?_
          refine z_iald C dX6_told_71 6 rfl (ztold_b ht c_7 hT8 c_9) ?_
          have he : (f_X6_told MW MY Mto v x) = ((MY (v).toNatClampNeg), 0) := by simp only [f_X6_told, hT1, if_neg c_2, if_pos c_7, hT8, if_neg c_9, if_neg c_10]
          exact hret _ _ _ _ dX6_told_72 (by first | rw [he] | rfl) (by first | rw [he] | rfl)
        · skip
          refine z_aload_n C dX6_told_57 rfl 0 rfl ?_
          refine z_get (ci := 5) (v := .ref aw) (Cn := RX6) (T := TX6) (N := 23) C dX6_told_58 (fun w h => List.mem_cons_of_mem _ (List.mem_append_right _ h)) 0 rfl rfl 18 (by decide) (List.mem_of_getElem? (i := 2) rfl) rfl rfl ?_
          refine z_iload_n C dX6_told_61 rfl 1 rfl ?_
          refine z_iald C dX6_told_62 5 rfl (ztold_b ht c_7 hT8 c_9) ?_
          refine z_goto (tgt := 72) C dX6_told_63 (by decide) ?_
          have he : (f_X6_told MW MY Mto v x) = ((MW (v).toNatClampNeg), 0) := by simp only [f_X6_told, hT1, if_neg c_2, if_pos c_7, hT8, if_neg c_9, if_pos c_10]
          exact hret _ _ _ _ dX6_told_72 (by first | rw [he] | rfl) (by first | rw [he] | rfl)
      · skip
        refine z_iconst (v := (-1)) C dX6_told_51 (by decide) ?_
        have he : (f_X6_told MW MY Mto v x) = ((-1), 0) := by simp only [f_X6_told, hT1, if_neg c_2, if_pos c_7, hT8, if_pos c_9]
        exact hret _ _ _ _ dX6_told_52 (by first | rw [he] | rfl) (by first | rw [he] | rfl)
    · skip
      refine z_aload_n C dX6_told_34 rfl 0 rfl ?_
      refine z_get (ci := 5) (v := .int Mto) (Cn := RX6) (T := TX6) (N := 23) C dX6_told_35 (fun w h => List.mem_cons_of_mem _ (List.mem_append_right _ h)) 0 rfl rfl 16 (by decide) (List.mem_of_getElem? (i := 1) rfl) rfl rfl ?_
      refine z_goto (tgt := 43) C dX6_told_38 (by decide) ?_
      refine z_iconst (v := 1) C dX6_told_43 (by decide) ?_
      refine z_isub C dX6_told_44 ?_
      refine z_callSi (n := 3) (isC := []) (isR := [0, 1, 2, 3, 4, 5, 6]) (isP := [0, 1, 2, 3, 4, 5, 6]) (As := [.int v, .int 0, .int (Mto - 1)]) (rest := []) (wr := [(M, .inr (5, [.int 0, .int Msz, .int Mal, .ref ab, .int Mbs, .ref au, .int Mpl, .int Mbg, .int Mlo, .int Mhs, .int Mhf, .ref ah, .int Mhp, .int Mrs, .int Mrf, .ref ar, .int Mto, .int Mtb, .ref aw, .ref ay, .int Mfr, .int Mln, .int Mhb])), (ab, .inl (g.2.2.1, 4096, .inl MB)), (au, .inl (g.2.2.1, 400, .inl MU)), (ah, .inl (g.2.2.1, 4096, .inl MH)), (ar, .inl (g.2.2.1, 4096, .inl MR)), (aw, .inl (g.2.2.1, 100, .inl MW)), (ay, .inl (g.2.2.1, 100, .inl MY))]) (ws2 := [(M, .inr (5, [.int 0, .int Msz, .int Mal, .ref ab, .int Mbs, .ref au, .int Mpl, .int Mbg, .int Mlo, .int Mhs, .int Mhf, .ref ah, .int Mhp, .int Mrs, .int Mrf, .ref ar, .int Mto, .int Mtb, .ref aw, .ref ay, .int Mfr, .int Mln, .int Mhb])), (ab, .inl (g.2.2.1, 4096, .inl MB)), (au, .inl (g.2.2.1, 400, .inl MU)), (ah, .inl (g.2.2.1, 4096, .inl MH)), (ar, .inl (g.2.2.1, 4096, .inl MR)), (aw, .inl (g.2.2.1, 100, .inl MW)), (ay, .inl (g.2.2.1, 100, .inl MY))]) C dX6_told_45 (c_X6_isIn (zl X) g v 0 (Mto - 1)) gX6_told_X6_isIn rfl ⟨rfl, rfl⟩ (by decide +kernel) (by decide) (by decide) rfl rfl (Nat.le_of_ble_eq_true rfl) rfl rfl ⟨rfl, rfl, rfl⟩ (by decide) rfl ?_
      generalize hT11 : (f_X6_isIn v 0 (Mto - 1)) = rq11
      refine z_if_ne (tgt := 53) C dX6_told_48 (by decide) (fun c_12 => ?_) (fun c_12 => ?_)
      · skip
        refine z_iload_n C dX6_told_53 rfl 2 rfl ?_
        refine z_if_ne (tgt := 66) C dX6_told_54 (by decide) (fun c_13 => ?_) (fun c_13 => ?_)
        · skip
          refine z_aload_n C dX6_told_66 rfl 0 rfl ?_
          refine z_get (ci := 5) (v := .ref ay) (Cn := RX6) (T := TX6) (N := 23) C dX6_told_67 (fun w h => List.mem_cons_of_mem _ (List.mem_append_right _ h)) 0 rfl rfl 19 (by decide) (List.mem_of_getElem? (i := 3) rfl) rfl rfl ?_
          refine z_iload_n C dX6_told_70 rfl 1 rfl ?_
          refine z_iald C dX6_told_71 6 rfl (ztold_a ht c_7 hT11 c_12) ?_
          have he : (f_X6_told MW MY Mto v x) = ((MY (v).toNatClampNeg), 0) := by simp only [f_X6_told, hT1, if_neg c_2, if_neg c_7, hT11, if_neg c_12, if_neg c_13]
          exact hret _ _ _ _ dX6_told_72 (by first | rw [he] | rfl) (by first | rw [he] | rfl)
        · skip
          refine z_aload_n C dX6_told_57 rfl 0 rfl ?_
          refine z_get (ci := 5) (v := .ref aw) (Cn := RX6) (T := TX6) (N := 23) C dX6_told_58 (fun w h => List.mem_cons_of_mem _ (List.mem_append_right _ h)) 0 rfl rfl 18 (by decide) (List.mem_of_getElem? (i := 2) rfl) rfl rfl ?_
          refine z_iload_n C dX6_told_61 rfl 1 rfl ?_
          refine z_iald C dX6_told_62 5 rfl (ztold_a ht c_7 hT11 c_12) ?_
          refine z_goto (tgt := 72) C dX6_told_63 (by decide) ?_
          have he : (f_X6_told MW MY Mto v x) = ((MW (v).toNatClampNeg), 0) := by simp only [f_X6_told, hT1, if_neg c_2, if_neg c_7, hT11, if_neg c_12, if_pos c_13]
          exact hret _ _ _ _ dX6_told_72 (by first | rw [he] | rfl) (by first | rw [he] | rfl)
      · skip
        refine z_iconst (v := (-1)) C dX6_told_51 (by decide) ?_
        have he : (f_X6_told MW MY Mto v x) = ((-1), 0) := by simp only [f_X6_told, hT1, if_neg c_2, if_neg c_7, hT11, if_pos c_12]
        exact hret _ _ _ _ dX6_told_52 (by first | rw [he] | rfl) (by first | rw [he] | rfl)
