def lp_X0_addPieces (F2 : Nat → Int32) (z : Int32) (m2 : Int32) : Nat → Int32 → Int32 → (Nat → Int32) → Int32 → Int32 × (Nat → Int32) × Int32
  | 0, _, _, _, _ => (0, fun _ => 0, 0)
  | n + 1, dn, pv, F_, m_ =>
    if 400 < pv then
      (0, F_, m_)
    else
      match (f_X0_fillBlock F_ z m_) with
      | (rq2, Fq2, mq2) =>
        if rq2 = 0 then
          (0, Fq2, mq2)
        else
          if (dn + (zMin (m2 - dn) ((((mq2 - (zMod mq2 z)) + z) - mq2) - 7))) = m2 then
            if pv = 0 then
              match (f_X0_addFragment Fq2 F2 mq2 m2 (f_X0_kindOf 1 1) dn (zMin (m2 - dn) ((((mq2 - (zMod mq2 z)) + z) - mq2) - 7))) with
              | (rq23, Fq23, mq23) =>
                if rq23 = 0 then
                  (0, Fq23, mq23)
                else
                  (1, Fq23, mq23)
            else
              match (f_X0_addFragment Fq2 F2 mq2 m2 (f_X0_kindOf 0 1) dn (zMin (m2 - dn) ((((mq2 - (zMod mq2 z)) + z) - mq2) - 7))) with
              | (rq19, Fq19, mq19) =>
                if rq19 = 0 then
                  (0, Fq19, mq19)
                else
                  (1, Fq19, mq19)
          else
            if pv = 0 then
              match (f_X0_addFragment Fq2 F2 mq2 m2 (f_X0_kindOf 1 0) dn (zMin (m2 - dn) ((((mq2 - (zMod mq2 z)) + z) - mq2) - 7))) with
              | (rq14, Fq14, mq14) =>
                if rq14 = 0 then
                  (0, Fq14, mq14)
                else
                  lp_X0_addPieces F2 z m2 n (dn + (zMin (m2 - dn) ((((mq2 - (zMod mq2 z)) + z) - mq2) - 7))) (pv + 1) Fq14 mq14
            else
              match (f_X0_addFragment Fq2 F2 mq2 m2 (f_X0_kindOf 0 0) dn (zMin (m2 - dn) ((((mq2 - (zMod mq2 z)) + z) - mq2) - 7))) with
              | (rq10, Fq10, mq10) =>
                if rq10 = 0 then
                  (0, Fq10, mq10)
                else
                  lp_X0_addPieces F2 z m2 n (dn + (zMin (m2 - dn) ((((mq2 - (zMod mq2 z)) + z) - mq2) - 7))) (pv + 1) Fq10 mq10
def f_X0_addPieces (F : Nat → Int32) (F2 : Nat → Int32) (z : Int32) (m : Int32) (m2 : Int32) : Int32 × (Nat → Int32) × Int32 :=
  lp_X0_addPieces F2 z m2 402 0 0 F m
theorem zbool_lp_X0_addPieces (F2 : Nat → Int32) (z m2 : Int32) : ∀ (n : Nat) (dn pv : Int32) (F : Nat → Int32) (m : Int32), narrow .boolean (.int (lp_X0_addPieces F2 z m2 n dn pv F m).1) = .int (lp_X0_addPieces F2 z m2 n dn pv F m).1 := by
  intro n
  induction n with
  | zero => intros; unfold lp_X0_addPieces; (try dsimp only); rfl
  | succ n ih =>
    intro dn pv F m
    unfold lp_X0_addPieces
    repeat' split
    all_goals first | exact ih _ _ _ _ | ((try dsimp only); rfl)
theorem zbool_X0_addPieces (F F2 : Nat → Int32) (z m m2 : Int32) : narrow .boolean (.int (f_X0_addPieces F F2 z m m2).1) = .int (f_X0_addPieces F F2 z m m2).1 := zbool_lp_X0_addPieces _ _ _ _ _ _ _ _
theorem zok_lp_X0_addPieces {N2 : Nat} {F2 : Nat → Int32} {z m2 : Int32} (hz : zsz z) (hm2 : zok N2 m2) : ∀ (n : Nat) (dn pv : Int32) (F : Nat → Int32) (m : Int32), zok 4096 m → zok 4096 (lp_X0_addPieces F2 z m2 n dn pv F m).2.2 := by
  intro n
  induction n with
  | zero => intro dn pv F m hm; show zok 4096 0; exact ⟨by decide, by decide, by decide⟩
  | succ n ih =>
    intro dn pv F m hm
    unfold lp_X0_addPieces
    split
    · exact hm
    · split
      next r1 F1 m1 e1 =>
      have k1 := zok_X0_fillBlock hz hm e1
      repeat' split
      all_goals first | exact k1 | (next e2 _ => exact zok_X0_addFragment k1 hm2 e2) | (next e2 _ _ => exact zok_X0_addFragment k1 hm2 e2) | (next e2 _ => exact ih _ _ _ _ (zok_X0_addFragment k1 hm2 e2)) | (next e2 _ _ => exact ih _ _ _ _ (zok_X0_addFragment k1 hm2 e2))
theorem zok_X0_addPieces {N2 : Nat} {F F1 F2 : Nat → Int32} {z m m2 r m1 : Int32} (hz : zsz z) (hm : zok 4096 m) (hm2 : zok N2 m2) (h : f_X0_addPieces F F2 z m m2 = (r, F1, m1)) : zok 4096 m1 := by
  have := zok_lp_X0_addPieces (F2 := F2) hz hm2 402 0 0 F m hm
  have e : lp_X0_addPieces F2 z m2 402 0 0 F m = (r, F1, m1) := h
  rw [e] at this
  exact this
set_option maxHeartbeats 4000000 in
set_option maxRecDepth 100000 in
theorem c_X0_addPieces (l : Launch) (g : zG) (b br ba h2 a2 : Nat) (N2 : Nat) (F : Nat → Int32) (F2 : Nat → Int32) (z : Int32) (m : Int32) (m2 : Int32) (hz : zsz z) (hm : zok 4096 m) (hm2 : zok N2 m2) : zMI l yX0_addPieces wsX0_addPieces ({ frames := 4, cells := 0, slots := 0, locals := 83 }) g [.ref b, .ref h2] [(b, .inr (0, [.ref br, .int z])), (br, .inr (3, [.ref ba, .int m])), (ba, .inl (g.2.1, 4096, .inl F)), (h2, .inr (3, [.ref a2, .int m2])), (a2, .inl (g.2.1, N2, .inl F2))] ((f_X0_addPieces F F2 z m m2).1) [(b, .inr (0, [.ref br, .int z])), (br, .inr (3, [.ref ba, .int ((f_X0_addPieces F F2 z m m2).2.2)])), (ba, .inl (g.2.1, 4096, .inl ((f_X0_addPieces F F2 z m m2).2.1))), (h2, .inr (3, [.ref a2, .int m2])), (a2, .inl (g.2.1, N2, .inl F2))] := by
  refine zMI_of (cc := cX0_addPieces) (nL := 6) (ty := .boolean) (by decide) rfl (Nat.le_of_ble_eq_true rfl) (zbool_X0_addPieces _ _ _ _ _) ?_
  intro X C hret
  refine z_lv (lv' := [(0, .ref b), (1, .ref h2)]) [0, 1] rfl ?_
  refine z_iconst (v := 0) C dX0_addPieces_0 (by decide) ?_
  refine z_istore_n (lv' := [(2, .int 0), (0, .ref b), (1, .ref h2)]) C dX0_addPieces_1 rfl (by decide) rfl ?_
  refine z_iconst (v := 0) C dX0_addPieces_2 (by decide) ?_
  refine z_istore_n (lv' := [(3, .int 0), (2, .int 0), (0, .ref b), (1, .ref h2)]) C dX0_addPieces_3 rfl (by decide) rfl ?_
  have loop : ∀ (n : Nat) (dn : Int32) (pv : Int32) (F_ : Nat → Int32) (m_ : Int32), zfuel 400 n pv → zok 4096 m_ → lp_X0_addPieces F2 z m2 n dn pv F_ m_ = (f_X0_addPieces F F2 z m m2) → zV X g 6 0 0 4 [(0, .ref b), (1, .ref h2), (2, .int dn), (3, .int pv)] [] [(b, .inr (0, [.ref br, .int z])), (br, .inr (3, [.ref ba, .int m_])), (ba, .inl (g.2.1, 4096, .inl F_)), (h2, .inr (3, [.ref a2, .int m2])), (a2, .inl (g.2.1, N2, .inl F2))] := by
    intro n
    induction n with
    | zero =>
      intro dn pv F_ m_ hp hm_ hv
      exact absurd (zfuel_0 hp) id
    | succ n ih =>
      intro dn pv F_ m_ hp hm_ hv
      refine z_iload_n C dX0_addPieces_4 rfl 3 rfl ?_
      refine z_sipush (v := 400) C dX0_addPieces_5 (by decide) ?_
      refine z_icmp_gt (tgt := 101) C dX0_addPieces_8 (by decide) (fun c_1 => ?_) (fun c_1 => ?_)
      · skip
        refine z_iconst (v := 0) C dX0_addPieces_101 (by decide) ?_
        have he : (f_X0_addPieces F F2 z m m2) = (0, F_, m_) := by rw [← hv]; simp only [lp_X0_addPieces, if_pos c_1]
        exact hret _ _ _ _ dX0_addPieces_102 (by first | rw [he] | rfl) (by first | rw [he] | rfl)
      · skip
        refine z_aload_n C dX0_addPieces_11 rfl 0 rfl ?_
        refine z_callVi (n := 0) (isC := [0, 1, 2]) (isR := [3, 4]) (isP := [2, 3, 4, 0, 1]) (As := []) (rest := []) (wr := [(h2, .inr (3, [.ref a2, .int m2])), (a2, .inl (g.2.1, N2, .inl F2))]) (ws2 := [(b, .inr (0, [.ref br, .int z])), (br, .inr (3, [.ref ba, .int ((f_X0_fillBlock F_ z m_).2.2)])), (ba, .inl (g.2.1, 4096, .inl ((f_X0_fillBlock F_ z m_).2.1))), (h2, .inr (3, [.ref a2, .int m2])), (a2, .inl (g.2.1, N2, .inl F2))]) C dX0_addPieces_12 (c_X0_fillBlock (zl X) g b br ba F_ z m_ hz hm_) gX0_addPieces_X0_fillBlock rfl ⟨rfl, rfl⟩ (by decide +kernel) (by decide) (by decide) rfl rfl rfl rfl (Nat.le_of_ble_eq_true rfl) rfl rfl ⟨rfl, rfl, rfl⟩ (by decide) rfl ?_
        generalize hT2 : (f_X0_fillBlock F_ z m_) = T2
        obtain ⟨rq2, Fq2, mq2⟩ := T2
        have k2_m : zok 4096 mq2 := zok_X0_fillBlock hz hm_ hT2
        refine z_if_ne (tgt := 20) C dX0_addPieces_15 (by decide) (fun c_3 => ?_) (fun c_3 => ?_)
        · skip
          refine z_aload_n C dX0_addPieces_20 rfl 1 rfl ?_
          refine z_callVi (n := 0) (isC := [3, 4]) (isR := [0, 1, 2]) (isP := [0, 1, 2, 3, 4]) (As := []) (rest := []) (wr := [(b, .inr (0, [.ref br, .int z])), (br, .inr (3, [.ref ba, .int mq2])), (ba, .inl (g.2.1, 4096, .inl Fq2))]) (ws2 := [(b, .inr (0, [.ref br, .int z])), (br, .inr (3, [.ref ba, .int mq2])), (ba, .inl (g.2.1, 4096, .inl Fq2)), (h2, .inr (3, [.ref a2, .int m2])), (a2, .inl (g.2.1, N2, .inl F2))]) C dX0_addPieces_21 (c_X3_many (zl X) g h2 a2 N2 F2 m2) gX0_addPieces_X3_many rfl ⟨rfl, rfl⟩ (by decide +kernel) (by decide) (by decide) rfl rfl rfl rfl (Nat.le_of_ble_eq_true rfl) rfl rfl ⟨rfl, rfl, rfl⟩ (by decide) rfl ?_
          refine z_iload_n C dX0_addPieces_24 rfl 2 rfl ?_
          refine z_isub C dX0_addPieces_25 ?_
          refine z_aload_n C dX0_addPieces_26 rfl 0 rfl ?_
          refine z_callVi (n := 0) (isC := [0, 1, 2]) (isR := [3, 4]) (isP := [2, 3, 4, 0, 1]) (As := []) (rest := [.int (m2 - dn)]) (wr := [(h2, .inr (3, [.ref a2, .int m2])), (a2, .inl (g.2.1, N2, .inl F2))]) (ws2 := [(b, .inr (0, [.ref br, .int z])), (br, .inr (3, [.ref ba, .int mq2])), (ba, .inl (g.2.1, 4096, .inl Fq2)), (h2, .inr (3, [.ref a2, .int m2])), (a2, .inl (g.2.1, N2, .inl F2))]) C dX0_addPieces_27 (c_X0_roomInBlock (zl X) g b br ba Fq2 z mq2 hz) gX0_addPieces_X0_roomInBlock rfl ⟨rfl, rfl⟩ (by decide +kernel) (by decide) (by decide) rfl rfl rfl rfl (Nat.le_of_ble_eq_true rfl) rfl rfl ⟨rfl, rfl, rfl⟩ (by decide) rfl ?_
          refine z_bipush (v := 7) C dX0_addPieces_30 (by decide) ?_
          refine z_isub C dX0_addPieces_32 ?_
          refine z_min C dX0_addPieces_33 (List.mem_of_getElem? (i := 1) rfl) (List.mem_of_getElem? (i := 2) rfl) (List.mem_of_getElem? (i := 3) rfl) (List.mem_of_getElem? (i := 4) rfl) (by decide) (Nat.le_of_ble_eq_true rfl) (by decide) (by decide) ?_
          refine z_istore (lv' := [(4, .int (zMin (m2 - dn) ((((mq2 - (zMod mq2 z)) + z) - mq2) - 7))), (0, .ref b), (1, .ref h2), (2, .int dn), (3, .int pv)]) C dX0_addPieces_36 (by decide) rfl ?_
          refine z_iload_n C dX0_addPieces_38 rfl 3 rfl ?_
          refine z_iload C dX0_addPieces_39 0 rfl ?_
          refine z_iadd C dX0_addPieces_41 ?_
          refine z_aload_n C dX0_addPieces_42 rfl 2 rfl ?_
          refine z_callVi (n := 0) (isC := [3, 4]) (isR := [0, 1, 2]) (isP := [0, 1, 2, 3, 4]) (As := []) (rest := [.int (dn + (zMin (m2 - dn) ((((mq2 - (zMod mq2 z)) + z) - mq2) - 7)))]) (wr := [(b, .inr (0, [.ref br, .int z])), (br, .inr (3, [.ref ba, .int mq2])), (ba, .inl (g.2.1, 4096, .inl Fq2))]) (ws2 := [(b, .inr (0, [.ref br, .int z])), (br, .inr (3, [.ref ba, .int mq2])), (ba, .inl (g.2.1, 4096, .inl Fq2)), (h2, .inr (3, [.ref a2, .int m2])), (a2, .inl (g.2.1, N2, .inl F2))]) C dX0_addPieces_43 (c_X3_many (zl X) g h2 a2 N2 F2 m2) gX0_addPieces_X3_many rfl ⟨rfl, rfl⟩ (by decide +kernel) (by decide) (by decide) rfl rfl rfl rfl (Nat.le_of_ble_eq_true rfl) rfl rfl ⟨rfl, rfl, rfl⟩ (by decide) rfl ?_
          refine z_icmp_ne (tgt := 53) C dX0_addPieces_46 (by decide) (fun c_7 => ?_) (fun c_7 => ?_)
          · skip
            refine z_iconst (v := 0) C dX0_addPieces_53 (by decide) ?_
            refine z_istore (lv' := [(5, .int 0), (4, .int (zMin (m2 - dn) ((((mq2 - (zMod mq2 z)) + z) - mq2) - 7))), (0, .ref b), (1, .ref h2), (2, .int dn), (3, .int pv)]) C dX0_addPieces_54 (by decide) rfl ?_
            refine z_aload_n C dX0_addPieces_56 rfl 2 rfl ?_
            refine z_iload_n C dX0_addPieces_57 rfl 5 rfl ?_
            refine z_if_ne (tgt := 65) C dX0_addPieces_58 (by decide) (fun c_8 => ?_) (fun c_8 => ?_)
            · skip
              refine z_iconst (v := 0) C dX0_addPieces_65 (by decide) ?_
              refine z_iload C dX0_addPieces_66 0 rfl ?_
              refine z_callSi (n := 2) (isC := []) (isR := [0, 1, 2, 3, 4]) (isP := [0, 1, 2, 3, 4]) (As := [.int 0, .int 0]) (rest := [.ref b]) (wr := [(b, .inr (0, [.ref br, .int z])), (br, .inr (3, [.ref ba, .int mq2])), (ba, .inl (g.2.1, 4096, .inl Fq2)), (h2, .inr (3, [.ref a2, .int m2])), (a2, .inl (g.2.1, N2, .inl F2))]) (ws2 := [(b, .inr (0, [.ref br, .int z])), (br, .inr (3, [.ref ba, .int mq2])), (ba, .inl (g.2.1, 4096, .inl Fq2)), (h2, .inr (3, [.ref a2, .int m2])), (a2, .inl (g.2.1, N2, .inl F2))]) C dX0_addPieces_68 (c_X0_kindOf (zl X) g 0 0) gX0_addPieces_X0_kindOf rfl ⟨rfl, rfl⟩ (by decide +kernel) (by decide) (by decide) rfl rfl (Nat.le_of_ble_eq_true rfl) rfl rfl ⟨rfl, rfl, rfl⟩ (by decide) rfl ?_
              generalize hT9 : (f_X0_kindOf 0 0) = rq9
              refine z_aload_n C dX0_addPieces_71 rfl 3 rfl ?_
              refine z_iload_n C dX0_addPieces_72 rfl 4 rfl ?_
              refine z_iload C dX0_addPieces_73 1 rfl ?_
              refine z_callVi (n := 4) (isC := [0, 1, 2, 3, 4]) (isR := []) (isP := [0, 1, 2, 3, 4]) (As := [.int rq9, .ref h2, .int dn, .int (zMin (m2 - dn) ((((mq2 - (zMod mq2 z)) + z) - mq2) - 7))]) (rest := []) (wr := []) (ws2 := [(b, .inr (0, [.ref br, .int z])), (br, .inr (3, [.ref ba, .int ((f_X0_addFragment Fq2 F2 mq2 m2 rq9 dn (zMin (m2 - dn) ((((mq2 - (zMod mq2 z)) + z) - mq2) - 7))).2.2)])), (ba, .inl (g.2.1, 4096, .inl ((f_X0_addFragment Fq2 F2 mq2 m2 rq9 dn (zMin (m2 - dn) ((((mq2 - (zMod mq2 z)) + z) - mq2) - 7))).2.1))), (h2, .inr (3, [.ref a2, .int m2])), (a2, .inl (g.2.1, N2, .inl F2))]) C dX0_addPieces_75 (c_X0_addFragment (zl X) g b br ba h2 a2 N2 Fq2 F2 z mq2 m2 rq9 dn (zMin (m2 - dn) ((((mq2 - (zMod mq2 z)) + z) - mq2) - 7)) k2_m hm2) gX0_addPieces_X0_addFragment rfl ⟨rfl, rfl⟩ (by decide +kernel) (by decide) (by decide) rfl rfl rfl rfl (Nat.le_of_ble_eq_true rfl) rfl rfl ⟨rfl, rfl, rfl⟩ (by decide) rfl ?_
              generalize hT10 : (f_X0_addFragment Fq2 F2 mq2 m2 rq9 dn (zMin (m2 - dn) ((((mq2 - (zMod mq2 z)) + z) - mq2) - 7))) = T10
              obtain ⟨rq10, Fq10, mq10⟩ := T10
              have k10_m : zok 4096 mq10 := zok_X0_addFragment k2_m hm2 hT10
              refine z_if_ne (tgt := 83) C dX0_addPieces_78 (by decide) (fun c_11 => ?_) (fun c_11 => ?_)
              · skip
                refine z_iload_n C dX0_addPieces_83 rfl 4 rfl ?_
                refine z_iload C dX0_addPieces_84 1 rfl ?_
                refine z_iadd C dX0_addPieces_86 ?_
                refine z_istore_n (lv' := [(2, .int (dn + (zMin (m2 - dn) ((((mq2 - (zMod mq2 z)) + z) - mq2) - 7)))), (5, .int 0), (4, .int (zMin (m2 - dn) ((((mq2 - (zMod mq2 z)) + z) - mq2) - 7))), (0, .ref b), (1, .ref h2), (3, .int pv)]) C dX0_addPieces_87 rfl (by decide) rfl ?_
                refine z_iload C dX0_addPieces_88 1 rfl ?_
                refine z_if_eq (tgt := 95) C dX0_addPieces_90 (by decide) (fun c_12 => ?_) (fun c_12 => absurd (by decide) c_12)
                refine z_iinc (v := (pv + 1)) (lv' := [(3, .int (pv + 1)), (2, .int (dn + (zMin (m2 - dn) ((((mq2 - (zMod mq2 z)) + z) - mq2) - 7)))), (5, .int 0), (4, .int (zMin (m2 - dn) ((((mq2 - (zMod mq2 z)) + z) - mq2) - 7))), (0, .ref b), (1, .ref h2)]) C dX0_addPieces_95 5 rfl rfl (by decide) rfl ?_
                refine z_goto (tgt := 4) C dX0_addPieces_98 (by decide) ?_
                exact z_lv [4, 5, 1, 0] rfl (ih (dn + (zMin (m2 - dn) ((((mq2 - (zMod mq2 z)) + z) - mq2) - 7))) (pv + 1) Fq10 mq10 (zfuel_s (by decide) hp c_1) k10_m (by rw [← hv]; simp only [lp_X0_addPieces, if_neg c_1, hT2, if_neg c_3, if_neg c_7, if_neg c_8, hT9, hT10, if_neg c_11]))
              · skip
                refine z_iconst (v := 0) C dX0_addPieces_81 (by decide) ?_
                have he : (f_X0_addPieces F F2 z m m2) = (0, Fq10, mq10) := by rw [← hv]; simp only [lp_X0_addPieces, if_neg c_1, hT2, if_neg c_3, if_neg c_7, if_neg c_8, hT9, hT10, if_pos c_11]
                exact hret _ _ _ _ dX0_addPieces_82 (by first | rw [he] | rfl) (by first | rw [he] | rfl)
            · skip
              refine z_iconst (v := 1) C dX0_addPieces_61 (by decide) ?_
              refine z_goto (tgt := 66) C dX0_addPieces_62 (by decide) ?_
              refine z_iload C dX0_addPieces_66 0 rfl ?_
              refine z_callSi (n := 2) (isC := []) (isR := [0, 1, 2, 3, 4]) (isP := [0, 1, 2, 3, 4]) (As := [.int 1, .int 0]) (rest := [.ref b]) (wr := [(b, .inr (0, [.ref br, .int z])), (br, .inr (3, [.ref ba, .int mq2])), (ba, .inl (g.2.1, 4096, .inl Fq2)), (h2, .inr (3, [.ref a2, .int m2])), (a2, .inl (g.2.1, N2, .inl F2))]) (ws2 := [(b, .inr (0, [.ref br, .int z])), (br, .inr (3, [.ref ba, .int mq2])), (ba, .inl (g.2.1, 4096, .inl Fq2)), (h2, .inr (3, [.ref a2, .int m2])), (a2, .inl (g.2.1, N2, .inl F2))]) C dX0_addPieces_68 (c_X0_kindOf (zl X) g 1 0) gX0_addPieces_X0_kindOf rfl ⟨rfl, rfl⟩ (by decide +kernel) (by decide) (by decide) rfl rfl (Nat.le_of_ble_eq_true rfl) rfl rfl ⟨rfl, rfl, rfl⟩ (by decide) rfl ?_
              generalize hT13 : (f_X0_kindOf 1 0) = rq13
              refine z_aload_n C dX0_addPieces_71 rfl 3 rfl ?_
              refine z_iload_n C dX0_addPieces_72 rfl 4 rfl ?_
              refine z_iload C dX0_addPieces_73 1 rfl ?_
              refine z_callVi (n := 4) (isC := [0, 1, 2, 3, 4]) (isR := []) (isP := [0, 1, 2, 3, 4]) (As := [.int rq13, .ref h2, .int dn, .int (zMin (m2 - dn) ((((mq2 - (zMod mq2 z)) + z) - mq2) - 7))]) (rest := []) (wr := []) (ws2 := [(b, .inr (0, [.ref br, .int z])), (br, .inr (3, [.ref ba, .int ((f_X0_addFragment Fq2 F2 mq2 m2 rq13 dn (zMin (m2 - dn) ((((mq2 - (zMod mq2 z)) + z) - mq2) - 7))).2.2)])), (ba, .inl (g.2.1, 4096, .inl ((f_X0_addFragment Fq2 F2 mq2 m2 rq13 dn (zMin (m2 - dn) ((((mq2 - (zMod mq2 z)) + z) - mq2) - 7))).2.1))), (h2, .inr (3, [.ref a2, .int m2])), (a2, .inl (g.2.1, N2, .inl F2))]) C dX0_addPieces_75 (c_X0_addFragment (zl X) g b br ba h2 a2 N2 Fq2 F2 z mq2 m2 rq13 dn (zMin (m2 - dn) ((((mq2 - (zMod mq2 z)) + z) - mq2) - 7)) k2_m hm2) gX0_addPieces_X0_addFragment rfl ⟨rfl, rfl⟩ (by decide +kernel) (by decide) (by decide) rfl rfl rfl rfl (Nat.le_of_ble_eq_true rfl) rfl rfl ⟨rfl, rfl, rfl⟩ (by decide) rfl ?_
              generalize hT14 : (f_X0_addFragment Fq2 F2 mq2 m2 rq13 dn (zMin (m2 - dn) ((((mq2 - (zMod mq2 z)) + z) - mq2) - 7))) = T14
              obtain ⟨rq14, Fq14, mq14⟩ := T14
              have k14_m : zok 4096 mq14 := zok_X0_addFragment k2_m hm2 hT14
              refine z_if_ne (tgt := 83) C dX0_addPieces_78 (by decide) (fun c_15 => ?_) (fun c_15 => ?_)
              · skip
                refine z_iload_n C dX0_addPieces_83 rfl 4 rfl ?_
                refine z_iload C dX0_addPieces_84 1 rfl ?_
                refine z_iadd C dX0_addPieces_86 ?_
                refine z_istore_n (lv' := [(2, .int (dn + (zMin (m2 - dn) ((((mq2 - (zMod mq2 z)) + z) - mq2) - 7)))), (5, .int 0), (4, .int (zMin (m2 - dn) ((((mq2 - (zMod mq2 z)) + z) - mq2) - 7))), (0, .ref b), (1, .ref h2), (3, .int pv)]) C dX0_addPieces_87 rfl (by decide) rfl ?_
                refine z_iload C dX0_addPieces_88 1 rfl ?_
                refine z_if_eq (tgt := 95) C dX0_addPieces_90 (by decide) (fun c_16 => ?_) (fun c_16 => absurd (by decide) c_16)
                refine z_iinc (v := (pv + 1)) (lv' := [(3, .int (pv + 1)), (2, .int (dn + (zMin (m2 - dn) ((((mq2 - (zMod mq2 z)) + z) - mq2) - 7)))), (5, .int 0), (4, .int (zMin (m2 - dn) ((((mq2 - (zMod mq2 z)) + z) - mq2) - 7))), (0, .ref b), (1, .ref h2)]) C dX0_addPieces_95 5 rfl rfl (by decide) rfl ?_
                refine z_goto (tgt := 4) C dX0_addPieces_98 (by decide) ?_
                exact z_lv [4, 5, 1, 0] rfl (ih (dn + (zMin (m2 - dn) ((((mq2 - (zMod mq2 z)) + z) - mq2) - 7))) (pv + 1) Fq14 mq14 (zfuel_s (by decide) hp c_1) k14_m (by rw [← hv]; simp only [lp_X0_addPieces, if_neg c_1, hT2, if_neg c_3, if_neg c_7, if_pos c_8, hT13, hT14, if_neg c_15]))
              · skip
                refine z_iconst (v := 0) C dX0_addPieces_81 (by decide) ?_
                have he : (f_X0_addPieces F F2 z m m2) = (0, Fq14, mq14) := by rw [← hv]; simp only [lp_X0_addPieces, if_neg c_1, hT2, if_neg c_3, if_neg c_7, if_pos c_8, hT13, hT14, if_pos c_15]
                exact hret _ _ _ _ dX0_addPieces_82 (by first | rw [he] | rfl) (by first | rw [he] | rfl)
          · skip
            refine z_iconst (v := 1) C dX0_addPieces_49 (by decide) ?_
            refine z_goto (tgt := 54) C dX0_addPieces_50 (by decide) ?_
            refine z_istore (lv' := [(5, .int 1), (4, .int (zMin (m2 - dn) ((((mq2 - (zMod mq2 z)) + z) - mq2) - 7))), (0, .ref b), (1, .ref h2), (2, .int dn), (3, .int pv)]) C dX0_addPieces_54 (by decide) rfl ?_
            refine z_aload_n C dX0_addPieces_56 rfl 2 rfl ?_
            refine z_iload_n C dX0_addPieces_57 rfl 5 rfl ?_
            refine z_if_ne (tgt := 65) C dX0_addPieces_58 (by decide) (fun c_17 => ?_) (fun c_17 => ?_)
            · skip
              refine z_iconst (v := 0) C dX0_addPieces_65 (by decide) ?_
              refine z_iload C dX0_addPieces_66 0 rfl ?_
              refine z_callSi (n := 2) (isC := []) (isR := [0, 1, 2, 3, 4]) (isP := [0, 1, 2, 3, 4]) (As := [.int 0, .int 1]) (rest := [.ref b]) (wr := [(b, .inr (0, [.ref br, .int z])), (br, .inr (3, [.ref ba, .int mq2])), (ba, .inl (g.2.1, 4096, .inl Fq2)), (h2, .inr (3, [.ref a2, .int m2])), (a2, .inl (g.2.1, N2, .inl F2))]) (ws2 := [(b, .inr (0, [.ref br, .int z])), (br, .inr (3, [.ref ba, .int mq2])), (ba, .inl (g.2.1, 4096, .inl Fq2)), (h2, .inr (3, [.ref a2, .int m2])), (a2, .inl (g.2.1, N2, .inl F2))]) C dX0_addPieces_68 (c_X0_kindOf (zl X) g 0 1) gX0_addPieces_X0_kindOf rfl ⟨rfl, rfl⟩ (by decide +kernel) (by decide) (by decide) rfl rfl (Nat.le_of_ble_eq_true rfl) rfl rfl ⟨rfl, rfl, rfl⟩ (by decide) rfl ?_
              generalize hT18 : (f_X0_kindOf 0 1) = rq18
              refine z_aload_n C dX0_addPieces_71 rfl 3 rfl ?_
              refine z_iload_n C dX0_addPieces_72 rfl 4 rfl ?_
              refine z_iload C dX0_addPieces_73 1 rfl ?_
              refine z_callVi (n := 4) (isC := [0, 1, 2, 3, 4]) (isR := []) (isP := [0, 1, 2, 3, 4]) (As := [.int rq18, .ref h2, .int dn, .int (zMin (m2 - dn) ((((mq2 - (zMod mq2 z)) + z) - mq2) - 7))]) (rest := []) (wr := []) (ws2 := [(b, .inr (0, [.ref br, .int z])), (br, .inr (3, [.ref ba, .int ((f_X0_addFragment Fq2 F2 mq2 m2 rq18 dn (zMin (m2 - dn) ((((mq2 - (zMod mq2 z)) + z) - mq2) - 7))).2.2)])), (ba, .inl (g.2.1, 4096, .inl ((f_X0_addFragment Fq2 F2 mq2 m2 rq18 dn (zMin (m2 - dn) ((((mq2 - (zMod mq2 z)) + z) - mq2) - 7))).2.1))), (h2, .inr (3, [.ref a2, .int m2])), (a2, .inl (g.2.1, N2, .inl F2))]) C dX0_addPieces_75 (c_X0_addFragment (zl X) g b br ba h2 a2 N2 Fq2 F2 z mq2 m2 rq18 dn (zMin (m2 - dn) ((((mq2 - (zMod mq2 z)) + z) - mq2) - 7)) k2_m hm2) gX0_addPieces_X0_addFragment rfl ⟨rfl, rfl⟩ (by decide +kernel) (by decide) (by decide) rfl rfl rfl rfl (Nat.le_of_ble_eq_true rfl) rfl rfl ⟨rfl, rfl, rfl⟩ (by decide) rfl ?_
              generalize hT19 : (f_X0_addFragment Fq2 F2 mq2 m2 rq18 dn (zMin (m2 - dn) ((((mq2 - (zMod mq2 z)) + z) - mq2) - 7))) = T19
              obtain ⟨rq19, Fq19, mq19⟩ := T19
              have k19_m : zok 4096 mq19 := zok_X0_addFragment k2_m hm2 hT19
              refine z_if_ne (tgt := 83) C dX0_addPieces_78 (by decide) (fun c_20 => ?_) (fun c_20 => ?_)
              · skip
                refine z_iload_n C dX0_addPieces_83 rfl 4 rfl ?_
                refine z_iload C dX0_addPieces_84 1 rfl ?_
                refine z_iadd C dX0_addPieces_86 ?_
                refine z_istore_n (lv' := [(2, .int (dn + (zMin (m2 - dn) ((((mq2 - (zMod mq2 z)) + z) - mq2) - 7)))), (5, .int 1), (4, .int (zMin (m2 - dn) ((((mq2 - (zMod mq2 z)) + z) - mq2) - 7))), (0, .ref b), (1, .ref h2), (3, .int pv)]) C dX0_addPieces_87 rfl (by decide) rfl ?_
                refine z_iload C dX0_addPieces_88 1 rfl ?_
                refine z_if_eq (tgt := 95) C dX0_addPieces_90 (by decide) (fun c_21 => absurd c_21 (by decide)) (fun c_21 => ?_)
                refine z_iconst (v := 1) C dX0_addPieces_93 (by decide) ?_
                have he : (f_X0_addPieces F F2 z m m2) = (1, Fq19, mq19) := by rw [← hv]; simp only [lp_X0_addPieces, if_neg c_1, hT2, if_neg c_3, if_pos c_7, if_neg c_17, hT18, hT19, if_neg c_20]
                exact hret _ _ _ _ dX0_addPieces_94 (by first | rw [he] | rfl) (by first | rw [he] | rfl)
              · skip
                refine z_iconst (v := 0) C dX0_addPieces_81 (by decide) ?_
                have he : (f_X0_addPieces F F2 z m m2) = (0, Fq19, mq19) := by rw [← hv]; simp only [lp_X0_addPieces, if_neg c_1, hT2, if_neg c_3, if_pos c_7, if_neg c_17, hT18, hT19, if_pos c_20]
                exact hret _ _ _ _ dX0_addPieces_82 (by first | rw [he] | rfl) (by first | rw [he] | rfl)
            · skip
              refine z_iconst (v := 1) C dX0_addPieces_61 (by decide) ?_
              refine z_goto (tgt := 66) C dX0_addPieces_62 (by decide) ?_
              refine z_iload C dX0_addPieces_66 0 rfl ?_
              refine z_callSi (n := 2) (isC := []) (isR := [0, 1, 2, 3, 4]) (isP := [0, 1, 2, 3, 4]) (As := [.int 1, .int 1]) (rest := [.ref b]) (wr := [(b, .inr (0, [.ref br, .int z])), (br, .inr (3, [.ref ba, .int mq2])), (ba, .inl (g.2.1, 4096, .inl Fq2)), (h2, .inr (3, [.ref a2, .int m2])), (a2, .inl (g.2.1, N2, .inl F2))]) (ws2 := [(b, .inr (0, [.ref br, .int z])), (br, .inr (3, [.ref ba, .int mq2])), (ba, .inl (g.2.1, 4096, .inl Fq2)), (h2, .inr (3, [.ref a2, .int m2])), (a2, .inl (g.2.1, N2, .inl F2))]) C dX0_addPieces_68 (c_X0_kindOf (zl X) g 1 1) gX0_addPieces_X0_kindOf rfl ⟨rfl, rfl⟩ (by decide +kernel) (by decide) (by decide) rfl rfl (Nat.le_of_ble_eq_true rfl) rfl rfl ⟨rfl, rfl, rfl⟩ (by decide) rfl ?_
              generalize hT22 : (f_X0_kindOf 1 1) = rq22
              refine z_aload_n C dX0_addPieces_71 rfl 3 rfl ?_
              refine z_iload_n C dX0_addPieces_72 rfl 4 rfl ?_
              refine z_iload C dX0_addPieces_73 1 rfl ?_
              refine z_callVi (n := 4) (isC := [0, 1, 2, 3, 4]) (isR := []) (isP := [0, 1, 2, 3, 4]) (As := [.int rq22, .ref h2, .int dn, .int (zMin (m2 - dn) ((((mq2 - (zMod mq2 z)) + z) - mq2) - 7))]) (rest := []) (wr := []) (ws2 := [(b, .inr (0, [.ref br, .int z])), (br, .inr (3, [.ref ba, .int ((f_X0_addFragment Fq2 F2 mq2 m2 rq22 dn (zMin (m2 - dn) ((((mq2 - (zMod mq2 z)) + z) - mq2) - 7))).2.2)])), (ba, .inl (g.2.1, 4096, .inl ((f_X0_addFragment Fq2 F2 mq2 m2 rq22 dn (zMin (m2 - dn) ((((mq2 - (zMod mq2 z)) + z) - mq2) - 7))).2.1))), (h2, .inr (3, [.ref a2, .int m2])), (a2, .inl (g.2.1, N2, .inl F2))]) C dX0_addPieces_75 (c_X0_addFragment (zl X) g b br ba h2 a2 N2 Fq2 F2 z mq2 m2 rq22 dn (zMin (m2 - dn) ((((mq2 - (zMod mq2 z)) + z) - mq2) - 7)) k2_m hm2) gX0_addPieces_X0_addFragment rfl ⟨rfl, rfl⟩ (by decide +kernel) (by decide) (by decide) rfl rfl rfl rfl (Nat.le_of_ble_eq_true rfl) rfl rfl ⟨rfl, rfl, rfl⟩ (by decide) rfl ?_
              generalize hT23 : (f_X0_addFragment Fq2 F2 mq2 m2 rq22 dn (zMin (m2 - dn) ((((mq2 - (zMod mq2 z)) + z) - mq2) - 7))) = T23
              obtain ⟨rq23, Fq23, mq23⟩ := T23
              have k23_m : zok 4096 mq23 := zok_X0_addFragment k2_m hm2 hT23
              refine z_if_ne (tgt := 83) C dX0_addPieces_78 (by decide) (fun c_24 => ?_) (fun c_24 => ?_)
              · skip
                refine z_iload_n C dX0_addPieces_83 rfl 4 rfl ?_
                refine z_iload C dX0_addPieces_84 1 rfl ?_
                refine z_iadd C dX0_addPieces_86 ?_
                refine z_istore_n (lv' := [(2, .int (dn + (zMin (m2 - dn) ((((mq2 - (zMod mq2 z)) + z) - mq2) - 7)))), (5, .int 1), (4, .int (zMin (m2 - dn) ((((mq2 - (zMod mq2 z)) + z) - mq2) - 7))), (0, .ref b), (1, .ref h2), (3, .int pv)]) C dX0_addPieces_87 rfl (by decide) rfl ?_
                refine z_iload C dX0_addPieces_88 1 rfl ?_
                refine z_if_eq (tgt := 95) C dX0_addPieces_90 (by decide) (fun c_25 => absurd c_25 (by decide)) (fun c_25 => ?_)
                refine z_iconst (v := 1) C dX0_addPieces_93 (by decide) ?_
                have he : (f_X0_addPieces F F2 z m m2) = (1, Fq23, mq23) := by rw [← hv]; simp only [lp_X0_addPieces, if_neg c_1, hT2, if_neg c_3, if_pos c_7, if_pos c_17, hT22, hT23, if_neg c_24]
                exact hret _ _ _ _ dX0_addPieces_94 (by first | rw [he] | rfl) (by first | rw [he] | rfl)
              · skip
                refine z_iconst (v := 0) C dX0_addPieces_81 (by decide) ?_
                have he : (f_X0_addPieces F F2 z m m2) = (0, Fq23, mq23) := by rw [← hv]; simp only [lp_X0_addPieces, if_neg c_1, hT2, if_neg c_3, if_pos c_7, if_pos c_17, hT22, hT23, if_pos c_24]
                exact hret _ _ _ _ dX0_addPieces_82 (by first | rw [he] | rfl) (by first | rw [he] | rfl)
        · skip
          refine z_iconst (v := 0) C dX0_addPieces_18 (by decide) ?_
          have he : (f_X0_addPieces F F2 z m m2) = (0, Fq2, mq2) := by rw [← hv]; simp only [lp_X0_addPieces, if_neg c_1, hT2, if_pos c_3]
          exact hret _ _ _ _ dX0_addPieces_19 (by first | rw [he] | rfl) (by first | rw [he] | rfl)
  exact z_lv [2, 3, 1, 0] rfl (loop 402 0 0 F m ⟨by decide, by decide, by decide⟩ hm rfl)
def f_X0_addRecord (F : Nat → Int32) (F2 : Nat → Int32) (z : Int32) (m : Int32) (m2 : Int32) : Int32 × (Nat → Int32) × Int32 :=
  match (f_X0_addPieces F F2 z m m2) with
  | (rq2, Fq2, mq2) =>
    if rq2 = 0 then
      (0, Fq2, (f_X3_shorten mq2 m))
    else
      (1, Fq2, mq2)
theorem zbool_X0_addRecord (F F2 : Nat → Int32) (z m m2 : Int32) : narrow .boolean (.int (f_X0_addRecord F F2 z m m2).1) = .int (f_X0_addRecord F F2 z m m2).1 := by
  unfold f_X0_addRecord
  repeat' split
  all_goals ((try dsimp only); rfl)
theorem zok_X0_addRecord {N2 : Nat} {F F1 F2 : Nat → Int32} {z m m2 r m1 : Int32} (hz : zsz z) (hm : zok 4096 m) (hm2 : zok N2 m2) (h : f_X0_addRecord F F2 z m m2 = (r, F1, m1)) : zok 4096 m1 := by
  unfold f_X0_addRecord at h
  split at h
  next e1 =>
  have k1 := zok_X0_addPieces hz hm hm2 e1
  split at h
  · cases h; exact zok_X3_shorten k1 rfl
  · cases h; exact k1
set_option maxHeartbeats 4000000 in
set_option maxRecDepth 100000 in
theorem c_X0_addRecord (l : Launch) (g : zG) (b br ba h2 a2 : Nat) (N2 : Nat) (F : Nat → Int32) (F2 : Nat → Int32) (z : Int32) (m : Int32) (m2 : Int32) (hz : zsz z) (hm : zok 4096 m) (hm2 : zok N2 m2) : zMI l yX0_addRecord wsX0_addRecord ({ frames := 5, cells := 0, slots := 0, locals := 108 }) g [.ref b, .ref h2] [(b, .inr (0, [.ref br, .int z])), (br, .inr (3, [.ref ba, .int m])), (ba, .inl (g.2.1, 4096, .inl F)), (h2, .inr (3, [.ref a2, .int m2])), (a2, .inl (g.2.1, N2, .inl F2))] ((f_X0_addRecord F F2 z m m2).1) [(b, .inr (0, [.ref br, .int z])), (br, .inr (3, [.ref ba, .int ((f_X0_addRecord F F2 z m m2).2.2)])), (ba, .inl (g.2.1, 4096, .inl ((f_X0_addRecord F F2 z m m2).2.1))), (h2, .inr (3, [.ref a2, .int m2])), (a2, .inl (g.2.1, N2, .inl F2))] := by
  refine zMI_of (cc := cX0_addRecord) (nL := 3) (ty := .boolean) (by decide) rfl (Nat.le_of_ble_eq_true rfl) (zbool_X0_addRecord _ _ _ _ _) ?_
  intro X C hret
  refine z_lv (lv' := [(0, .ref b), (1, .ref h2)]) [0, 1] rfl ?_
  refine z_aload_n C dX0_addRecord_0 rfl 0 rfl ?_
  refine z_get (ci := 0) (v := .ref br) (Cn := RX0) (T := TX0) (N := 2) C dX0_addRecord_1 (fun w h => List.mem_cons_of_mem _ (List.mem_append_left _ (List.mem_append_right _ h))) 0 rfl rfl 0 (by decide) (List.mem_of_getElem? (i := 1) rfl) rfl rfl ?_
  refine z_callVi (n := 0) (isC := [1, 2]) (isR := [0, 3, 4]) (isP := [0, 3, 4, 1, 2]) (As := []) (rest := []) (wr := [(b, .inr (0, [.ref br, .int z])), (h2, .inr (3, [.ref a2, .int m2])), (a2, .inl (g.2.1, N2, .inl F2))]) (ws2 := [(b, .inr (0, [.ref br, .int z])), (br, .inr (3, [.ref ba, .int m])), (ba, .inl (g.2.1, 4096, .inl F)), (h2, .inr (3, [.ref a2, .int m2])), (a2, .inl (g.2.1, N2, .inl F2))]) C dX0_addRecord_4 (c_X3_many (zl X) g br ba 4096 F m) gX0_addRecord_X3_many rfl ⟨rfl, rfl⟩ (by decide +kernel) (by decide) (by decide) rfl rfl rfl rfl (Nat.le_of_ble_eq_true rfl) rfl rfl ⟨rfl, rfl, rfl⟩ (by decide) rfl ?_
  refine z_istore_n (lv' := [(2, .int m), (0, .ref b), (1, .ref h2)]) C dX0_addRecord_7 rfl (by decide) rfl ?_
  refine z_aload_n C dX0_addRecord_8 rfl 1 rfl ?_
  refine z_aload_n C dX0_addRecord_9 rfl 2 rfl ?_
  refine z_callVi (n := 1) (isC := [0, 1, 2, 3, 4]) (isR := []) (isP := [0, 1, 2, 3, 4]) (As := [.ref h2]) (rest := []) (wr := []) (ws2 := [(b, .inr (0, [.ref br, .int z])), (br, .inr (3, [.ref ba, .int ((f_X0_addPieces F F2 z m m2).2.2)])), (ba, .inl (g.2.1, 4096, .inl ((f_X0_addPieces F F2 z m m2).2.1))), (h2, .inr (3, [.ref a2, .int m2])), (a2, .inl (g.2.1, N2, .inl F2))]) C dX0_addRecord_10 (c_X0_addPieces (zl X) g b br ba h2 a2 N2 F F2 z m m2 hz hm hm2) gX0_addRecord_X0_addPieces rfl ⟨rfl, rfl⟩ (by decide +kernel) (by decide) (by decide) rfl rfl rfl rfl (Nat.le_of_ble_eq_true rfl) rfl rfl ⟨rfl, rfl, rfl⟩ (by decide) rfl ?_
  generalize hT2 : (f_X0_addPieces F F2 z m m2) = T2
  obtain ⟨rq2, Fq2, mq2⟩ := T2
  have k2_m : zok 4096 mq2 := zok_X0_addPieces hz hm hm2 hT2
  refine z_if_eq (tgt := 18) C dX0_addRecord_13 (by decide) (fun c_3 => ?_) (fun c_3 => ?_)
  · skip
    refine z_aload_n C dX0_addRecord_18 rfl 1 rfl ?_
    refine z_get (ci := 0) (v := .ref br) (Cn := RX0) (T := TX0) (N := 2) C dX0_addRecord_19 (fun w h => List.mem_cons_of_mem _ (List.mem_append_left _ (List.mem_append_right _ h))) 0 rfl rfl 0 (by decide) (List.mem_of_getElem? (i := 1) rfl) rfl rfl ?_
    refine z_iload_n C dX0_addRecord_22 rfl 0 rfl ?_
    refine z_callVv (n := 1) (isC := [1, 2]) (isR := [0, 3, 4]) (isP := [0, 3, 4, 1, 2]) (As := [.int m]) (rest := []) (wr := [(b, .inr (0, [.ref br, .int z])), (h2, .inr (3, [.ref a2, .int m2])), (a2, .inl (g.2.1, N2, .inl F2))]) (ws2 := [(b, .inr (0, [.ref br, .int z])), (br, .inr (3, [.ref ba, .int (f_X3_shorten mq2 m)])), (ba, .inl (g.2.1, 4096, .inl Fq2)), (h2, .inr (3, [.ref a2, .int m2])), (a2, .inl (g.2.1, N2, .inl F2))]) C dX0_addRecord_23 (c_X3_shorten (zl X) g br ba 4096 Fq2 mq2 m k2_m) gX0_addRecord_X3_shorten rfl ⟨rfl, rfl⟩ (by decide +kernel) (by decide) (by decide) rfl rfl rfl rfl (Nat.le_of_ble_eq_true rfl) rfl rfl ⟨rfl, rfl, rfl⟩ (by decide) rfl ?_
    generalize hT4 : (f_X3_shorten mq2 m) = mq4
    have k4_m : zok 4096 mq4 := zok_X3_shorten k2_m hT4
    refine z_iconst (v := 0) C dX0_addRecord_26 (by decide) ?_
    have he : (f_X0_addRecord F F2 z m m2) = (0, Fq2, mq4) := by simp only [f_X0_addRecord, hT2, if_pos c_3, hT4]
    exact hret _ _ _ _ dX0_addRecord_27 (by first | rw [he] | rfl) (by first | rw [he] | rfl)
  · skip
    refine z_iconst (v := 1) C dX0_addRecord_16 (by decide) ?_
    have he : (f_X0_addRecord F F2 z m m2) = (1, Fq2, mq2) := by simp only [f_X0_addRecord, hT2, if_neg c_3]
    exact hret _ _ _ _ dX0_addRecord_17 (by first | rw [he] | rfl) (by first | rw [he] | rfl)
