def lp_X2_findRecord (F : Nat → Int32) (bg : Int32) (z : Int32) (m : Int32) : Nat → Int32 → (Nat → Int32) → (Nat → Int32) → (Nat → Int32) → Int32 → Int32 → Int32 → Int32 → Int32 → Int32 → Int32 → Int32 → Int32 → Int32 × (Nat → Int32) × (Nat → Int32) × (Nat → Int32) × Int32 × Int32 × Int32 × Int32 × Int32 × Int32 × Int32 × Int32 × Int32
  | 0, _, _, _, _, _, _, _, _, _, _, _, _, _ => (0, fun _ => 0, fun _ => 0, fun _ => 0, 0, 0, 0, 0, 0, 0, 0, 0, 0)
  | n + 1, pv, Wf_, Yf_, Cf_, rp_, hf_, pl_, lo_, fp_, fb_, dm_, da_, cm_ =>
    if 4096 < pv then
      match (f_X2_dropRecord cm_) with
      | (rpq3, hfq3, cmq3) =>
        (0, Wf_, Yf_, Cf_, rpq3, hfq3, pl_, lo_, fp_, fb_, dm_, da_, cmq3)
    else
      match (f_X2_nextBit Wf_ Yf_ F pl_ bg fp_ fb_ dm_ da_ z m) with
      | (rq4, Wfq4, Yfq4, plq4, fpq4, fbq4, dmq4, daq4) =>
        if rq4 = 256 then
          match (f_X2_dropRecord cm_) with
          | (rpq12, hfq12, cmq12) =>
            (0, Wfq4, Yfq4, Cf_, rpq12, hfq12, plq4, lo_, fpq4, fbq4, dmq4, daq4, cmq12)
        else
          if rq4 = 257 then
            match (f_X2_tear Wfq4 Yfq4 rp_ hf_ dmq4 daq4 cm_) with
            | (Wfq11, Yfq11, rpq11, hfq11, dmq11, daq11, cmq11) =>
              lp_X2_findRecord F bg z m n (pv + 1) Wfq11 Yfq11 Cf_ rpq11 hfq11 plq4 lo_ fpq4 fbq4 dmq11 daq11 cmq11
          else
            match (f_X2_passesOver lo_ rq4) with
            | (rq7, loq7) =>
              if rq7 = 0 then
                match (f_X2_takeFragment Wfq4 Yfq4 Cf_ F rp_ hf_ fpq4 fbq4 dmq4 daq4 cm_ m rq4) with
                | (rq9, Wfq9, Yfq9, Cfq9, rpq9, hfq9, dmq9, daq9, cmq9) =>
                  if rq9 = 0 then
                    lp_X2_findRecord F bg z m n (pv + 1) Wfq9 Yfq9 Cfq9 rpq9 hfq9 plq4 loq7 fpq4 fbq4 dmq9 daq9 cmq9
                  else
                    (1, Wfq9, Yfq9, Cfq9, rpq9, hfq9, plq4, loq7, fpq4, fbq4, dmq9, daq9, cmq9)
              else
                lp_X2_findRecord F bg z m n (pv + 1) Wfq4 Yfq4 Cf_ rp_ hf_ plq4 loq7 fpq4 fbq4 dmq4 daq4 cm_
def f_X2_findRecord (Wf : Nat → Int32) (Yf : Nat → Int32) (Cf : Nat → Int32) (F : Nat → Int32) (pl : Int32) (bg : Int32) (lo : Int32) (fp : Int32) (fb : Int32) (dm : Int32) (da : Int32) (cm : Int32) (z : Int32) (m : Int32) : Int32 × (Nat → Int32) × (Nat → Int32) × (Nat → Int32) × Int32 × Int32 × Int32 × Int32 × Int32 × Int32 × Int32 × Int32 × Int32 :=
  match (f_X2_dropRecord cm) with
  | (rpq1, hfq1, cmq1) =>
    lp_X2_findRecord F bg z m 4098 0 Wf Yf Cf rpq1 hfq1 pl lo fp fb dm da cmq1
theorem zbool_lp_X2_findRecord (F : Nat → Int32) (bg z m : Int32) : ∀ (n : Nat) (pv : Int32) (Wf Yf Cf : Nat → Int32) (rp hf pl lo fp fb dm da cm : Int32), narrow .boolean (.int (lp_X2_findRecord F bg z m n pv Wf Yf Cf rp hf pl lo fp fb dm da cm).1) = .int (lp_X2_findRecord F bg z m n pv Wf Yf Cf rp hf pl lo fp fb dm da cm).1 := by
  intro n
  induction n with
  | zero => intros; unfold lp_X2_findRecord; (try dsimp only); rfl
  | succ n ih =>
    intro pv Wf Yf Cf rp hf pl lo fp fb dm da cm
    unfold lp_X2_findRecord
    repeat' split
    all_goals first | exact ih _ _ _ _ _ _ _ _ _ _ _ _ _ | ((try dsimp only); rfl)
theorem zbool_X2_findRecord (Wf Yf Cf F : Nat → Int32) (pl bg lo fp fb dm da cm z m : Int32) : narrow .boolean (.int (f_X2_findRecord Wf Yf Cf F pl bg lo fp fb dm da cm z m).1) = .int (f_X2_findRecord Wf Yf Cf F pl bg lo fp fb dm da cm z m).1 := by
  unfold f_X2_findRecord
  split
  exact zbool_lp_X2_findRecord _ _ _ _ _ _ _ _ _ _ _ _ _ _ _ _ _ _

set_option maxHeartbeats 4000000 in
set_option maxRecDepth 100000 in
theorem c_X2_findRecord (l : Launch) (g : zG) (e b d c dw dy ca br ba : Nat) (Wf : Nat → Int32) (Yf : Nat → Int32) (Cf : Nat → Int32) (F : Nat → Int32) (rp : Int32) (hf : Int32) (pl : Int32) (bg : Int32) (lo : Int32) (fp : Int32) (fb : Int32) (dm : Int32) (da : Int32) (cm : Int32) (z : Int32) (m : Int32) (hz : zsz z) (hm : zok 4096 m) (hd : zdok 8196 dm) (hc : zok 4096 cm) : zMI l yX2_findRecord wsX2_findRecord ({ frames := 5, cells := 0, slots := 0, locals := 106 }) g [.ref e] [(e, .inr (2, [.ref b, .ref d, .ref c, .int rp, .int hf, .int pl, .int bg, .int lo, .int fp, .int fb])), (d, .inr (1, [.ref dw, .ref dy, .int dm, .int da])), (dw, .inl (g.2.2.1, 100, .inl Wf)), (dy, .inl (g.2.2.1, 100, .inl Yf)), (c, .inr (3, [.ref ca, .int cm])), (ca, .inl (g.2.1, 4096, .inl Cf)), (b, .inr (0, [.ref br, .int z])), (br, .inr (3, [.ref ba, .int m])), (ba, .inl (g.2.1, 4096, .inl F))] ((f_X2_findRecord Wf Yf Cf F pl bg lo fp fb dm da cm z m).1) [(e, .inr (2, [.ref b, .ref d, .ref c, .int ((f_X2_findRecord Wf Yf Cf F pl bg lo fp fb dm da cm z m).2.2.2.2.1), .int ((f_X2_findRecord Wf Yf Cf F pl bg lo fp fb dm da cm z m).2.2.2.2.2.1), .int ((f_X2_findRecord Wf Yf Cf F pl bg lo fp fb dm da cm z m).2.2.2.2.2.2.1), .int bg, .int ((f_X2_findRecord Wf Yf Cf F pl bg lo fp fb dm da cm z m).2.2.2.2.2.2.2.1), .int ((f_X2_findRecord Wf Yf Cf F pl bg lo fp fb dm da cm z m).2.2.2.2.2.2.2.2.1), .int ((f_X2_findRecord Wf Yf Cf F pl bg lo fp fb dm da cm z m).2.2.2.2.2.2.2.2.2.1)])), (d, .inr (1, [.ref dw, .ref dy, .int ((f_X2_findRecord Wf Yf Cf F pl bg lo fp fb dm da cm z m).2.2.2.2.2.2.2.2.2.2.1), .int ((f_X2_findRecord Wf Yf Cf F pl bg lo fp fb dm da cm z m).2.2.2.2.2.2.2.2.2.2.2.1)])), (dw, .inl (g.2.2.1, 100, .inl ((f_X2_findRecord Wf Yf Cf F pl bg lo fp fb dm da cm z m).2.1))), (dy, .inl (g.2.2.1, 100, .inl ((f_X2_findRecord Wf Yf Cf F pl bg lo fp fb dm da cm z m).2.2.1))), (c, .inr (3, [.ref ca, .int ((f_X2_findRecord Wf Yf Cf F pl bg lo fp fb dm da cm z m).2.2.2.2.2.2.2.2.2.2.2.2)])), (ca, .inl (g.2.1, 4096, .inl ((f_X2_findRecord Wf Yf Cf F pl bg lo fp fb dm da cm z m).2.2.2.1))), (b, .inr (0, [.ref br, .int z])), (br, .inr (3, [.ref ba, .int m])), (ba, .inl (g.2.1, 4096, .inl F))] := by
  refine zMI_of (cc := cX2_findRecord) (nL := 3) (ty := .boolean) (by decide) rfl (Nat.le_of_ble_eq_true rfl) (zbool_X2_findRecord _ _ _ _ _ _ _ _ _ _ _ _ _ _) ?_
  intro X C hret
  refine z_lv (lv' := [(0, .ref e)]) [0] rfl ?_
  refine z_aload_n C dX2_findRecord_0 rfl 0 rfl ?_
  refine z_callVv (n := 0) (isC := [0, 1, 2, 3, 4, 5, 6, 7, 8]) (isR := []) (isP := [0, 1, 2, 3, 4, 5, 6, 7, 8]) (As := []) (rest := []) (wr := []) (ws2 := [(e, .inr (2, [.ref b, .ref d, .ref c, .int ((f_X2_dropRecord cm).1), .int ((f_X2_dropRecord cm).2.1), .int pl, .int bg, .int lo, .int fp, .int fb])), (d, .inr (1, [.ref dw, .ref dy, .int dm, .int da])), (dw, .inl (g.2.2.1, 100, .inl Wf)), (dy, .inl (g.2.2.1, 100, .inl Yf)), (c, .inr (3, [.ref ca, .int ((f_X2_dropRecord cm).2.2)])), (ca, .inl (g.2.1, 4096, .inl Cf)), (b, .inr (0, [.ref br, .int z])), (br, .inr (3, [.ref ba, .int m])), (ba, .inl (g.2.1, 4096, .inl F))]) C dX2_findRecord_1 (c_X2_dropRecord (zl X) g e b d c dw dy ca br ba Wf Yf Cf F rp hf pl bg lo fp fb dm da cm z m hc) gX2_findRecord_X2_dropRecord rfl ⟨rfl, rfl⟩ (by decide +kernel) (by decide) (by decide) rfl rfl rfl rfl (Nat.le_of_ble_eq_true rfl) rfl rfl ⟨rfl, rfl, rfl⟩ (by decide) rfl ?_
  generalize hT1 : (f_X2_dropRecord cm) = T1
  obtain ⟨rpq1, hfq1, cmq1⟩ := T1
  have k1_cm : zok 4096 cmq1 := zok_X2_dropRecord hc hT1
  refine z_iconst (v := 0) C dX2_findRecord_4 (by decide) ?_
  refine z_istore_n (lv' := [(1, .int 0), (0, .ref e)]) C dX2_findRecord_5 rfl (by decide) rfl ?_
  have loop : ∀ (n : Nat) (pv : Int32) (Wf_ : Nat → Int32) (Yf_ : Nat → Int32) (Cf_ : Nat → Int32) (rp_ : Int32) (hf_ : Int32) (pl_ : Int32) (lo_ : Int32) (fp_ : Int32) (fb_ : Int32) (dm_ : Int32) (da_ : Int32) (cm_ : Int32), zfuel 4096 n pv → zdok (2 * n) dm_ → zok 4096 cm_ → lp_X2_findRecord F bg z m n pv Wf_ Yf_ Cf_ rp_ hf_ pl_ lo_ fp_ fb_ dm_ da_ cm_ = (f_X2_findRecord Wf Yf Cf F pl bg lo fp fb dm da cm z m) → zV X g 3 0 0 6 [(0, .ref e), (1, .int pv)] [] [(e, .inr (2, [.ref b, .ref d, .ref c, .int rp_, .int hf_, .int pl_, .int bg, .int lo_, .int fp_, .int fb_])), (d, .inr (1, [.ref dw, .ref dy, .int dm_, .int da_])), (dw, .inl (g.2.2.1, 100, .inl Wf_)), (dy, .inl (g.2.2.1, 100, .inl Yf_)), (c, .inr (3, [.ref ca, .int cm_])), (ca, .inl (g.2.1, 4096, .inl Cf_)), (b, .inr (0, [.ref br, .int z])), (br, .inr (3, [.ref ba, .int m])), (ba, .inl (g.2.1, 4096, .inl F))] := by
    intro n
    induction n with
    | zero =>
      intro pv Wf_ Yf_ Cf_ rp_ hf_ pl_ lo_ fp_ fb_ dm_ da_ cm_ hp hd_ hc_ hv
      exact absurd (zfuel_0 hp) id
    | succ n ih =>
      intro pv Wf_ Yf_ Cf_ rp_ hf_ pl_ lo_ fp_ fb_ dm_ da_ cm_ hp hd_ hc_ hv
      have hd2 : zdok (2 * n + 2) dm_ := hd_
      refine z_iload_n C dX2_findRecord_6 rfl 1 rfl ?_
      refine z_sipush (v := 4096) C dX2_findRecord_7 (by decide) ?_
      refine z_icmp_gt (tgt := 66) C dX2_findRecord_10 (by decide) (fun c_2 => ?_) (fun c_2 => ?_)
      · skip
        refine z_aload_n C dX2_findRecord_66 rfl 0 rfl ?_
        refine z_callVv (n := 0) (isC := [0, 1, 2, 3, 4, 5, 6, 7, 8]) (isR := []) (isP := [0, 1, 2, 3, 4, 5, 6, 7, 8]) (As := []) (rest := []) (wr := []) (ws2 := [(e, .inr (2, [.ref b, .ref d, .ref c, .int ((f_X2_dropRecord cm_).1), .int ((f_X2_dropRecord cm_).2.1), .int pl_, .int bg, .int lo_, .int fp_, .int fb_])), (d, .inr (1, [.ref dw, .ref dy, .int dm_, .int da_])), (dw, .inl (g.2.2.1, 100, .inl Wf_)), (dy, .inl (g.2.2.1, 100, .inl Yf_)), (c, .inr (3, [.ref ca, .int ((f_X2_dropRecord cm_).2.2)])), (ca, .inl (g.2.1, 4096, .inl Cf_)), (b, .inr (0, [.ref br, .int z])), (br, .inr (3, [.ref ba, .int m])), (ba, .inl (g.2.1, 4096, .inl F))]) C dX2_findRecord_67 (c_X2_dropRecord (zl X) g e b d c dw dy ca br ba Wf_ Yf_ Cf_ F rp_ hf_ pl_ bg lo_ fp_ fb_ dm_ da_ cm_ z m hc_) gX2_findRecord_X2_dropRecord rfl ⟨rfl, rfl⟩ (by decide +kernel) (by decide) (by decide) rfl rfl rfl rfl (Nat.le_of_ble_eq_true rfl) rfl rfl ⟨rfl, rfl, rfl⟩ (by decide) rfl ?_
        generalize hT3 : (f_X2_dropRecord cm_) = T3
        obtain ⟨rpq3, hfq3, cmq3⟩ := T3
        have k3_cm : zok 4096 cmq3 := zok_X2_dropRecord hc_ hT3
        refine z_iconst (v := 0) C dX2_findRecord_70 (by decide) ?_
        have he : (f_X2_findRecord Wf Yf Cf F pl bg lo fp fb dm da cm z m) = (0, Wf_, Yf_, Cf_, rpq3, hfq3, pl_, lo_, fp_, fb_, dm_, da_, cmq3) := by rw [← hv]; simp only [lp_X2_findRecord, if_pos c_2, hT3]
        exact hret _ _ _ _ dX2_findRecord_71 (by first | rw [he] | rfl) (by first | rw [he] | rfl)
      · skip
        refine z_aload_n C dX2_findRecord_13 rfl 0 rfl ?_
        refine z_callVi (n := 0) (isC := [0, 1, 2, 3, 4, 5, 6, 7, 8]) (isR := []) (isP := [0, 1, 2, 3, 4, 5, 6, 7, 8]) (As := []) (rest := []) (wr := []) (ws2 := [(e, .inr (2, [.ref b, .ref d, .ref c, .int rp_, .int hf_, .int ((f_X2_nextBit Wf_ Yf_ F pl_ bg fp_ fb_ dm_ da_ z m).2.2.2.1), .int bg, .int lo_, .int ((f_X2_nextBit Wf_ Yf_ F pl_ bg fp_ fb_ dm_ da_ z m).2.2.2.2.1), .int ((f_X2_nextBit Wf_ Yf_ F pl_ bg fp_ fb_ dm_ da_ z m).2.2.2.2.2.1)])), (d, .inr (1, [.ref dw, .ref dy, .int ((f_X2_nextBit Wf_ Yf_ F pl_ bg fp_ fb_ dm_ da_ z m).2.2.2.2.2.2.1), .int ((f_X2_nextBit Wf_ Yf_ F pl_ bg fp_ fb_ dm_ da_ z m).2.2.2.2.2.2.2)])), (dw, .inl (g.2.2.1, 100, .inl ((f_X2_nextBit Wf_ Yf_ F pl_ bg fp_ fb_ dm_ da_ z m).2.1))), (dy, .inl (g.2.2.1, 100, .inl ((f_X2_nextBit Wf_ Yf_ F pl_ bg fp_ fb_ dm_ da_ z m).2.2.1))), (c, .inr (3, [.ref ca, .int cm_])), (ca, .inl (g.2.1, 4096, .inl Cf_)), (b, .inr (0, [.ref br, .int z])), (br, .inr (3, [.ref ba, .int m])), (ba, .inl (g.2.1, 4096, .inl F))]) C dX2_findRecord_14 (c_X2_nextBit (zl X) g e b d c dw dy ca br ba Wf_ Yf_ Cf_ F rp_ hf_ pl_ bg lo_ fp_ fb_ dm_ da_ cm_ z m hz hm (zdok_le hd2 (by omega))) gX2_findRecord_X2_nextBit rfl ⟨rfl, rfl⟩ (by decide +kernel) (by decide) (by decide) rfl rfl rfl rfl (Nat.le_of_ble_eq_true rfl) rfl rfl ⟨rfl, rfl, rfl⟩ (by decide) rfl ?_
        generalize hT4 : (f_X2_nextBit Wf_ Yf_ F pl_ bg fp_ fb_ dm_ da_ z m) = T4
        obtain ⟨rq4, Wfq4, Yfq4, plq4, fpq4, fbq4, dmq4, daq4⟩ := T4
        have k4_dm : zdok (2 * n + 1) dmq4 := zdok_X2_nextBit (zdok_le hd2 (by omega)) hT4
        refine z_istore_n (lv' := [(2, .int rq4), (0, .ref e), (1, .int pv)]) C dX2_findRecord_17 rfl (by decide) rfl ?_
        refine z_iload_n C dX2_findRecord_18 rfl 0 rfl ?_
        refine z_sipush (v := 256) C dX2_findRecord_19 (by decide) ?_
        refine z_icmp_ne (tgt := 28) C dX2_findRecord_22 (by decide) (fun c_5 => ?_) (fun c_5 => ?_)
        · skip
          refine z_iload_n C dX2_findRecord_28 rfl 0 rfl ?_
          refine z_sipush (v := 257) C dX2_findRecord_29 (by decide) ?_
          refine z_icmp_ne (tgt := 42) C dX2_findRecord_32 (by decide) (fun c_6 => ?_) (fun c_6 => ?_)
          · skip
            refine z_aload_n C dX2_findRecord_42 rfl 1 rfl ?_
            refine z_iload_n C dX2_findRecord_43 rfl 0 rfl ?_
            refine z_callVi (n := 1) (isC := [0, 1, 2, 3, 4, 5, 6, 7, 8]) (isR := []) (isP := [0, 1, 2, 3, 4, 5, 6, 7, 8]) (As := [.int rq4]) (rest := []) (wr := []) (ws2 := [(e, .inr (2, [.ref b, .ref d, .ref c, .int rp_, .int hf_, .int plq4, .int bg, .int ((f_X2_passesOver lo_ rq4).2), .int fpq4, .int fbq4])), (d, .inr (1, [.ref dw, .ref dy, .int dmq4, .int daq4])), (dw, .inl (g.2.2.1, 100, .inl Wfq4)), (dy, .inl (g.2.2.1, 100, .inl Yfq4)), (c, .inr (3, [.ref ca, .int cm_])), (ca, .inl (g.2.1, 4096, .inl Cf_)), (b, .inr (0, [.ref br, .int z])), (br, .inr (3, [.ref ba, .int m])), (ba, .inl (g.2.1, 4096, .inl F))]) C dX2_findRecord_44 (c_X2_passesOver (zl X) g e b d c dw dy ca br ba Wfq4 Yfq4 Cf_ F rp_ hf_ plq4 bg lo_ fpq4 fbq4 dmq4 daq4 cm_ z m rq4) gX2_findRecord_X2_passesOver rfl ⟨rfl, rfl⟩ (by decide +kernel) (by decide) (by decide) rfl rfl rfl rfl (Nat.le_of_ble_eq_true rfl) rfl rfl ⟨rfl, rfl, rfl⟩ (by decide) rfl ?_
            generalize hT7 : (f_X2_passesOver lo_ rq4) = T7
            obtain ⟨rq7, loq7⟩ := T7
            refine z_if_ne (tgt := 60) C dX2_findRecord_47 (by decide) (fun c_8 => ?_) (fun c_8 => ?_)
            · skip
              refine z_iinc (v := (pv + 1)) (lv' := [(1, .int (pv + 1)), (2, .int rq4), (0, .ref e)]) C dX2_findRecord_60 2 rfl rfl (by decide) rfl ?_
              refine z_goto (tgt := 6) C dX2_findRecord_63 (by decide) ?_
              exact z_lv [2, 0] rfl (ih (pv + 1) Wfq4 Yfq4 Cf_ rp_ hf_ plq4 loq7 fpq4 fbq4 dmq4 daq4 cm_ (zfuel_s (by decide) hp c_2) (zdok_le k4_dm (by omega)) hc_ (by rw [← hv]; simp only [lp_X2_findRecord, if_neg c_2, hT4, if_neg c_5, if_neg c_6, hT7, if_neg c_8]))
            · skip
              refine z_aload_n C dX2_findRecord_50 rfl 1 rfl ?_
              refine z_iload_n C dX2_findRecord_51 rfl 0 rfl ?_
              refine z_callVi (n := 1) (isC := [0, 1, 2, 3, 4, 5, 6, 7, 8]) (isR := []) (isP := [0, 1, 2, 3, 4, 5, 6, 7, 8]) (As := [.int rq4]) (rest := []) (wr := []) (ws2 := [(e, .inr (2, [.ref b, .ref d, .ref c, .int ((f_X2_takeFragment Wfq4 Yfq4 Cf_ F rp_ hf_ fpq4 fbq4 dmq4 daq4 cm_ m rq4).2.2.2.2.1), .int ((f_X2_takeFragment Wfq4 Yfq4 Cf_ F rp_ hf_ fpq4 fbq4 dmq4 daq4 cm_ m rq4).2.2.2.2.2.1), .int plq4, .int bg, .int loq7, .int fpq4, .int fbq4])), (d, .inr (1, [.ref dw, .ref dy, .int ((f_X2_takeFragment Wfq4 Yfq4 Cf_ F rp_ hf_ fpq4 fbq4 dmq4 daq4 cm_ m rq4).2.2.2.2.2.2.1), .int ((f_X2_takeFragment Wfq4 Yfq4 Cf_ F rp_ hf_ fpq4 fbq4 dmq4 daq4 cm_ m rq4).2.2.2.2.2.2.2.1)])), (dw, .inl (g.2.2.1, 100, .inl ((f_X2_takeFragment Wfq4 Yfq4 Cf_ F rp_ hf_ fpq4 fbq4 dmq4 daq4 cm_ m rq4).2.1))), (dy, .inl (g.2.2.1, 100, .inl ((f_X2_takeFragment Wfq4 Yfq4 Cf_ F rp_ hf_ fpq4 fbq4 dmq4 daq4 cm_ m rq4).2.2.1))), (c, .inr (3, [.ref ca, .int ((f_X2_takeFragment Wfq4 Yfq4 Cf_ F rp_ hf_ fpq4 fbq4 dmq4 daq4 cm_ m rq4).2.2.2.2.2.2.2.2)])), (ca, .inl (g.2.1, 4096, .inl ((f_X2_takeFragment Wfq4 Yfq4 Cf_ F rp_ hf_ fpq4 fbq4 dmq4 daq4 cm_ m rq4).2.2.2.1))), (b, .inr (0, [.ref br, .int z])), (br, .inr (3, [.ref ba, .int m])), (ba, .inl (g.2.1, 4096, .inl F))]) C dX2_findRecord_52 (c_X2_takeFragment (zl X) g e b d c dw dy ca br ba Wfq4 Yfq4 Cf_ F rp_ hf_ plq4 bg loq7 fpq4 fbq4 dmq4 daq4 cm_ z m rq4 (zdok_le k4_dm (by omega)) hc_ hm) gX2_findRecord_X2_takeFragment rfl ⟨rfl, rfl⟩ (by decide +kernel) (by decide) (by decide) rfl rfl rfl rfl (Nat.le_of_ble_eq_true rfl) rfl rfl ⟨rfl, rfl, rfl⟩ (by decide) rfl ?_
              generalize hT9 : (f_X2_takeFragment Wfq4 Yfq4 Cf_ F rp_ hf_ fpq4 fbq4 dmq4 daq4 cm_ m rq4) = T9
              obtain ⟨rq9, Wfq9, Yfq9, Cfq9, rpq9, hfq9, dmq9, daq9, cmq9⟩ := T9
              have k9_cm : zok 4096 cmq9 := zok_X2_takeFragment (zdok_le k4_dm (by omega)) hc_ hm hT9
              have k9_dm : zdok (2 * n + 0) dmq9 := zdok_X2_takeFragment (zdok_le k4_dm (by omega)) hT9
              refine z_if_eq (tgt := 60) C dX2_findRecord_55 (by decide) (fun c_10 => ?_) (fun c_10 => ?_)
              · skip
                refine z_iinc (v := (pv + 1)) (lv' := [(1, .int (pv + 1)), (2, .int rq4), (0, .ref e)]) C dX2_findRecord_60 2 rfl rfl (by decide) rfl ?_
                refine z_goto (tgt := 6) C dX2_findRecord_63 (by decide) ?_
                exact z_lv [2, 0] rfl (ih (pv + 1) Wfq9 Yfq9 Cfq9 rpq9 hfq9 plq4 loq7 fpq4 fbq4 dmq9 daq9 cmq9 (zfuel_s (by decide) hp c_2) (zdok_le k9_dm (by omega)) k9_cm (by rw [← hv]; simp only [lp_X2_findRecord, if_neg c_2, hT4, if_neg c_5, if_neg c_6, hT7, if_pos c_8, hT9, if_pos c_10]))
              · skip
                refine z_iconst (v := 1) C dX2_findRecord_58 (by decide) ?_
                have he : (f_X2_findRecord Wf Yf Cf F pl bg lo fp fb dm da cm z m) = (1, Wfq9, Yfq9, Cfq9, rpq9, hfq9, plq4, loq7, fpq4, fbq4, dmq9, daq9, cmq9) := by rw [← hv]; simp only [lp_X2_findRecord, if_neg c_2, hT4, if_neg c_5, if_neg c_6, hT7, if_pos c_8, hT9, if_neg c_10]
                exact hret _ _ _ _ dX2_findRecord_59 (by first | rw [he] | rfl) (by first | rw [he] | rfl)
          · skip
            refine z_aload_n C dX2_findRecord_35 rfl 1 rfl ?_
            refine z_callVv (n := 0) (isC := [0, 1, 2, 3, 4, 5, 6, 7, 8]) (isR := []) (isP := [0, 1, 2, 3, 4, 5, 6, 7, 8]) (As := []) (rest := []) (wr := []) (ws2 := [(e, .inr (2, [.ref b, .ref d, .ref c, .int ((f_X2_tear Wfq4 Yfq4 rp_ hf_ dmq4 daq4 cm_).2.2.1), .int ((f_X2_tear Wfq4 Yfq4 rp_ hf_ dmq4 daq4 cm_).2.2.2.1), .int plq4, .int bg, .int lo_, .int fpq4, .int fbq4])), (d, .inr (1, [.ref dw, .ref dy, .int ((f_X2_tear Wfq4 Yfq4 rp_ hf_ dmq4 daq4 cm_).2.2.2.2.1), .int ((f_X2_tear Wfq4 Yfq4 rp_ hf_ dmq4 daq4 cm_).2.2.2.2.2.1)])), (dw, .inl (g.2.2.1, 100, .inl ((f_X2_tear Wfq4 Yfq4 rp_ hf_ dmq4 daq4 cm_).1))), (dy, .inl (g.2.2.1, 100, .inl ((f_X2_tear Wfq4 Yfq4 rp_ hf_ dmq4 daq4 cm_).2.1))), (c, .inr (3, [.ref ca, .int ((f_X2_tear Wfq4 Yfq4 rp_ hf_ dmq4 daq4 cm_).2.2.2.2.2.2)])), (ca, .inl (g.2.1, 4096, .inl Cf_)), (b, .inr (0, [.ref br, .int z])), (br, .inr (3, [.ref ba, .int m])), (ba, .inl (g.2.1, 4096, .inl F))]) C dX2_findRecord_36 (c_X2_tear (zl X) g e b d c dw dy ca br ba Wfq4 Yfq4 Cf_ F rp_ hf_ plq4 bg lo_ fpq4 fbq4 dmq4 daq4 cm_ z m (zdok_le k4_dm (by omega)) hc_) gX2_findRecord_X2_tear rfl ⟨rfl, rfl⟩ (by decide +kernel) (by decide) (by decide) rfl rfl rfl rfl (Nat.le_of_ble_eq_true rfl) rfl rfl ⟨rfl, rfl, rfl⟩ (by decide) rfl ?_
            generalize hT11 : (f_X2_tear Wfq4 Yfq4 rp_ hf_ dmq4 daq4 cm_) = T11
            obtain ⟨Wfq11, Yfq11, rpq11, hfq11, dmq11, daq11, cmq11⟩ := T11
            have k11_cm : zok 4096 cmq11 := zok_X2_tear (zdok_le k4_dm (by omega)) hc_ hT11
            have k11_dm : zdok (2 * n + 0) dmq11 := zdok_X2_tear (zdok_le k4_dm (by omega)) hT11
            refine z_goto (tgt := 60) C dX2_findRecord_39 (by decide) ?_
            refine z_iinc (v := (pv + 1)) (lv' := [(1, .int (pv + 1)), (2, .int rq4), (0, .ref e)]) C dX2_findRecord_60 2 rfl rfl (by decide) rfl ?_
            refine z_goto (tgt := 6) C dX2_findRecord_63 (by decide) ?_
            exact z_lv [2, 0] rfl (ih (pv + 1) Wfq11 Yfq11 Cf_ rpq11 hfq11 plq4 lo_ fpq4 fbq4 dmq11 daq11 cmq11 (zfuel_s (by decide) hp c_2) (zdok_le k11_dm (by omega)) k11_cm (by rw [← hv]; simp only [lp_X2_findRecord, if_neg c_2, hT4, if_neg c_5, if_pos c_6, hT11]))
        · skip
          refine z_goto (tgt := 66) C dX2_findRecord_25 (by decide) ?_
          refine z_aload_n C dX2_findRecord_66 rfl 1 rfl ?_
          refine z_callVv (n := 0) (isC := [0, 1, 2, 3, 4, 5, 6, 7, 8]) (isR := []) (isP := [0, 1, 2, 3, 4, 5, 6, 7, 8]) (As := []) (rest := []) (wr := []) (ws2 := [(e, .inr (2, [.ref b, .ref d, .ref c, .int ((f_X2_dropRecord cm_).1), .int ((f_X2_dropRecord cm_).2.1), .int plq4, .int bg, .int lo_, .int fpq4, .int fbq4])), (d, .inr (1, [.ref dw, .ref dy, .int dmq4, .int daq4])), (dw, .inl (g.2.2.1, 100, .inl Wfq4)), (dy, .inl (g.2.2.1, 100, .inl Yfq4)), (c, .inr (3, [.ref ca, .int ((f_X2_dropRecord cm_).2.2)])), (ca, .inl (g.2.1, 4096, .inl Cf_)), (b, .inr (0, [.ref br, .int z])), (br, .inr (3, [.ref ba, .int m])), (ba, .inl (g.2.1, 4096, .inl F))]) C dX2_findRecord_67 (c_X2_dropRecord (zl X) g e b d c dw dy ca br ba Wfq4 Yfq4 Cf_ F rp_ hf_ plq4 bg lo_ fpq4 fbq4 dmq4 daq4 cm_ z m hc_) gX2_findRecord_X2_dropRecord rfl ⟨rfl, rfl⟩ (by decide +kernel) (by decide) (by decide) rfl rfl rfl rfl (Nat.le_of_ble_eq_true rfl) rfl rfl ⟨rfl, rfl, rfl⟩ (by decide) rfl ?_
          generalize hT12 : (f_X2_dropRecord cm_) = T12
          obtain ⟨rpq12, hfq12, cmq12⟩ := T12
          have k12_cm : zok 4096 cmq12 := zok_X2_dropRecord hc_ hT12
          refine z_iconst (v := 0) C dX2_findRecord_70 (by decide) ?_
          have he : (f_X2_findRecord Wf Yf Cf F pl bg lo fp fb dm da cm z m) = (0, Wfq4, Yfq4, Cf_, rpq12, hfq12, plq4, lo_, fpq4, fbq4, dmq4, daq4, cmq12) := by rw [← hv]; simp only [lp_X2_findRecord, if_neg c_2, hT4, if_pos c_5, hT12]
          exact hret _ _ _ _ dX2_findRecord_71 (by first | rw [he] | rfl) (by first | rw [he] | rfl)
  exact z_lv [1, 0] rfl (loop 4098 0 Wf Yf Cf rpq1 hfq1 pl lo fp fb dm da cmq1 ⟨by decide, by decide, by decide⟩ hd k1_cm (by simp only [f_X2_findRecord, hT1]))
