def zNs (X : zX) : Prop := match X with
  | (p, l, e, R, s, m, args, below, meth, c, A, Q) => zNest s
section
variable {X : zX} {g : zG} {nL : Nat} {cc : ByteArray} {own : String} {Ts : List Cond} {rm : Room} {cells slots pc : Nat} {lv : List (Nat × Value)} {ws : va_W} {index maxL n b : Nat} {y : MethodName} {bytes : ByteArray} {Wd Wd' : List Cond} {rc : Room} {As rest : List Value} {wc wr : va_W} {Post : va_W → Prop}
theorem z_callC0 {st : List Value} (C : zC X g nL cc own Ts rm) (Nx : zNs X) (d : decode cc pc = .ok (.invokespecial index, 3)) (hM : zMC (zl X) y Wd rc g (.ref b :: As) wc Post) (hG : GoodIn Ts Wd) (hw : Wd = Cond.code y bytes maxL none :: Wd') (h1 : .initialized y.cls ∈ Ts) (h2 : .methodLink own index y ∈ Ts) (h3 : .instanceMethod y ∈ Ts) (hyn : y.name = "<init>") (hd : y.cls ≠ "java/lang/invoke/MethodHandle" ∧ y.cls ≠ "java/lang/invoke/VarHandle" ∧ (parseMethodDescriptor y.desc).map (fun d => d.parameters.length) = some n) (hR : rc.frames + 1 ≤ rm.frames ∧ 8 + (maxL + 11) + rc.locals ≤ rm.locals) (hfit : cells + rc.cells ≤ rm.cells ∧ slots + rc.slots ≤ rm.slots) (hst : st = As.reverse ++ .ref b :: rest) (hn : As.length = n) (hcat : (rest.map fun v => v.category).sum ≤ 8) (isC isR : List Nat) (hC : isC.map (fun i => ws[i]?) = wc.map some) (hRr : isR.map (fun i => ws[i]?) = wr.map some) (hnd : va_nd isC = true ∧ va_nd isR = true) (hdis : ∀ i ∈ isR, i ∉ isC) (k : ∀ u : va_W, Post u → zV X g nL (cells + rc.cells) (slots + rc.slots) (pc + 3) lv rest (wr ++ u)) : zV X g nL cells slots pc lv st ws := by
  obtain ⟨p, l, e, R, s, m, args, below, meth, c, A, Q⟩ := X
  obtain ⟨hx, hb, hml, hown, hts, hK, hA, hR9, hE, hlk⟩ := C
  subst hR9
  subst hst
  intro H locs ls hP hD hS hl
  have hC2 : isC.filterMap (fun i => ws[i]?) = wc := z_fm hC
  have hFc := va_free (wc := wc) hD hS hA isC hC
  refine va_callv (va_runI (As := As) (rest := rest) ⟨hx, hb, hml, hown, hts⟩ (hM H.size) (cwI n hts hG hw rfl rfl (hts _ h1) (hts _ h2) (hts _ h3) hyn hd hR) ⟨zPreC.blind, fun U hU hW => z_preC hK hA hE Nx hP hD hS isC hnd.1 hC hC2 hU hW⟩ rfl hn hl.1 rfl (lv_room hcat) d hfit) hS (fun q _ h => hFc q h) hFc (fun u t H1 locs ht hvm hw9 hB hz1 hk1 hS => ?_)
  obtain ⟨hP1, hD1⟩ := hB
  rw [ht] at hP1
  obtain ⟨hP, hD⟩ := va_join (wr := wr) hP hD isC isR hC hRr hnd.2 hdis hk1 hFc hP1 hD1
  exact k u hw9 _ _ _ hP hD hS hl
end
section
variable {s : State} {b : Nat}
theorem st_A (a : Nat) (h : a < s.heap.size) : ¬ (fun q : Nat => s.heap.size ≤ q) a := fun q => absurd h (Nat.not_lt.mpr q)
theorem st_zE (hts : ∀ w ∈ lw_tbl, w.before #[Value.ref b] s = true) (hg : (Jvm.Cond.and given_1 narrow_1).before #[Value.ref b] s = true) : zE (fun q => s.heap.size ≤ q) s s.heap := by
  have hs := flat_of_before _ hg
  have hel : ∀ j : Nat, j < 16 → (Term.elem (.static "FragmentLog$Sum" "REMAINDERS" "[I") (.int (Int32.ofNat j))).eval #[Value.ref b] s none [] s = some (.int (zRem j)) := by
    intro j hj
    have hj' : j = 0 ∨ j = 1 ∨ j = 2 ∨ j = 3 ∨ j = 4 ∨ j = 5 ∨ j = 6 ∨ j = 7 ∨ j = 8 ∨ j = 9 ∨ j = 10 ∨ j = 11 ∨ j = 12 ∨ j = 13 ∨ j = 14 ∨ j = 15 := by omega
    rcases hj' with rfl | rfl | rfl | rfl | rfl | rfl | rfl | rfl | rfl | rfl | rfl | rfl | rfl | rfl | rfl | rfl
    · exact va_eqt (hs _ (by decide +kernel))
    · exact va_eqt (hs _ (by decide +kernel))
    · exact va_eqt (hs _ (by decide +kernel))
    · exact va_eqt (hs _ (by decide +kernel))
    · exact va_eqt (hs _ (by decide +kernel))
    · exact va_eqt (hs _ (by decide +kernel))
    · exact va_eqt (hs _ (by decide +kernel))
    · exact va_eqt (hs _ (by decide +kernel))
    · exact va_eqt (hs _ (by decide +kernel))
    · exact va_eqt (hs _ (by decide +kernel))
    · exact va_eqt (hs _ (by decide +kernel))
    · exact va_eqt (hs _ (by decide +kernel))
    · exact va_eqt (hs _ (by decide +kernel))
    · exact va_eqt (hs _ (by decide +kernel))
    · exact va_eqt (hs _ (by decide +kernel))
    · exact va_eqt (hs _ (by decide +kernel))
  obtain ⟨t, ht, hT⟩ := va_Tof (tm := .static "FragmentLog$Sum" "REMAINDERS" "[I") (ty := .int) (N := 16) (f := fun j => .int (zRem j)) (A := fun q => s.heap.size ≤ q) (by decide) (hs _ (by decide +kernel)) (va_eqt (hs _ (by decide +kernel))) hel st_A
  exact ⟨t, va_Zof (hts _ (by decide +kernel)) (hts _ (by decide +kernel)) ht st_A, hT⟩
theorem st_bad : ∀ w ∈ zBadW, w ∈ lw_tbl := by decide +kernel
theorem st_str1 : ∀ q ∈ zStrs, Cond.stringRef "FragmentLog" q.1 q.2 ∈ lw_tbl := by decide +kernel
theorem st_str2 : ∀ q ∈ zStrs, Cond.exactly (.string "FragmentLog" q.1) "java/lang/String" ∈ flatC (Jvm.Cond.and given_1 narrow_1) := by decide +kernel
theorem st_zYE (hts : ∀ w ∈ lw_tbl, w.before #[Value.ref b] s = true) (hg : (Jvm.Cond.and given_1 narrow_1).before #[Value.ref b] s = true) : zYE (fun q => s.heap.size ≤ q) s s.heap := by
  have hs := flat_of_before _ hg
  refine ⟨vx_Zqof (hts _ (by decide +kernel)) (hts _ (by decide +kernel)) (hs _ (by decide +kernel)) st_A, vx_Zqof (hts _ (by decide +kernel)) (hts _ (by decide +kernel)) (hs _ (by decide +kernel)) st_A, fun w hw => va_Nw.of (zBadW_tab w hw) (hts w (st_bad w hw)), fun q hq => ?_⟩
  obtain ⟨a, c, cell, k, q1, -⟩ := Cond.exactly_spec (hs _ (st_str2 q hq))
  exact ⟨a, vk_R.of (hts _ (st_str1 q hq)) q1⟩
theorem st_zNC (hg : (Jvm.Cond.and given_1 narrow_1).before #[Value.ref b] s = true) : zNC s := by
  have hs := flat_of_before _ hg
  exact ⟨va_Nc.of (hs _ (by decide +kernel)), va_Nc.of (hs _ (by decide +kernel))⟩
theorem st_zNest (hts : ∀ w ∈ lw_tbl, w.before #[Value.ref b] s = true) : zNest s := ⟨va_Nw.of rfl (hts _ (by decide +kernel)), va_Nw.of rfl (hts _ (by decide +kernel))⟩
theorem st_uX0 : ∀ w ∈ u_ws RX0 TX0 2, w ∈ lw_tbl := by decide +kernel
theorem st_uX1 : ∀ w ∈ u_ws RX1 TX1 4, w ∈ lw_tbl := by decide +kernel
theorem st_uX2 : ∀ w ∈ u_ws RX2 TX2 10, w ∈ lw_tbl := by decide +kernel
theorem st_uX3 : ∀ w ∈ u_ws RX3 TX3 2, w ∈ lw_tbl := by decide +kernel
theorem st_uX5 : ∀ w ∈ u_ws RX5 TX5 3, w ∈ lw_tbl := by decide +kernel
theorem st_uX6 : ∀ w ∈ u_ws RX6 TX6 23, w ∈ lw_tbl := by decide +kernel
theorem st_arr {ty : FieldType} {U : State} {args : Array Value} (h : (Cond.arrayClass ty).before args U = true) : ∃ cA : ClassId, ArrOfT U cA ty ∧ U.vm.findClass ("[" ++ ty.toString) = some cA := by
  obtain ⟨cA, kA, comp, h1, h2, h3⟩ := Cond.arrayClass_spec h
  exact ⟨cA, fun n z => ⟨fun k h => (by cases h), kA, h2, comp, h3⟩, h1⟩
theorem st_K (hts : ∀ w ∈ lw_tbl, w.before #[Value.ref b] s = true) : ∃ g : zG, va_K g.1 vwCl (zTys g) s := by
  obtain ⟨c0, i0, k0⟩ := u_known (C := RX0) (T := TX0) (N := 2) (n := 2) hts st_uX0 (hts _ (by decide +kernel))
  obtain ⟨c1, i1, k1⟩ := u_known (C := RX1) (T := TX1) (N := 4) (n := 4) hts st_uX1 (hts _ (by decide +kernel))
  obtain ⟨c2, i2, k2⟩ := u_known (C := RX2) (T := TX2) (N := 10) (n := 10) hts st_uX2 (hts _ (by decide +kernel))
  obtain ⟨c3, i3, k3⟩ := u_known (C := RX3) (T := TX3) (N := 2) (n := 2) hts st_uX3 (hts _ (by decide +kernel))
  obtain ⟨c4, i4, k4⟩ := u_known (C := RX5) (T := TX5) (N := 3) (n := 3) hts st_uX5 (hts _ (by decide +kernel))
  obtain ⟨c5, i5, k5⟩ := u_known (C := RX6) (T := TX6) (N := 23) (n := 23) hts st_uX6 (hts _ (by decide +kernel))
  obtain ⟨cB, aB, fB⟩ := st_arr (hts (.arrayClass .byte) (by decide +kernel))
  obtain ⟨cI, aI, fI⟩ := st_arr (hts (.arrayClass .int) (by decide +kernel))
  obtain ⟨cJ, aJ, fJ⟩ := st_arr (hts (.arrayClass .long) (by decide +kernel))
  refine ⟨((fun k => match k with | 0 => c0 | 1 => c1 | 2 => c2 | 3 => c3 | 4 => c4 | _ => c5, fun k => match k with | 0 => i0 | 1 => i1 | 2 => i2 | 3 => i3 | 4 => i4 | _ => i5), cB, cI, cJ), fun c q hq => ?_, fun k q hk => ?_⟩
  · match c, hq with
    | 0, hq => cases hq; exact k0
    | 1, hq => cases hq; exact k1
    | 2, hq => cases hq; exact k2
    | 3, hq => cases hq; exact k3
    | 4, hq => cases hq; exact k4
    | 5, hq => cases hq; exact k5
    | n + 6, hq => exact nomatch hq
  · match k, hk with
    | 0, hk => cases hk; exact ⟨aB, fB⟩
    | 1, hk => cases hk; exact ⟨aI, fI⟩
    | 2, hk => cases hk; exact ⟨aJ, fJ⟩
    | n + 3, hk => exact nomatch hk
end
theorem st_wX5 : ∀ w ∈ u_ws RX5 TX5 3, w ∈ wsL_law := by decide +kernel
theorem st_wX6 : ∀ w ∈ u_ws RX6 TX6 23, w ∈ wsL_law := by decide +kernel
set_option maxHeartbeats 4000000 in
set_option maxRecDepth 100000 in
theorem law_start {X : zX} {g : zG} {sb L : Nat} {xs : Nat → Int32} (hl : (zl X).stackTraces = false) (C : zC X g 7 cL_law RL wsL_law room_1) (Sc : zSc X sb L xs) (Nx : zNs X) (hL : L ≤ 3072) (hret : ∀ (cells slots : Nat) (lv : List (Nat × Value)) (ws : va_W), cells ≤ room_1.cells → slots ≤ room_1.slots → zV X g 7 cells slots 546 lv [.int 1] ws) : zV X g 7 0 0 0 [(0, .ref sb)] [] [] := by
  refine z_new (ci := 4) (fs := [.null, .null, .null]) (Cn := RX5) (T := TX5) (N := 3) C dL_law_0 st_wX5 tyX5 tyX5_ok (by decide +kernel) (by decide +kernel) (by decide +kernel) rfl (by decide) (by decide) (by decide) (fun o => ?_)
  refine z_dup C dL_law_3 rfl ?_
  refine z_callC0 (n := 0) (isC := [0]) (isR := []) (As := []) (rest := [.ref o]) (wr := []) C Nx dL_law_4 (c_X5_init (zl X) g o) gL_law_X5_init rfl (by decide +kernel) (by decide +kernel) (by decide +kernel) rfl (by decide +kernel) (by decide) (by decide) rfl rfl (Nat.le_of_ble_eq_true rfl) rfl rfl ⟨rfl, rfl⟩ (by decide) (fun u hu => ?_)
  obtain ⟨h, ha, b, br, ba, e, d, dw, dy, c, ca, rfl⟩ := hu
  refine z_astore_n (lv' := [(1, .ref o), (0, .ref sb)]) C dL_law_7 rfl (by decide) rfl ?_
  refine z_new (ci := 5) (fs := [.int 0, .int 0, .int 0, .null, .int 0, .null, .int 0, .int 0, .int 0, .int 0, .int 0, .null, .int 0, .int 0, .int 0, .null, .int 0, .int 0, .null, .null, .int 0, .int 0, .int 0]) (Cn := RX6) (T := TX6) (N := 23) C dL_law_8 st_wX6 tyX6 tyX6_ok (by decide +kernel) (by decide +kernel) (by decide +kernel) rfl (by decide) (by decide) (by decide) (fun M => ?_)
  refine z_dup C dL_law_11 rfl ?_
  refine z_callC0 (n := 0) (isC := [12]) (isR := [0, 1, 2, 3, 4, 5, 6, 7, 8, 9, 10, 11]) (As := []) (rest := [.ref M]) (wr := [(o, .inr (4, [.ref h, .ref b, .ref e])), (h, .inr (3, [.ref ha, .int 0])), (ha, .inl (g.2.1, 400, .inl (fun _ => 0))), (b, .inr (0, [.ref br, .int 64])), (br, .inr (3, [.ref ba, .int 0])), (ba, .inl (g.2.1, 4096, .inl (fun _ => 0))), (e, .inr (2, [.ref b, .ref d, .ref c, .int (-1), .int 0, .int 0, .int 0, .int 0, .int 0, .int 0])), (d, .inr (1, [.ref dw, .ref dy, .int 0, .int 0])), (dw, .inl (g.2.2.1, 100, .inl (fun _ => 0))), (dy, .inl (g.2.2.1, 100, .inl (fun _ => 0))), (c, .inr (3, [.ref ca, .int 0])), (ca, .inl (g.2.1, 4096, .inl (fun _ => 0)))]) C Nx dL_law_12 (c_X6_init (zl X) g M) gL_law_X6_init rfl (by decide +kernel) (by decide +kernel) (by decide +kernel) rfl (by decide +kernel) (by decide) (by decide) rfl rfl (Nat.le_of_ble_eq_true rfl) rfl rfl ⟨rfl, rfl⟩ (by decide) (fun u hu => ?_)
  obtain ⟨ab, au, ah, ar, aw, ay, rfl⟩ := hu
  refine z_astore_n (lv' := [(2, .ref M), (1, .ref o), (0, .ref sb)]) C dL_law_15 rfl (by decide) rfl ?_
  refine z_iconst (v := 1) C dL_law_16 (by decide) ?_
  refine z_newaJ (N := 1) C dL_law_17 (by decide +kernel) (by decide) rfl (by decide) (by decide) (by decide) (fun j => ?_)
  refine z_ws (ws' := [(o, .inr (4, [.ref h, .ref b, .ref e])), (h, .inr (3, [.ref ha, .int 0])), (ha, .inl (g.2.1, 400, .inl (fun _ => 0))), (e, .inr (2, [.ref b, .ref d, .ref c, .int (-1), .int 0, .int 0, .int 0, .int 0, .int 0, .int 0])), (d, .inr (1, [.ref dw, .ref dy, .int 0, .int 0])), (dw, .inl (g.2.2.1, 100, .inl (fun _ => 0))), (dy, .inl (g.2.2.1, 100, .inl (fun _ => 0))), (c, .inr (3, [.ref ca, .int 0])), (ca, .inl (g.2.1, 4096, .inl (fun _ => 0))), (b, .inr (0, [.ref br, .int 64])), (br, .inr (3, [.ref ba, .int 0])), (ba, .inl (g.2.1, 4096, .inl (fun _ => 0))), (M, .inr (5, [.int 0, .int 64, .int 0, .ref ab, .int 0, .ref au, .int 0, .int 0, .int 0, .int 0, .int 0, .ref ah, .int 0, .int (-1), .int (-1), .ref ar, .int 0, .int 0, .ref aw, .ref ay, .int 0, .int 0, .int 0])), (ab, .inl (g.2.2.1, 4096, .inl (fun _ => 0))), (au, .inl (g.2.2.1, 400, .inl (fun _ => 0))), (ah, .inl (g.2.2.1, 4096, .inl (fun _ => 0))), (ar, .inl (g.2.2.1, 4096, .inl (fun _ => 0))), (aw, .inl (g.2.2.1, 100, .inl (fun _ => 0))), (ay, .inl (g.2.2.1, 100, .inl (fun _ => 0))), (j, .inl (g.2.2.2, 1, .inr (.inl (fun _ => 0))))]) [0, 1, 2, 6, 7, 8, 9, 10, 11, 3, 4, 5, 12, 13, 14, 15, 16, 17, 18, 19] rfl rfl rfl ?_
  refine z_astore_n (lv' := [(3, .ref j), (2, .ref M), (1, .ref o), (0, .ref sb)]) C dL_law_19 rfl (by decide) rfl ?_
  refine z_iconst (v := 0) C dL_law_20 (by decide) ?_
  refine z_istore (lv' := [(4, .int 0), (3, .ref j), (2, .ref M), (1, .ref o), (0, .ref sb)]) C dL_law_21 (by decide) rfl ?_
  refine z_lv (lv' := [(0, .ref sb), (1, .ref o), (2, .ref M), (3, .ref j), (4, .int (nI 0))]) [4, 3, 2, 1, 0] rfl ?_
  have rc : 20 + 513 ≤ room_1.cells := by decide
  have rs : 21729 + 6 * 513 ≤ room_1.slots := by decide
  have loop : ∀ (r n : Nat), n + r = 512 → ∀ (cells slots : Nat) (Bf : Nat → Int32) (Wf : Nat → Int32) (Yf : Nat → Int32) (Cf : Nat → Int32) (F : Nat → Int32) (MB : Nat → Int32) (MU : Nat → Int32) (MH : Nat → Int32) (MR : Nat → Int32) (MW : Nat → Int32) (MY : Nat → Int32) (bm : Int32) (rp : Int32) (hf : Int32) (pl : Int32) (bg : Int32) (lo : Int32) (fp : Int32) (fb : Int32) (dm : Int32) (da : Int32) (cm : Int32) (z : Int32) (m : Int32) (Mft : Int32) (Msz : Int32) (Mal : Int32) (Mbs : Int32) (Mpl : Int32) (Mbg : Int32) (Mlo : Int32) (Mhs : Int32) (Mhf : Int32) (Mhp : Int32) (Mrs : Int32) (Mrf : Int32) (Mto : Int32) (Mtb : Int32) (Mfr : Int32) (Mln : Int32) (Mhb : Int32) (J : Nat → Int64), cells ≤ 20 + n → slots ≤ 21729 + 6 * n → (zInv n Bf Wf Yf Cf F MB MU MH MR MW MY bm rp hf pl bg lo fp fb dm da cm z m Mft Msz Mal Mbs Mpl Mbg Mlo Mhs Mhf Mhp Mrs Mrf Mto Mtb Mfr Mln Mhb) → zV X g 7 cells slots 23 [(0, .ref sb), (1, .ref o), (2, .ref M), (3, .ref j), (4, .int (nI (6 * n)))] [] [(o, .inr (4, [.ref h, .ref b, .ref e])), (h, .inr (3, [.ref ha, .int bm])), (ha, .inl (g.2.1, 400, .inl Bf)), (e, .inr (2, [.ref b, .ref d, .ref c, .int rp, .int hf, .int pl, .int bg, .int lo, .int fp, .int fb])), (d, .inr (1, [.ref dw, .ref dy, .int dm, .int da])), (dw, .inl (g.2.2.1, 100, .inl Wf)), (dy, .inl (g.2.2.1, 100, .inl Yf)), (c, .inr (3, [.ref ca, .int cm])), (ca, .inl (g.2.1, 4096, .inl Cf)), (b, .inr (0, [.ref br, .int z])), (br, .inr (3, [.ref ba, .int m])), (ba, .inl (g.2.1, 4096, .inl F)), (M, .inr (5, [.int Mft, .int Msz, .int Mal, .ref ab, .int Mbs, .ref au, .int Mpl, .int Mbg, .int Mlo, .int Mhs, .int Mhf, .ref ah, .int Mhp, .int Mrs, .int Mrf, .ref ar, .int Mto, .int Mtb, .ref aw, .ref ay, .int Mfr, .int Mln, .int Mhb])), (ab, .inl (g.2.2.1, 4096, .inl MB)), (au, .inl (g.2.2.1, 400, .inl MU)), (ah, .inl (g.2.2.1, 4096, .inl MH)), (ar, .inl (g.2.2.1, 4096, .inl MR)), (aw, .inl (g.2.2.1, 100, .inl MW)), (ay, .inl (g.2.2.1, 100, .inl MY)), (j, .inl (g.2.2.2, 1, .inr (.inl J)))] := by
    intro r
    induction r with
    | zero =>
      intro n hr cells slots Bf Wf Yf Cf F MB MU MH MR MW MY bm rp hf pl bg lo fp fb dm da cm z m Mft Msz Mal Mbs Mpl Mbg Mlo Mhs Mhf Mhp Mrs Mrf Mto Mtb Mfr Mln Mhb J hc hs hI
      exact law_head hl C Sc o h ha e d dw dy c ca b br ba M ab au ah ar aw ay j (6 * n) n (fun q => absurd q (by omega)) (by omega) (Nat.le_trans hL (by decide)) cells slots (fun q => absurd q (by omega)) Bf Wf Yf Cf F MB MU MH MR MW MY bm rp hf pl bg lo fp fb dm da cm z m Mft Msz Mal Mbs Mpl Mbg Mlo Mhs Mhf Mhp Mrs Mrf Mto Mtb Mfr Mln Mhb J (fun _ => hI) (fun q => absurd q (by omega)) (fun _ => z_iconst (v := 1) C dL_law_545 (by decide) (hret _ _ _ _ (Nat.le_trans hc (by omega)) (Nat.le_trans hs (by omega))))
    | succ r ih =>
      intro n hr cells slots Bf Wf Yf Cf F MB MU MH MR MW MY bm rp hf pl bg lo fp fb dm da cm z m Mft Msz Mal Mbs Mpl Mbg Mlo Mhs Mhf Mhp Mrs Mrf Mto Mtb Mfr Mln Mhb J hc hs hI
      refine law_head hl C Sc o h ha e d dw dy c ca b br ba M ab au ah ar aw ay j (6 * n) n (fun _ => by omega) (by omega) (Nat.le_trans hL (by decide)) cells slots (fun _ => ⟨Nat.le_trans (Nat.succ_le_succ hc) (by omega), Nat.le_trans (Nat.add_le_add_right hs 6) (by omega)⟩) Bf Wf Yf Cf F MB MU MH MR MW MY bm rp hf pl bg lo fp fb dm da cm z m Mft Msz Mal Mbs Mpl Mbg Mlo Mhs Mhf Mhp Mrs Mrf Mto Mtb Mfr Mln Mhb J (fun _ => hI) (fun _ c2 s2 Bf' Wf' Yf' Cf' F' MB' MU' MH' MR' MW' MY' bm' rp' hf' pl' bg' lo' fp' fb' dm' da' cm' z' m' Mft' Msz' Mal' Mbs' Mpl' Mbg' Mlo' Mhs' Mhf' Mhp' Mrs' Mrf' Mto' Mtb' Mfr' Mln' Mhb' J' h1 h2 h3 => ?_) (fun _ => z_iconst (v := 1) C dL_law_545 (by decide) (hret _ _ _ _ (Nat.le_trans hc (by omega)) (Nat.le_trans hs (by omega))))
      refine z_iinc (v := nI (6 * (n + 1))) (lv' := [(4, .int (nI (6 * (n + 1)))), (0, .ref sb), (1, .ref o), (2, .ref M), (3, .ref j)]) C dL_law_539 4 rfl (nI_add (6 * n) 6) (by decide) rfl ?_
      refine z_goto (tgt := 23) C dL_law_542 (by decide) ?_
      refine z_lv (lv' := [(0, .ref sb), (1, .ref o), (2, .ref M), (3, .ref j), (4, .int (nI (6 * (n + 1))))]) [1, 2, 3, 4, 0] rfl ?_
      exact ih (n + 1) (by omega) c2 s2 Bf' Wf' Yf' Cf' F' MB' MU' MH' MR' MW' MY' bm' rp' hf' pl' bg' lo' fp' fb' dm' da' cm' z' m' Mft' Msz' Mal' Mbs' Mpl' Mbg' Mlo' Mhs' Mhf' Mhp' Mrs' Mrf' Mto' Mtb' Mfr' Mln' Mhb' J' (by omega) (by omega) h3
  exact loop 512 0 rfl _ _ (fun _ => 0) (fun _ => 0) (fun _ => 0) (fun _ => 0) (fun _ => 0) (fun _ => 0) (fun _ => 0) (fun _ => 0) (fun _ => 0) (fun _ => 0) (fun _ => 0) 0 (-1) 0 0 0 0 0 0 0 0 0 64 0 0 64 0 0 0 0 0 0 0 0 (-1) (-1) 0 0 0 0 0 (fun _ => 0) (by decide) (by decide) zInv_0
