/-! ===== the law's own methods: calls of what may throw, and their catching ===== -/
def zNC (U : State) : Prop := va_Nc zISE zIAE U ∧ va_Nc zIAE zIOE U
def zPreL (g : zG) (av : List Value) (ws : va_W) (sz : Nat) : Array Value → State → Prop := va_Pc av (fun U => ((U.heap.size = sz ∧ va_P g.1 vwCl ws U.heap ∧ va_K g.1 vwCl (zTys g) U ∧ va_D (fun _ => True) ws ∧ zE (va_A ws sz) U U.heap) ∧ zYE (va_A ws sz) U U.heap) ∧ zNC U)
theorem zPreL.blind {g : zG} {av : List Value} {ws : va_W} {sz : Nat} : FrameBlind (zPreL g av ws sz) := fun a U g9 mk q => by
  obtain ⟨q0, q1, qN⟩ := q
  obtain ⟨h1, h2⟩ := zPreX.blind (g := g) (av := av) (ws := ws) (sz := sz) a U g9 mk ⟨q0, q1⟩
  exact ⟨h1, h2, va_Nc.moved (u := U) (U := U.calling g9 mk a) (Vm.Alike.refl U.vm) qN.1, va_Nc.moved (u := U) (U := U.calling g9 mk a) (Vm.Alike.refl U.vm) qN.2⟩
def zLI (l : Launch) (y : MethodName) (Wd : List Cond) (rm : Room) (g : zG) (av : List Value) (ws : va_W) (Post : Int32 → va_W → Prop) : Prop :=
  ∀ sz : Nat, Met l y Wd rm (zPreL g av ws sz) (va_Qi Post (zB g (va_A ws sz)) (va_A ws sz)) 1 6 (va_A ws sz)
theorem zin01 : vp_in 0 1 := by rw [vp_in_iff]; decide
abbrev zHH : Type := List (Nat × Nat × Nat × Nat)
/-- what such a body knows besides -/
def zLX (X : zX) (hh : zHH) : Prop := match X with
  | (p, l, e, R, s, m, args, below, meth, c, A, Q) => zYE A s s.heap ∧ zNC s ∧ c.exceptionTable.toList = tableOf hh
theorem zLI_of {l : Launch} {y : MethodName} {Wd Wd' : List Cond} {rm : Room} {g : zG} {av : List Value} {ws : va_W} {Post : Int32 → va_W → Prop} {cc : ByteArray} {nL : Nat} {hh : zHH} (hy : plainName y.cls = true) (hw : Wd = Cond.codeWith y cc nL (some .int) hh :: Wd') (hnl : (lg_sl av).length ≤ nL) (body : ∀ X : zX, zC X g nL cc y.cls Wd rm → zLX X hh → zl X = l → (∀ (pc : Nat) (lv : List (Nat × Value)) (v : Int32) (w : va_W), decode cc pc = .ok (.ireturn, 1) → Post v w → zV X g nL 1 6 pc lv [.int v] w) → zV X g nL 0 0 0 (lv_args 0 av) [] ws) : zLI l y Wd rm g av ws Post := by
  intro sz
  refine va_MetW (cc := cc) (maxL := nL) (ret := some .int) (hh := hh) hy hw ?_
  intro p e s m args below meth c s₁ B hml hv
  obtain ⟨rfl, ⟨⟨hsz, hP, hK, hD0, hE⟩, hY⟩, hN⟩ := hv
  subst hsz
  have hS : va_S (va_A ws s.heap.size) s.heap s.heap [] := va_S.rf
  have hl := lv_entry av (n := nL) hnl
  have hts := atoms_spec (ws := Wd) B.pre
  have htab : c.exceptionTable.toList = tableOf hh := vx_table (x := y) B (hts (Cond.codeWith y cc nL (some .int) hh) (by rw [hw]; exact List.mem_cons_self))
  rw [lg_entry_eq]
  refine body (p, l, e, (headSpec Wd rm).room, s, m, av.toArray, below, meth, c, va_A ws s.heap.size, _) ⟨B.exec, B.bytes, hml, findClass_of_methodNamed B.named, hts, hK, fun q h => Or.inr h, rfl, hE, B.notSynchronized⟩ ⟨hY, hN, htab⟩ rfl ?_ s.heap [] _ hP (hD0.self (sz := s.heap.size)) hS hl
  intro pc lv v w d hw9 H locs ls hP hD hS hl
  exact W.iret B.exec B.bytes B.returns (fun t ht hW => ⟨⟨v, w, rfl, hw9, by rw [ht]; exact hP, hD⟩, hS.F ht⟩) hS.2.2 d B.notSynchronized
/-- E is caught by a row of the table, at pc; its handler goes on -/
def zCat (X : zX) (g : zG) (nL : Nat) (own : String) (Ts : List Cond) (hh : zHH) (pc : Nat) (lv : List (Nat × Value)) (ws : va_W) (E : String) : Prop := match X with
  | (p, l, e, R, s, m, args, below, meth, c, A, Q) => ∃ (pre : List ExceptionTableEntry) (x : ExceptionTableEntry) (suf : List ExceptionTableEntry) (name : String), tableOf hh = pre ++ x :: suf ∧ (∀ z ∈ pre, covers z pc = false ∨ (z.catchType ≠ 0 ∧ ∃ nm : String, Cond.classLink own z.catchType nm ∈ Ts ∧ va_Nc E nm s)) ∧ covers x pc = true ∧ x.catchType ≠ 0 ∧ Cond.classLink own x.catchType name ∈ Ts ∧ Cond.castable E name ∈ zBadW ∧ ∀ q : Nat, zV X g nL 1 6 x.handlerPc lv [.ref q] ws
section
variable {X : zX} {g : zG} {nL : Nat} {cc : ByteArray} {own : String} {Ts : List Cond} {rm : Room} {pc : Nat} {lv : List (Nat × Value)} {ws : va_W} {hh : zHH}
theorem zcat_0 {E : String} {a1 a2 a3 a4 : Nat} {rest : zHH} (ht : hh = (a1, a2, a3, a4) :: rest) (hcov : covers ⟨a1, a2, a3, a4⟩ pc = true) (h0 : a4 ≠ 0) (h1 : Cond.classLink own a4 E ∈ Ts) (h2 : Cond.castable E E ∈ zBadW) (k : ∀ q : Nat, zV X g nL 1 6 a3 lv [.ref q] ws) : zCat X g nL own Ts hh pc lv ws E := by
  obtain ⟨p, l, e, R, s, m, args, below, meth, c, A, Q⟩ := X
  exact ⟨[], ⟨a1, a2, a3, a4⟩, tableOf rest, E, by rw [ht]; rfl, fun z h => absurd h List.not_mem_nil, hcov, h0, h1, h2, k⟩
theorem zcat_1 {E F : String} {a1 a2 a3 a4 b1 b2 b3 b4 : Nat} (L : zLX X hh) (hF : ∀ U : State, zNC U → va_Nc E F U) (ht : hh = [(b1, b2, b3, b4), (a1, a2, a3, a4)]) (hb0 : b4 ≠ 0) (hb1 : Cond.classLink own b4 F ∈ Ts) (hcov : covers ⟨a1, a2, a3, a4⟩ pc = true) (h0 : a4 ≠ 0) (h1 : Cond.classLink own a4 E ∈ Ts) (h2 : Cond.castable E E ∈ zBadW) (k : ∀ q : Nat, zV X g nL 1 6 a3 lv [.ref q] ws) : zCat X g nL own Ts hh pc lv ws E := by
  obtain ⟨p, l, e, R, s, m, args, below, meth, c, A, Q⟩ := X
  refine ⟨[⟨b1, b2, b3, b4⟩], ⟨a1, a2, a3, a4⟩, [], E, by rw [ht]; rfl, fun z h => ?_, hcov, h0, h1, h2, k⟩
  rw [List.mem_singleton.mp h]
  exact Or.inr ⟨hb0, F, hb1, hF _ L.2.1⟩
theorem z_last (C : zC X g nL cc own Ts rm) {cells slots a n : Nat} {st : List Value} {f : Nat → Int64} {i : Int32} {x : Int64} {ws' : va_W} (d : decode cc pc = .ok (.lastore, 1)) (q0 : Nat) (he : ws[q0]? = some (a, .inl (g.2.2.2, n, .inr (.inl f)))) (hin : vp_in i n) (hw : ws.set q0 (a, .inl (g.2.2.2, n, .inr (.inl (vp_updL f i.toNatClampNeg x)))) = ws') (kk : zV X g nL cells slots (pc + 1) lv st ws') : zV X g nL cells slots pc lv (.long x :: .int i :: .ref a :: st) ws := by
  obtain ⟨p, l, e, R, s, m, args, below, meth, c, A, Q⟩ := X
  obtain ⟨hx, hb, hml, hown, hts, hK, hA, hR, hE, hlk⟩ := C
  subst hR
  subst hw
  intro H locs ls hP hD hS hl
  exact va_last hx hb hK hP hD hS q0 2 he rfl hin d (fun H locs hP hD hS => kk H locs ls hP hD hS hl)
theorem z_lald (C : zC X g nL cc own Ts rm) {cells slots a n : Nat} {st : List Value} {f : Nat → Int64} {i : Int32} (d : decode cc pc = .ok (.laload, 1)) (q0 : Nat) (he : ws[q0]? = some (a, .inl (g.2.2.2, n, .inr (.inl f)))) (hin : vp_in i n) (kk : zV X g nL cells slots (pc + 1) lv (.long (f i.toNatClampNeg) :: st) ws) : zV X g nL cells slots pc lv (.int i :: .ref a :: st) ws := by
  obtain ⟨p, l, e, R, s, m, args, below, meth, c, A, Q⟩ := X
  obtain ⟨hx, hb, hml, hown, hts, hK, hA, hR, hE, hlk⟩ := C
  subst hR
  intro H locs ls hP hD hS hl
  exact va_lald hx hb hK hP q0 2 he rfl hin d (kk H locs ls hP hD hS hl)
theorem z_lcmp (C : zC X g nL cc own Ts rm) {cells slots : Nat} {st : List Value} {x y : Int64} (d : decode cc pc = .ok (.lcmp, 1)) (kk : zV X g nL cells slots (pc + 1) lv (.int (lg_cmp x y) :: st) ws) : zV X g nL cells slots pc lv (.long y :: .long x :: st) ws := by
  obtain ⟨p, l, e, R, s, m, args, below, meth, c, A, Q⟩ := X
  obtain ⟨hx, hb, hml, hown, hts, hK, hA, hR, hE, hlk⟩ := C
  subst hR
  intro H locs ls hP hD hS hl
  exact W.lcmp hx hb d (kk H locs ls hP hD hS hl)
theorem z_preX {s U : State} {H : Heap} {A : Nat → Prop} {locs : List Loc} {av : List Value} {wc : va_W} (hK : va_K g.1 vwCl (zTys g) s) (hA : ∀ q, s.heap.size ≤ q → A q) (hE : zE A s s.heap) (hY : zYE A s s.heap) (hP : va_P g.1 vwCl ws H) (hD : va_D A ws) (hS : va_S A s.heap H locs) (isC : List Nat) (hnd : va_nd isC = true) (hC : isC.map (fun i => ws[i]?) = wc.map some) (hC2 : isC.filterMap (fun i => ws[i]?) = wc) (hU : U.heap = H) (hW : s.WarmedH U.vm) : zPreX g av wc H.size av.toArray U := by
  obtain ⟨h1, h2⟩ := z_pre (av := av) hK hA hE hP hD hS isC hnd hC hC2 hU hW
  refine ⟨h1, h2, ?_⟩
  have hF := va_free (wc := wc) hD hS hA isC hC
  have e1 : zYE A s H := hY.kept (fun a h1 h2 => hS.2.1 a h1 h2)
  rw [hU]
  exact (e1.narrow hF).warm hW
variable {index maxL n ci b : Nat} {Cn : String} {T : u_T} {N : Nat} {fs : List Value} {y : MethodName} {bytes : ByteArray} {ret : Option FieldType} {Wd Wd' : List Cond} {rc : Room} {As rest : List Value} {wc wc' wr ws2 : va_W} {xo : Option String}
theorem z_callXi {rv : Int32} {st : List Value} (C : zC X g nL cc own Ts rm) (L : zLX X hh) (d : decode cc pc = .ok (.invokevirtual index, 3)) (hM : zXI (zl X) y Wd rc g (.ref b :: As) wc xo rv wc') (hG : GoodIn Ts (wsV own index Cn y Wd)) (hw : Wd = Cond.code y bytes maxL ret :: Wd') (hrm : rc.cells = 1 ∧ rc.slots = 6) (hd : y.cls = Cn ∧ y.cls ≠ "java/lang/invoke/MethodHandle" ∧ y.cls ≠ "java/lang/invoke/VarHandle" ∧ (parseMethodDescriptor y.desc).map (fun d => d.parameters.length) = some n) (hR : rc.frames + 1 ≤ rm.frames ∧ 8 + (maxL + 11) + rc.locals ≤ rm.locals) (hfit : 1 ≤ rm.cells ∧ 6 ≤ rm.slots) (hc : vwCl[ci]? = some (Cn, T, N)) (he : wc[0]? = some (b, .inr (ci, fs))) (hst : st = As.reverse ++ .ref b :: rest) (hn : As.length = n) (hcat : (rest.map fun v => v.category).sum ≤ 8) (isC isR isP : List Nat) (hC : isC.map (fun i => ws[i]?) = wc.map some) (hRr : isR.map (fun i => ws[i]?) = wr.map some) (hnd : va_nd isC = true ∧ va_nd isR = true ∧ va_nd isP = true) (hdis : ∀ i ∈ isR, i ∉ isC) (hP2 : isP.map (fun i => (wr ++ wc')[i]?) = ws2.map some) (hP0 : isP.map (fun i => (wr ++ wc)[i]?) = ws.map some) (k : xo = none → zV X g nL 1 6 (pc + 3) lv (.int rv :: rest) ws2) (kx : ∀ E : String, xo = some E → zCat X g nL own Ts hh pc lv ws E) : zV X g nL 0 0 pc lv st ws := by
  obtain ⟨p, l, e, R, s, m, args, below, meth, c, A, Q⟩ := X
  obtain ⟨hx, hb, hml, hown, hts, hK, hA, hR9, hE, hlk⟩ := C
  subst hR9
  subst hst
  obtain ⟨hY, hN, htab⟩ := L
  intro H locs ls hP hD hS hl
  have hC2 : isC.filterMap (fun i => ws[i]?) = wc := z_fm hC
  have hFc := va_free (wc := wc) hD hS hA isC hC
  refine vx_calli (vx_runV (As := As) (rest := rest) ⟨hx, hb, hml, hown, hts⟩ (hM H.size) (cwV n hts hG hw hrm.1 hrm.2 hd hR) ⟨zPreX.blind, va_recv hK (hP.sub isC hC2) hc he, fun U hU hW => z_preX hK hA hE hY hP hD hS isC hnd.1 hC hC2 hU hW⟩ rfl hn hl.1 rfl (lv_room hcat) d (by omega)) hS (fun q _ h => hFc q h) hFc (fun q _ h => hFc q h) (fun E ce q9 u t H1 locs ht hvm hw9 hB hz1 hk1 hS hce hcv hcl => ?_) (fun r u t H1 locs ht hvm hw9 hB hz1 hk1 hS => ?_)
  · subst hw9
    obtain ⟨hxo, hP1, hD1⟩ := hB
    rw [ht] at hP1
    obtain ⟨hP, hD⟩ := va_join (wr := wr) hP hD isC isR hC hRr hnd.2.1 hdis hk1 hFc hP1 hD1
    obtain ⟨pre, x, suf, name, t1, t2, t3, t4, t5, t6, t7⟩ := kx E hxo
    refine vx_catch (name := name) hown pre x suf (htab.trans t1) (fun z hz => ?_) t3 t4 (hts _ t5) (va_Nw.use (zBadW_tab _ t6) (hY.2.2.1 _ t6)) hce hcv hcl ?_
    · rcases t2 z hz with h | ⟨h1, nm, h2, h3⟩
      · exact Or.inl h
      · exact Or.inr ⟨h1, nm, hts _ h2, h3⟩
    · have h9 := t7 q9 H1 locs ls (hP.sub isP (z_fm hP0)) (hD.sub isP hnd.2.2 hP0) hS hl
      rw [show 0 + 1 = 1 from rfl, show 0 + 6 = 6 from rfl]
      exact h9
  · obtain ⟨⟨hxo, rfl⟩, rfl⟩ := hw9
    obtain ⟨hP1, hD1⟩ := hB
    rw [ht] at hP1
    obtain ⟨hP, hD⟩ := va_join (wr := wr) hP hD isC isR hC hRr hnd.2.1 hdis hk1 hFc hP1 hD1
    exact k hxo _ _ _ (hP.sub isP (z_fm hP2)) (hD.sub isP hnd.2.2 hP2) hS hl
theorem z_callXv {st : List Value} (C : zC X g nL cc own Ts rm) (L : zLX X hh) (d : decode cc pc = .ok (.invokevirtual index, 3)) (hM : zXV (zl X) y Wd rc g (.ref b :: As) wc xo wc') (hG : GoodIn Ts (wsV own index Cn y Wd)) (hw : Wd = Cond.code y bytes maxL ret :: Wd') (hrm : rc.cells = 1 ∧ rc.slots = 6) (hd : y.cls = Cn ∧ y.cls ≠ "java/lang/invoke/MethodHandle" ∧ y.cls ≠ "java/lang/invoke/VarHandle" ∧ (parseMethodDescriptor y.desc).map (fun d => d.parameters.length) = some n) (hR : rc.frames + 1 ≤ rm.frames ∧ 8 + (maxL + 11) + rc.locals ≤ rm.locals) (hfit : 1 ≤ rm.cells ∧ 6 ≤ rm.slots) (hc : vwCl[ci]? = some (Cn, T, N)) (he : wc[0]? = some (b, .inr (ci, fs))) (hst : st = As.reverse ++ .ref b :: rest) (hn : As.length = n) (hcat : (rest.map fun v => v.category).sum ≤ 8) (isC isR isP : List Nat) (hC : isC.map (fun i => ws[i]?) = wc.map some) (hRr : isR.map (fun i => ws[i]?) = wr.map some) (hnd : va_nd isC = true ∧ va_nd isR = true ∧ va_nd isP = true) (hdis : ∀ i ∈ isR, i ∉ isC) (hP2 : isP.map (fun i => (wr ++ wc')[i]?) = ws2.map some) (hP0 : isP.map (fun i => (wr ++ wc)[i]?) = ws.map some) (k : xo = none → zV X g nL 1 6 (pc + 3) lv rest ws2) (kx : ∀ E : String, xo = some E → zCat X g nL own Ts hh pc lv ws E) : zV X g nL 0 0 pc lv st ws := by
  obtain ⟨p, l, e, R, s, m, args, below, meth, c, A, Q⟩ := X
  obtain ⟨hx, hb, hml, hown, hts, hK, hA, hR9, hE, hlk⟩ := C
  subst hR9
  subst hst
  obtain ⟨hY, hN, htab⟩ := L
  intro H locs ls hP hD hS hl
  have hC2 : isC.filterMap (fun i => ws[i]?) = wc := z_fm hC
  have hFc := va_free (wc := wc) hD hS hA isC hC
  refine vx_callv (vx_runV (As := As) (rest := rest) ⟨hx, hb, hml, hown, hts⟩ (hM H.size) (cwV n hts hG hw hrm.1 hrm.2 hd hR) ⟨zPreX.blind, va_recv hK (hP.sub isC hC2) hc he, fun U hU hW => z_preX hK hA hE hY hP hD hS isC hnd.1 hC hC2 hU hW⟩ rfl hn hl.1 rfl (lv_room hcat) d (by omega)) hS (fun q _ h => hFc q h) hFc (fun q _ h => hFc q h) (fun E ce q9 u t H1 locs ht hvm hw9 hB hz1 hk1 hS hce hcv hcl => ?_) (fun u t H1 locs ht hvm hw9 hB hz1 hk1 hS => ?_)
  · subst hw9
    obtain ⟨hxo, hP1, hD1⟩ := hB
    rw [ht] at hP1
    obtain ⟨hP, hD⟩ := va_join (wr := wr) hP hD isC isR hC hRr hnd.2.1 hdis hk1 hFc hP1 hD1
    obtain ⟨pre, x, suf, name, t1, t2, t3, t4, t5, t6, t7⟩ := kx E hxo
    refine vx_catch (name := name) hown pre x suf (htab.trans t1) (fun z hz => ?_) t3 t4 (hts _ t5) (va_Nw.use (zBadW_tab _ t6) (hY.2.2.1 _ t6)) hce hcv hcl ?_
    · rcases t2 z hz with h | ⟨h1, nm, h2, h3⟩
      · exact Or.inl h
      · exact Or.inr ⟨h1, nm, hts _ h2, h3⟩
    · have h9 := t7 q9 H1 locs ls (hP.sub isP (z_fm hP0)) (hD.sub isP hnd.2.2 hP0) hS hl
      rw [show 0 + 1 = 1 from rfl, show 0 + 6 = 6 from rfl]
      exact h9
  · obtain ⟨hxo, rfl⟩ := hw9
    obtain ⟨hP1, hD1⟩ := hB
    rw [ht] at hP1
    obtain ⟨hP, hD⟩ := va_join (wr := wr) hP hD isC isR hC hRr hnd.2.1 hdis hk1 hFc hP1 hD1
    exact k hxo _ _ _ (hP.sub isP (z_fm hP2)) (hD.sub isP hnd.2.2 hP2) hS hl
end
