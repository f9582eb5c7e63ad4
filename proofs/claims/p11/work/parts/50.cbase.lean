/-! ===== constructors: cells that come ===== -/
def zNest (U : State) : Prop := va_Nw (.methodLinkNest "FragmentLog" 20 yX0_init "FragmentLog") U ∧ va_Nw (.methodLinkNest "FragmentLog$Reader" 11 yX1_init "FragmentLog") U
def zPreC (g : zG) (av : List Value) (ws : va_W) (sz : Nat) : Array Value → State → Prop := va_Pc av (fun U => (U.heap.size = sz ∧ va_P g.1 vwCl ws U.heap ∧ va_K g.1 vwCl (zTys g) U ∧ va_D (fun _ => True) ws ∧ zE (va_A ws sz) U U.heap) ∧ zNest U)
theorem zPreC.blind {g : zG} {av : List Value} {ws : va_W} {sz : Nat} : FrameBlind (zPreC g av ws sz) := fun a U g9 mk q => by
  obtain ⟨q0, ⟨q1, qP, qK, qD, qE⟩, qN⟩ := q
  exact ⟨q0, ⟨q1, qP, va_K.moved (u := U) (U := U.calling g9 mk a) (Vm.Alike.refl U.vm) qK, qD, zE.moved (u := U) (U := U.calling g9 mk a) (Vm.Alike.refl U.vm) qE⟩, va_Nw.same (u := U) (U := U.calling g9 mk a) rfl rfl qN.1, va_Nw.same (u := U) (U := U.calling g9 mk a) rfl rfl qN.2⟩
def zMC (l : Launch) (y : MethodName) (Wd : List Cond) (rm : Room) (g : zG) (av : List Value) (ws : va_W) (Post : va_W → Prop) : Prop :=
  ∀ sz : Nat, Met l y Wd rm (zPreC g av ws sz) (va_Qv Post (zB g (va_A ws sz)) (va_A ws sz)) rm.cells rm.slots (va_A ws sz)
/-- what a body knows besides: the nest's links, and that it is a constructor's -/
def zN (X : zX) : Prop := match X with
  | (p, l, e, R, s, m, args, below, meth, c, A, Q) => zNest s ∧ meth.name = "<init>"
theorem zMC_of {l : Launch} {y : MethodName} {Wd Wd' : List Cond} {rm : Room} {g : zG} {av : List Value} {ws : va_W} {Post : va_W → Prop} {cc : ByteArray} {nL : Nat} (hyn : y.name = "<init>") (hy : plainName y.cls = true) (hw : Wd = Cond.code y cc nL none :: Wd') (hnl : (lg_sl av).length ≤ nL) (body : ∀ X : zX, zC X g nL cc y.cls Wd rm → zN X → (∀ (pc cells slots : Nat) (lv : List (Nat × Value)) (w : va_W), decode cc pc = .ok (.return_, 1) → cells ≤ rm.cells → slots ≤ rm.slots → Post w → zV X g nL cells slots pc lv [] w) → zV X g nL 0 0 0 (lv_args 0 av) [] ws) : zMC l y Wd rm g av ws Post := by
  intro sz
  refine Met.ofW (cc := cc) (maxL := nL) (ret := none) hy hw ?_
  intro p e s m args below meth c s₁ B hml hv
  obtain ⟨rfl, ⟨hsz, hP, hK, hD0, hE⟩, hN⟩ := hv
  subst hsz
  have hS : va_S (va_A ws s.heap.size) s.heap s.heap [] := va_S.rf
  have hl := lv_entry av (n := nL) hnl
  rw [lg_entry_eq]
  refine body (p, l, e, (headSpec Wd rm).room, s, m, av.toArray, below, meth, c, va_A ws s.heap.size, _) ⟨B.exec, B.bytes, hml, findClass_of_methodNamed B.named, atoms_spec (ws := Wd) B.pre, hK, fun q h => Or.inr h, rfl, hE, B.notSynchronized⟩ ⟨hN, (name_of_methodNamed B.named B.method).1.trans hyn⟩ ?_ s.heap [] _ hP (hD0.self (sz := s.heap.size)) hS hl
  intro pc cells slots lv w d h1 h2 hw9 H locs ls hP hD hS hl
  refine W.widen (k := rm.cells) (n := rm.slots) h1 h2 ?_
  exact W.vret B.exec B.bytes B.returns (fun t ht hW => ⟨⟨w, rfl, hw9, by rw [ht]; exact hP, hD⟩, hS.F ht⟩) hS.2.2 d B.notSynchronized
section
variable {X : zX} {g : zG} {nL : Nat} {cc : ByteArray} {own : String} {Ts : List Cond} {rm : Room} {cells slots pc : Nat} {lv : List (Nat × Value)} {st : List Value} {ws : va_W}
theorem z_objInit (C : zC X g nL cc own Ts rm) {idx a : Nat} (d : decode cc pc = .ok (.invokespecial idx, 3)) (h1 : .methodLink own idx Lib.objectInit ∈ Ts) (h2 : .instanceMethod Lib.objectInit ∈ Ts) (h3 : .code Lib.objectInit ⟨#[0xb1]⟩ 1 none ∈ Ts) (hf : 1 ≤ rm.frames) (hlo : (st.map fun v => v.category).sum + 12 ≤ rm.locals) (k : zV X g nL cells slots (pc + 3) lv st ws) : zV X g nL cells slots pc lv (.ref a :: st) ws := by
  obtain ⟨p, l, e, R, s, m, args, below, meth, c, A, Q⟩ := X
  obtain ⟨hx, hb, hml, hown, hts, hK, hA, hR, hE, hlk⟩ := C
  subst hR
  intro H locs ls hP hD hS hl
  refine W.objInit hx hb hown (hts _ h1) (hts _ h2) (hts _ h3) (g := F0 m pc ls (.ref a :: st)) rfl (by rw [hml]; exact hl.1) (a := a) (rest := st) rfl d hf (by show 2 * 0 + _ + 12 ≤ _; omega) ?_
  exact k H locs ls hP hD hS hl
theorem z_new (C : zC X g nL cc own Ts rm) {Cn : String} {T : u_T} {N ci index : Nat} {fs : List Value} (d : decode cc pc = .ok (.new index, 3)) (hin : ∀ w ∈ u_ws Cn T N, w ∈ Ts) (ty0 : Nat → FieldType) (hty : ∀ k, k < N → parseFieldDescriptor (T k).2.2.1 = some (ty0 k)) (h1 : .classLink own index Cn ∈ Ts) (h2 : .instantiable Cn N ∈ Ts) (h3 : .initialized Cn ∈ Ts) (hc : vwCl[ci]? = some (Cn, T, N)) (hfs : ∀ j, j < N → defaultValue (ty0 j) = vp_V fs j) (hcells : cells + 1 ≤ rm.cells) (hslots : slots + N ≤ rm.slots) (kk : ∀ q : Nat, zV X g nL (cells + 1) (slots + N) (pc + 3) lv (.ref q :: st) (ws ++ [(q, .inr (ci, fs))])) : zV X g nL cells slots pc lv st ws := by
  obtain ⟨p, l, e, R, s, m, args, below, meth, c, A, Q⟩ := X
  obtain ⟨hx, hb, hml, hown, hts, hK, hA, hR, hE, hlk⟩ := C
  subst hR
  intro H locs ls hP hD hS hl
  exact va_new hx hb hts hin ty0 hty hown (hts _ h1) (hts _ h2) (hts _ h3) hK hP hD hS hA hc hfs hcells hslots d (fun q H1 hP hD hS => kk q H1 locs ls hP hD hS hl)
theorem z_putF (C : zC X g nL cc own Ts rm) (Nx : zN X) {Cn : String} {T : u_T} {N ci index a : Nat} {fs : List Value} {v : Value} {ty : FieldType} {ws' : va_W} (d : decode cc pc = .ok (.putfield index, 3)) (hin : ∀ w ∈ u_ws Cn T N, w ∈ Ts) (ty0 : Nat → FieldType) (hty : ∀ k, k < N → parseFieldDescriptor (T k).2.2.1 = some (ty0 k)) (hnm : ∀ a, a < N → ∀ b, b < N → a ≠ b → (T a).2.1 ≠ (T b).2.1) (q0 : Nat) (he : ws[q0]? = some (a, .inr (ci, fs))) (hc : vwCl[ci]? = some (Cn, T, N)) (k : Nat) (hk : k < N) (hlink : .fieldLink own index own (T k).2.1 (T k).2.2.1 ∈ Ts) (href : (T k).1 = own) (hfin : (T k).2.2.2 = true) (hd : parseFieldDescriptor (T k).2.2.1 = some ty) (hn : narrow ty v = v) (hfit : fits ty v = true) (hlen : k < fs.length) (hw : ws.set q0 (a, .inr (ci, fs.set k v)) = ws') (kk : zV X g nL cells slots (pc + 3) lv st ws') : zV X g nL cells slots pc lv (v :: .ref a :: st) ws := by
  obtain ⟨p, l, e, R, s, m, args, below, meth, c, A, Q⟩ := X
  obtain ⟨hx, hb, hml, hown, hts, hK, hA, hR, hE, hlk⟩ := C
  subst hR
  subst hw
  intro H locs ls hP hD hS hl
  exact va_putF hx hb hts hin ty0 hty hnm hown hK hP hD hS q0 he hc k hk (hts _ hlink) (fun _ h9 => href ▸ h9) hfin Nx.2 href hd hn hfit hlen d (fun H locs hP hD hS => kk H locs ls hP hD hS hl)
theorem z_arrI {s : State} {cA : ClassId} {D : va_G} {tys : List (ClassId × FieldType)} {ty : FieldType} (hK : va_K g.1 vwCl (zTys g) s) (hK2 : va_K D vwCl (tys ++ [(cA, ty)]) s) (k : Nat) {c0 : ClassId} (h0 : (zTys g)[k]? = some (c0, ty)) (hf : ∀ c : ClassId, va_RA s c ty → s.vm.findClass ("[" ++ ty.toString) = some c) : cA = c0 := by
  have h1 := hf _ (hK.2 k _ h0).2
  have h2 := hf _ (hK2.2 tys.length (cA, ty) (by simp)).2
  exact Option.some.inj (h2.symm.trans h1)
theorem z_newaI (C : zC X g nL cc own Ts rm) {n : Int32} {N : Nat} (d : decode cc pc = .ok (.newarray .int, 2)) (h1 : .arrayClass .int ∈ Ts) (hn : ¬ n < 0) (hN : n.toNatClampNeg = N) (hbytes : N * 4 ≤ 536870912) (hcells : cells + 1 ≤ rm.cells) (hslots : slots + N ≤ rm.slots) (kk : ∀ q : Nat, zV X g nL (cells + 1) (slots + N) (pc + 2) lv (.ref q :: st) (ws ++ [(q, .inl (g.2.2.1, N, .inl (fun _ => 0)))])) : zV X g nL cells slots pc lv (.int n :: st) ws := by
  obtain ⟨p, l, e, R, s, m, args, below, meth, c, A, Q⟩ := X
  obtain ⟨hx, hb, hml, hown, hts, hK, hA, hR, hE, hlk⟩ := C
  subst hR
  intro H locs ls hP hD hS hl
  refine va_newa (atype := .int) hx hb (hts _ h1) (ty := .int) rfl hK hP hD hS hA (a0 := (N, .inl (fun _ => 0))) (fun _ => rfl) hn hN hbytes hcells hslots d (fun q cA H1 hK2 hP hD hS => ?_)
  have ec := z_arrI (g := g) hK hK2 1 (c0 := g.2.2.1) rfl (fun c h => h)
  subst ec
  exact kk q H1 locs ls hP hD hS hl
theorem z_newaB (C : zC X g nL cc own Ts rm) {n : Int32} {N : Nat} (d : decode cc pc = .ok (.newarray .byte, 2)) (h1 : .arrayClass .byte ∈ Ts) (hn : ¬ n < 0) (hN : n.toNatClampNeg = N) (hbytes : N * 1 ≤ 536870912) (hcells : cells + 1 ≤ rm.cells) (hslots : slots + N ≤ rm.slots) (kk : ∀ q : Nat, zV X g nL (cells + 1) (slots + N) (pc + 2) lv (.ref q :: st) (ws ++ [(q, .inl (g.2.1, N, .inl (fun _ => 0)))])) : zV X g nL cells slots pc lv (.int n :: st) ws := by
  obtain ⟨p, l, e, R, s, m, args, below, meth, c, A, Q⟩ := X
  obtain ⟨hx, hb, hml, hown, hts, hK, hA, hR, hE, hlk⟩ := C
  subst hR
  intro H locs ls hP hD hS hl
  refine va_newa (atype := .byte) hx hb (hts _ h1) (ty := .byte) rfl hK hP hD hS hA (a0 := (N, .inl (fun _ => 0))) (fun _ => rfl) hn hN hbytes hcells hslots d (fun q cA H1 hK2 hP hD hS => ?_)
  have ec := z_arrI (g := g) hK hK2 0 (c0 := g.2.1) rfl (fun c h => h)
  subst ec
  exact kk q H1 locs ls hP hD hS hl
theorem z_newaJ (C : zC X g nL cc own Ts rm) {n : Int32} {N : Nat} (d : decode cc pc = .ok (.newarray .long, 2)) (h1 : .arrayClass .long ∈ Ts) (hn : ¬ n < 0) (hN : n.toNatClampNeg = N) (hbytes : N * 8 ≤ 536870912) (hcells : cells + 1 ≤ rm.cells) (hslots : slots + N ≤ rm.slots) (kk : ∀ q : Nat, zV X g nL (cells + 1) (slots + N) (pc + 2) lv (.ref q :: st) (ws ++ [(q, .inl (g.2.2.2, N, .inr (.inl (fun _ => 0))))])) : zV X g nL cells slots pc lv (.int n :: st) ws := by
  obtain ⟨p, l, e, R, s, m, args, below, meth, c, A, Q⟩ := X
  obtain ⟨hx, hb, hml, hown, hts, hK, hA, hR, hE, hlk⟩ := C
  subst hR
  intro H locs ls hP hD hS hl
  refine va_newa (atype := .long) hx hb (hts _ h1) (ty := .long) rfl hK hP hD hS hA (a0 := (N, .inr (.inl (fun _ => 0)))) (fun _ => rfl) hn hN hbytes hcells hslots d (fun q cA H1 hK2 hP hD hS => ?_)
  have ec := z_arrI (g := g) hK hK2 2 (c0 := g.2.2.2) rfl (fun c h => h)
  subst ec
  exact kk q H1 locs ls hP hD hS hl
end
section
variable {X : zX} {g : zG} {nL : Nat} {cc : ByteArray} {own : String} {Ts : List Cond} {rm : Room} {cells slots pc : Nat} {lv : List (Nat × Value)} {ws : va_W} {index maxL n b : Nat} {y : MethodName} {bytes : ByteArray} {Wd Wd' : List Cond} {rc : Room} {As rest : List Value} {wc wr : va_W} {Post : va_W → Prop}
theorem z_preC {s U : State} {H : Heap} {A : Nat → Prop} {locs : List Loc} {av : List Value} (hK : va_K g.1 vwCl (zTys g) s) (hA : ∀ q, s.heap.size ≤ q → A q) (hE : zE A s s.heap) (hN : zNest s) (hP : va_P g.1 vwCl ws H) (hD : va_D A ws) (hS : va_S A s.heap H locs) (isC : List Nat) (hnd : va_nd isC = true) (hC : isC.map (fun i => ws[i]?) = wc.map some) (hC2 : isC.filterMap (fun i => ws[i]?) = wc) (hU : U.heap = H) (hW : s.WarmedH U.vm) : zPreC g av wc H.size av.toArray U := by
  obtain ⟨h1, h2⟩ := z_pre (av := av) hK hA hE hP hD hS isC hnd hC hC2 hU hW
  exact ⟨h1, h2, va_Nw.warmM hW hN.1, va_Nw.warmM hW hN.2⟩
theorem z_callC {st : List Value} (C : zC X g nL cc own Ts rm) (Nx : zN X) (d : decode cc pc = .ok (.invokespecial index, 3)) (hM : zMC (zl X) y Wd rc g (.ref b :: As) wc Post) (hG : GoodIn Ts Wd) (hw : Wd = Cond.code y bytes maxL none :: Wd') (h1 : .initialized y.cls ∈ Ts) (h2 : .methodLink own index y ∈ Ts) (h3 : .instanceMethod y ∈ Ts) (hyn : y.name = "<init>") (hd : y.cls ≠ "java/lang/invoke/MethodHandle" ∧ y.cls ≠ "java/lang/invoke/VarHandle" ∧ (parseMethodDescriptor y.desc).map (fun d => d.parameters.length) = some n) (hR : rc.frames + 1 ≤ rm.frames ∧ 8 + (maxL + 11) + rc.locals ≤ rm.locals) (hfit : cells + rc.cells ≤ rm.cells ∧ slots + rc.slots ≤ rm.slots) (hst : st = As.reverse ++ .ref b :: rest) (hn : As.length = n) (hcat : (rest.map fun v => v.category).sum ≤ 8) (isC isR : List Nat) (hC : isC.map (fun i => ws[i]?) = wc.map some) (hRr : isR.map (fun i => ws[i]?) = wr.map some) (hnd : va_nd isC = true ∧ va_nd isR = true) (hdis : ∀ i ∈ isR, i ∉ isC) (k : ∀ u : va_W, Post u → zV X g nL (cells + rc.cells) (slots + rc.slots) (pc + 3) lv rest (wr ++ u)) : zV X g nL cells slots pc lv st ws := by
  obtain ⟨p, l, e, R, s, m, args, below, meth, c, A, Q⟩ := X
  obtain ⟨hx, hb, hml, hown, hts, hK, hA, hR9, hE, hlk⟩ := C
  subst hR9
  subst hst
  intro H locs ls hP hD hS hl
  have hC2 : isC.filterMap (fun i => ws[i]?) = wc := z_fm hC
  have hFc := va_free (wc := wc) hD hS hA isC hC
  refine va_callv (va_runI (As := As) (rest := rest) ⟨hx, hb, hml, hown, hts⟩ (hM H.size) (cwI n hts hG hw rfl rfl (hts _ h1) (hts _ h2) (hts _ h3) hyn hd hR) ⟨zPreC.blind, fun U hU hW => z_preC hK hA hE Nx.1 hP hD hS isC hnd.1 hC hC2 hU hW⟩ rfl hn hl.1 rfl (lv_room hcat) d hfit) hS (fun q _ h => hFc q h) hFc (fun u t H1 locs ht hvm hw9 hB hz1 hk1 hS => ?_)
  obtain ⟨hP1, hD1⟩ := hB
  rw [ht] at hP1
  obtain ⟨hP, hD⟩ := va_join (wr := wr) hP hD isC isR hC hRr hnd.2 hdis hk1 hFc hP1 hD1
  exact k u hw9 _ _ _ hP hD hS hl
theorem z_callCN {st : List Value} {host : String} (C : zC X g nL cc own Ts rm) (Nx : zN X) (d : decode cc pc = .ok (.invokespecial index, 3)) (hM : zMC (zl X) y Wd rc g (.ref b :: As) wc Post) (hG : GoodIn Ts Wd) (hw : Wd = Cond.code y bytes maxL none :: Wd') (h1 : .initialized y.cls ∈ Ts) (h2 : ∀ U : State, zNest U → va_Nw (.methodLinkNest own index y host) U) (h3 : .instanceMethod y ∈ Ts) (hyn : y.name = "<init>") (hd : y.cls ≠ "java/lang/invoke/MethodHandle" ∧ y.cls ≠ "java/lang/invoke/VarHandle" ∧ (parseMethodDescriptor y.desc).map (fun d => d.parameters.length) = some n) (hR : rc.frames + 1 ≤ rm.frames ∧ 8 + (maxL + 11) + rc.locals ≤ rm.locals) (hfit : cells + rc.cells ≤ rm.cells ∧ slots + rc.slots ≤ rm.slots) (hst : st = As.reverse ++ .ref b :: rest) (hn : As.length = n) (hcat : (rest.map fun v => v.category).sum ≤ 8) (isC isR : List Nat) (hC : isC.map (fun i => ws[i]?) = wc.map some) (hRr : isR.map (fun i => ws[i]?) = wr.map some) (hnd : va_nd isC = true ∧ va_nd isR = true) (hdis : ∀ i ∈ isR, i ∉ isC) (k : ∀ u : va_W, Post u → zV X g nL (cells + rc.cells) (slots + rc.slots) (pc + 3) lv rest (wr ++ u)) : zV X g nL cells slots pc lv st ws := by
  obtain ⟨p, l, e, R, s, m, args, below, meth, c, A, Q⟩ := X
  obtain ⟨hx, hb, hml, hown, hts, hK, hA, hR9, hE, hlk⟩ := C
  subst hR9
  subst hst
  intro H locs ls hP hD hS hl
  have hC2 : isC.filterMap (fun i => ws[i]?) = wc := z_fm hC
  have hFc := va_free (wc := wc) hD hS hA isC hC
  refine va_callv (va_runIN (As := As) (rest := rest) ⟨hx, hb, hml, hown, hts⟩ (hM H.size) ⟨va_cnB n hts hG hw rfl rfl (h2 _ Nx.1) (hts _ h1) hd hR, hyn, hts _ h3⟩ ⟨zPreC.blind, fun U hU hW => z_preC hK hA hE Nx.1 hP hD hS isC hnd.1 hC hC2 hU hW⟩ rfl hn hl.1 rfl (lv_room hcat) d hfit) hS (fun q _ h => hFc q h) hFc (fun u t H1 locs ht hvm hw9 hB hz1 hk1 hS => ?_)
  obtain ⟨hP1, hD1⟩ := hB
  rw [ht] at hP1
  obtain ⟨hP, hD⟩ := va_join (wr := wr) hP hD isC isR hC hRr hnd.2 hdis hk1 hFc hP1 hD1
  exact k u hw9 _ _ _ hP hD hS hl
end
