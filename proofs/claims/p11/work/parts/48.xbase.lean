/-! ===== methods that may throw: what is given for a throw, their contracts ===== -/
abbrev zIAE : String := "java/lang/IllegalArgumentException"
abbrev zISE : String := "java/lang/IllegalStateException"
abbrev zIOE : String := "java/lang/IndexOutOfBoundsException"
abbrev zNms : List String := ["java/lang/RuntimeException", "java/lang/Exception"]
def zBadW : List Cond := [.declares (Bundle.initS "java/lang/RuntimeException"), .declares (Bundle.initS "java/lang/Exception"), .declares (Bundle.initS Bundle.tN), .castable zIAE zIAE, .castable zISE zISE, .castable zIOE zIOE]
def zStrs : List (Nat × String) := [(36, "a size is 16 .. 512"), (47, "many is 0 .. 16"), (55, "the buffer has at most 400 bytes"), (81, "a kind is 0 .. 255"), (106, "the log has no such byte"), (109, "a byte is 0 .. 255"), (118, "the log has not so many bytes"), (120, "a place is 0 .. 4096"), (148, "what is 0 .. 5"), (150, "what is 0 or 1")]
def zYV (U : State) : Prop := (∀ w ∈ zBadW, va_Nw w U) ∧ (∀ q ∈ zStrs, ∃ sa : Nat, vk_R "FragmentLog" q.1 q.2 sa U)
theorem zBadW_tab : ∀ w ∈ zBadW, w.onTables = true := by decide +kernel
theorem zYV.same {u U : State} (h : u.vm = U.vm) (hy : zYV u) : zYV U := ⟨fun w hw => va_Nw.same (zBadW_tab w hw) h (hy.1 w hw), fun q hq => by
  obtain ⟨sa, h1⟩ := hy.2 q hq
  exact ⟨sa, vk_R.same h.symm h1⟩⟩
theorem zYV.warm {s U : State} (hW : s.WarmedH U.vm) (hy : zYV s) : zYV U := by
  refine ⟨?_, fun q hq => ?_⟩
  · have h0 := hy.1 _ (List.mem_of_getElem? (i := 0) rfl)
    have h1 := hy.1 _ (List.mem_of_getElem? (i := 1) rfl)
    have h2 := hy.1 _ (List.mem_of_getElem? (i := 2) rfl)
    have h3 := hy.1 _ (List.mem_of_getElem? (i := 3) rfl)
    have h4 := hy.1 _ (List.mem_of_getElem? (i := 4) rfl)
    have h5 := hy.1 _ (List.mem_of_getElem? (i := 5) rfl)
    show ∀ w ∈ [_, _, _, _, _, _], va_Nw w U
    exact List.forall_mem_cons.mpr ⟨va_Nw.warmD hW h0, List.forall_mem_cons.mpr ⟨va_Nw.warmD hW h1, List.forall_mem_cons.mpr ⟨va_Nw.warmD hW h2, List.forall_mem_cons.mpr ⟨va_Nw.warmC hW h3, List.forall_mem_cons.mpr ⟨va_Nw.warmC hW h4, List.forall_mem_cons.mpr ⟨va_Nw.warmC hW h5, fun _ h => absurd h List.not_mem_nil⟩⟩⟩⟩⟩⟩
  · obtain ⟨sa, h1⟩ := hy.2 q hq
    exact ⟨sa, vk_R.warm hW h1⟩
def zYE (A : Nat → Prop) (U : State) (H : Heap) : Prop := vx_Zq Bundle.tN "UNASSIGNED_STACK" Bundle.steD A U H ∧ vx_Zq Bundle.tN "SUPPRESSED_SENTINEL" Bundle.listD A U H ∧ zYV U
theorem zYE.kept {A : Nat → Prop} {U : State} {H H1 : Heap} (h : zYE A U H) (hq : ∀ a : Nat, a < H.size → ¬ A a → H1[a]? = H[a]?) : zYE A U H1 := ⟨h.1.kept hq, h.2.1.kept hq, h.2.2⟩
theorem zYE.narrow {A B : Nat → Prop} {U : State} {H : Heap} (h : zYE A U H) (hAB : ∀ q, B q → A q) : zYE B U H := ⟨h.1.narrow hAB, h.2.1.narrow hAB, h.2.2⟩
theorem zYE.warm {A : Nat → Prop} {s U : State} {H : Heap} (hW : s.WarmedH U.vm) (h : zYE A s H) : zYE A U H := ⟨h.1.moved hW.alike, h.2.1.moved hW.alike, h.2.2.warm hW⟩
theorem zYE.same {A : Nat → Prop} {u U : State} {H : Heap} (hv : u.vm = U.vm) (h : zYE A u H) : zYE A U H := ⟨h.1.moved (hv ▸ Vm.Alike.refl u.vm), h.2.1.moved (hv ▸ Vm.Alike.refl u.vm), h.2.2.same hv⟩
def zPreX (g : zG) (av : List Value) (ws : va_W) (sz : Nat) : Array Value → State → Prop := va_Pc av (fun U => (U.heap.size = sz ∧ va_P g.1 vwCl ws U.heap ∧ va_K g.1 vwCl (zTys g) U ∧ va_D (fun _ => True) ws ∧ zE (va_A ws sz) U U.heap) ∧ zYE (va_A ws sz) U U.heap)
theorem zPreX.blind {g : zG} {av : List Value} {ws : va_W} {sz : Nat} : FrameBlind (zPreX g av ws sz) := fun a U g9 mk q => by
  obtain ⟨q0, ⟨q1, qP, qK, qD, qE⟩, qY⟩ := q
  exact ⟨q0, ⟨q1, qP, va_K.moved (u := U) (U := U.calling g9 mk a) (Vm.Alike.refl U.vm) qK, qD, zE.moved (u := U) (U := U.calling g9 mk a) (Vm.Alike.refl U.vm) qE⟩, zYE.same (u := U) (U := U.calling g9 mk a) rfl qY⟩
abbrev zXX (g : zG) (ws : va_W) (xo : Option String) (sz : Nat) : String → State → State → Prop := vx_X (fun u : va_W => u = ws) (fun E u t => xo = some E ∧ zB g (va_A ws sz) u t) (va_A ws sz)
def zXI (l : Launch) (y : MethodName) (Wd : List Cond) (rm : Room) (g : zG) (av : List Value) (ws : va_W) (xo : Option String) (rv : Int32) (ws' : va_W) : Prop :=
  ∀ sz : Nat, vx_Met l y Wd rm (zPreX g av ws sz) (va_Qi (fun r (u : va_W) => (xo = none ∧ r = rv) ∧ u = ws') (zB g (va_A ws sz)) (va_A ws sz)) (zXX g ws xo sz) 1 6 (va_A ws sz)
def zXV (l : Launch) (y : MethodName) (Wd : List Cond) (rm : Room) (g : zG) (av : List Value) (ws : va_W) (xo : Option String) (ws' : va_W) : Prop :=
  ∀ sz : Nat, vx_Met l y Wd rm (zPreX g av ws sz) (va_Qv (fun (u : va_W) => xo = none ∧ u = ws') (zB g (va_A ws sz)) (va_A ws sz)) (zXX g ws xo sz) 1 6 (va_A ws sz)
/-- a throw of E with its text, at pc, in a body whose cells are as they were -/
def zThr (X : zX) (g : zG) (nL : Nat) (cc : ByteArray) (own : String) (Wd : List Cond) (ws : va_W) (xo : Option String) : Prop :=
  ∀ (pc : Nat) (lv : List (Nat × Value)) (ik is ic : Nat) (E text : String), decode cc pc = .ok (.new ik, 3) → decode cc (pc + 3) = .ok (.dup, 1) → decode cc (pc + 4) = .ok (.ldc is, 2) → decode cc (pc + 6) = .ok (.invokespecial ic, 3) → decode cc (pc + 9) = .ok (.athrow, 1) →
    Cond.classLink own ik E ∈ Wd → Cond.initialized E ∈ Wd → (∀ w ∈ (vx_atS own ic E zNms).filter goodWord, w ∈ Wd) → (∀ w ∈ (vx_atS own ic E zNms).filter (fun w => !goodWord w), w ∈ zBadW) →
    (∀ w ∈ Cond.classLink own ik E :: Cond.initialized E :: vx_atS own ic E zNms, vx_ot w = true) → (is, text) ∈ zStrs → Bundle.fit E = true → xo = some E → zV X g nL 0 0 pc lv [] ws
theorem zthr_of {p : Program} {l : Launch} {e : Env} {s : State} {m : MethodId} {args : Array Value} {below : List Frame} {meth : Method} {c : Code} {g : zG} {nL : Nat} {cc : ByteArray} {Wd : List Cond} {rm : Room} {ws : va_W} {xo : Option String} {Qc : Array Value → State → Outcome → State → Prop} (hl : l.stackTraces = false)
    (hx : p.tables.exec = Jvm.exec) (hb : c.code = cc) (hml : c.maxLocals = nL) (hown : s.vm.findClass "FragmentLog" = some m.cls) (hts : ∀ w ∈ Wd, w.before args s = true) (hY : zYE (va_A ws s.heap.size) s s.heap) (htab : ∀ x ∈ c.exceptionTable.toList, False) (hlk : meth.locks = false)
    (hr : 5 < rm.frames ∧ 82 ≤ rm.locals ∧ 1 ≤ rm.cells ∧ 6 ≤ rm.slots) :
    zThr (p, l, e, rm, s, m, args, below, meth, c, va_A ws s.heap.size, vx_MQ below Qc (zXX g ws xo s.heap.size) args s 1 6 (va_A ws s.heap.size)) g nL cc "FragmentLog" Wd ws xo := by
  intro pc lv ik is ic E text d0 d3 d4 d6 d9 h1 h2 h3 h4 h5 h6 hfit hxo H locs ls hP hD hS hl9
  obtain ⟨sa, hsa⟩ := hY.2.2.2 _ h6
  refine vx_throwS (names := zNms) (rest := []) hx hb hl hown hfit (by decide +kernel) (hts _ h1) (hts _ h2) hsa (vx_hat (fun w hw => hts w (h3 w hw)) h4 (fun w hw => va_Nw.use (zBadW_tab w hw) (hY.2.2.1 w hw))) h5 hY.1 hY.2.1 hS (by rw [hl9.1, hml]) d0 d3 d4 d6 d9 (fun x h => absurd (htab x h) id) hr.1 (by show 0 + 82 ≤ _; have := hr.2.1; omega) hr.2.2.1 hr.2.2.2 hlk ?_ hS.2.2 (Nat.le_refl 1) (Nat.le_refl 6)
  intro t ha hz hk
  refine ⟨ws, rfl, ⟨hxo, fun k q hq => (hP k q hq).kept (hk _ (hP k q hq).lt), hD⟩, Nat.le_trans hS.1 hz, fun q h1 h2 => ?_⟩
  rw [hk q (Nat.lt_of_lt_of_le h1 hS.1)]
  exact hS.2.1 q h1 h2
theorem zXI_of {l : Launch} {y : MethodName} {Wd Wd' : List Cond} {rm : Room} {g : zG} {av : List Value} {ws ws' : va_W} {xo : Option String} {rv : Int32} {cc : ByteArray} {nL : Nat} {ty : FieldType} (hl : l.stackTraces = false) (hyc : y.cls = "FragmentLog") (hy : plainName y.cls = true) (hw : Wd = Cond.code y cc nL (some ty) :: Wd') (hnl : (lg_sl av).length ≤ nL) (hn : narrow ty (.int rv) = .int rv) (hr : 5 < rm.frames ∧ 82 ≤ rm.locals ∧ 1 ≤ rm.cells ∧ 6 ≤ rm.slots) (body : ∀ X : zX, zC X g nL cc "FragmentLog" Wd rm → (∀ (pc : Nat) (lv : List (Nat × Value)) (v : Int32) (w : va_W), decode cc pc = .ok (.ireturn, 1) → xo = none → v = rv → w = ws' → zV X g nL 0 0 pc lv [.int v] w) → zThr X g nL cc "FragmentLog" Wd ws xo → zV X g nL 0 0 0 (lv_args 0 av) [] ws) : zXI l y Wd rm g av ws xo rv ws' := by
  intro sz
  refine vx_ofW (cc := cc) (maxL := nL) (ret := some ty) hy hw ?_
  intro p e s m args below meth c s₁ B hml htab hv
  obtain ⟨rfl, ⟨hsz, hP, hK, hD0, hE⟩, hY⟩ := hv
  subst hsz
  have hS : va_S (va_A ws s.heap.size) s.heap s.heap [] := va_S.rf
  have hl9 := lv_entry av (n := nL) hnl
  have hown : s.vm.findClass "FragmentLog" = some m.cls := hyc ▸ findClass_of_methodNamed B.named
  rw [lg_entry_eq]
  refine body (p, l, e, (headSpec Wd rm).room, s, m, av.toArray, below, meth, c, va_A ws s.heap.size, _) ⟨B.exec, B.bytes, hml, hown, atoms_spec (ws := Wd) B.pre, hK, fun q h => Or.inr h, rfl, hE, B.notSynchronized⟩ ?_ (zthr_of hl B.exec B.bytes hml hown (atoms_spec (ws := Wd) B.pre) hY htab B.notSynchronized hr) s.heap [] _ hP (hD0.self (sz := s.heap.size)) hS hl9
  intro pc lv v w d hxo hv hw9 H locs ls hP hD hS hl
  subst hv; subst hw9
  refine vx_ret ?_
  refine W.widen (k := 1) (n := 6) (Nat.zero_le _) (Nat.zero_le _) ?_
  exact W.zret B.exec B.bytes B.returns hn (fun t ht hW => ⟨⟨v, w, rfl, ⟨⟨hxo, rfl⟩, rfl⟩, by rw [ht]; exact hP, hD⟩, hS.F ht⟩) hS.2.2 d B.notSynchronized
theorem zXV_of {l : Launch} {y : MethodName} {Wd Wd' : List Cond} {rm : Room} {g : zG} {av : List Value} {ws ws' : va_W} {xo : Option String} {cc : ByteArray} {nL : Nat} (hl : l.stackTraces = false) (hyc : y.cls = "FragmentLog") (hy : plainName y.cls = true) (hw : Wd = Cond.code y cc nL none :: Wd') (hnl : (lg_sl av).length ≤ nL) (hr : 5 < rm.frames ∧ 82 ≤ rm.locals ∧ 1 ≤ rm.cells ∧ 6 ≤ rm.slots) (body : ∀ X : zX, zC X g nL cc "FragmentLog" Wd rm → (∀ (pc : Nat) (lv : List (Nat × Value)) (w : va_W), decode cc pc = .ok (.return_, 1) → xo = none → w = ws' → zV X g nL 0 0 pc lv [] w) → zThr X g nL cc "FragmentLog" Wd ws xo → zV X g nL 0 0 0 (lv_args 0 av) [] ws) : zXV l y Wd rm g av ws xo ws' := by
  intro sz
  refine vx_ofW (cc := cc) (maxL := nL) (ret := none) hy hw ?_
  intro p e s m args below meth c s₁ B hml htab hv
  obtain ⟨rfl, ⟨hsz, hP, hK, hD0, hE⟩, hY⟩ := hv
  subst hsz
  have hS : va_S (va_A ws s.heap.size) s.heap s.heap [] := va_S.rf
  have hl9 := lv_entry av (n := nL) hnl
  have hown : s.vm.findClass "FragmentLog" = some m.cls := hyc ▸ findClass_of_methodNamed B.named
  rw [lg_entry_eq]
  refine body (p, l, e, (headSpec Wd rm).room, s, m, av.toArray, below, meth, c, va_A ws s.heap.size, _) ⟨B.exec, B.bytes, hml, hown, atoms_spec (ws := Wd) B.pre, hK, fun q h => Or.inr h, rfl, hE, B.notSynchronized⟩ ?_ (zthr_of hl B.exec B.bytes hml hown (atoms_spec (ws := Wd) B.pre) hY htab B.notSynchronized hr) s.heap [] _ hP (hD0.self (sz := s.heap.size)) hS hl9
  intro pc lv w d hxo hw9 H locs ls hP hD hS hl
  subst hw9
  refine vx_ret ?_
  refine W.widen (k := 1) (n := 6) (Nat.zero_le _) (Nat.zero_le _) ?_
  exact W.vret B.exec B.bytes B.returns (fun t ht hW => ⟨⟨w, rfl, ⟨hxo, rfl⟩, by rw [ht]; exact hP, hD⟩, hS.F ht⟩) hS.2.2 d B.notSynchronized
theorem zat38 : ∀ w ∈ (vx_atS "FragmentLog" 38 zIAE zNms).filter (fun w => !goodWord w), w ∈ zBadW := by decide +kernel
theorem zat57 : ∀ w ∈ (vx_atS "FragmentLog" 57 zISE zNms).filter (fun w => !goodWord w), w ∈ zBadW := by decide +kernel
theorem zat108 : ∀ w ∈ (vx_atS "FragmentLog" 108 zIOE zNms).filter (fun w => !goodWord w), w ∈ zBadW := by decide +kernel
theorem zot38 : ∀ w ∈ vx_atS "FragmentLog" 38 zIAE zNms, vx_ot w = true := by decide +kernel
theorem zot57 : ∀ w ∈ vx_atS "FragmentLog" 57 zISE zNms, vx_ot w = true := by decide +kernel
theorem zot108 : ∀ w ∈ vx_atS "FragmentLog" 108 zIOE zNms, vx_ot w = true := by decide +kernel
theorem zot_c {own E : String} {ik : Nat} {L : List Cond} (h : ∀ w ∈ L, vx_ot w = true) : ∀ w ∈ Cond.classLink own ik E :: Cond.initialized E :: L, vx_ot w = true := List.forall_mem_cons.mpr ⟨rfl, List.forall_mem_cons.mpr ⟨rfl, h⟩⟩
theorem zsz_of2 {v : Int32} (h1 : ¬ v < 16) (h2 : v ≤ 512) : zsz v := by
  simp only [Int32.lt_iff_toInt_lt, Int32.le_iff_toInt_le] at h1 h2
  have o : (16 : Int32).toInt = 16 := rfl
  exact ⟨by omega, h2⟩
theorem zsz_new {m v z1 m1 : Int32} (h : f_X0_startAnew m v = (z1, m1)) (hv : zsz v) : zsz z1 := by
  unfold f_X0_startAnew at h
  cases h
  exact hv
