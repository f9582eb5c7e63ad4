section
variable {p : Program} {l : Launch} {e : Env} {R : Room} {s : State} {m : MethodId} {args : Array Value} {below : List Frame} {meth : Method} {c : Code} {H : Heap} {locs : List Loc} {cells slots : Nat} {Q : State → Prop}
variable {pc : Nat} {ls : Array Slot} {rest : List Value} {f : JFrame} {q : Addr} {ce : Cell}
/-- a row whose class links at the start links later too, and to a class that stands there -/
theorem zt_warm {S : State} {ix : Nat} {cx : ClassId} (hW : s.WarmedH S.vm) (hl : s.vm.ClassLinks e.platform f.method.cls ix cx) :
    S.vm.ClassLinks e.platform f.method.cls ix cx ∧ (∃ k, S.vm.classes[cx]? = some k) ∧ s.WarmedH (S.vm.noted f.method.cls ix (.cls cx)) := by
  obtain ⟨_, _, _, u, h1, _, _, _, _, h2, _, h3⟩ := hl.here
  obtain ⟨w, hw, -⟩ := hW.alike.2.2 _ _ h2
  exact ⟨hW.classLinks hl, ⟨w, hw⟩, hW.noted h1 h3 (State.rightAt_cls hl)⟩
/-- one row that covers: the search asks whether it takes the object -/
theorem zt_one {x : ExceptionTableEntry} {t : List ExceptionTableEntry} {S : State} {cx : ClassId} {Qh : Handler → Pre} {E : CtlPost} {d : Bool} {acts : List Action}
    (hx : covers x f.pc = true) (h0 : x.catchType ≠ 0) (hl : S.vm.ClassLinks e.platform f.method.cls x.catchType cx) (hq : S.heap[q]? = some ce) (hv : ∀ k, ce.vm ≠ .statics k)
    (hk : ∃ k, S.vm.classes[ce.cls]? = some k) (hc : ∃ k, S.vm.classes[cx]? = some k) :
    wp (findHandler.go f q (x :: t)) Qh E e d acts S ↔
      if S.vm.assignable ce.cls cx = true then Qh (.found x.handlerPc) d acts (S.setVm (S.vm.noted f.method.cls x.catchType (.cls cx)))
      else wp (findHandler.go f q t) Qh E e d acts (S.setVm (S.vm.noted f.method.cls x.catchType (.cls cx))) := by
  have h1 : S.vm.Alike (S.vm.noted f.method.cls x.catchType (.cls cx)) := (Vm.Alike.refl S.vm).noted _ _ _
  have h2 := h1.assignable ce.cls cx
  obtain ⟨u1, hu1⟩ := hk
  obtain ⟨u2, hu2⟩ := hc
  obtain ⟨w1, hw1, -⟩ := h1.2.2 _ _ hu1
  obtain ⟨w2, hw2, -⟩ := h1.2.2 _ _ hu2
  obtain ⟨g1, g2⟩ := (resolveClass_links e.toSetting hl).op (op := VmOp.resolveClass f.method.cls x.catchType) rfl
  simp only [covers] at hx
  cases ha : S.vm.assignable ce.cls cx <;> rw [ha] at h2 <;> simp [findHandler.go, hx, h0, g1, g2, hq, hv, hw1, hw2, h2, VmOp.dirties, VmOp.acts]
/-- the search: the rows ahead don't take it, the row x does -/
theorem zt_go (hv : ∀ k, ce.vm ≠ .statics k) (hk : ∃ k, s.vm.classes[ce.cls]? = some k) {x : ExceptionTableEntry} {suf : List ExceptionTableEntry} {cx : ClassId} (hx : covers x f.pc = true) (h0 : x.catchType ≠ 0)
    (hl : s.vm.ClassLinks e.platform f.method.cls x.catchType cx) (ha : s.vm.assignable ce.cls cx = true) (pre : List ExceptionTableEntry) :
    ∀ S : State, s.WarmedH S.vm → S.heap[q]? = some ce →
      (∀ z ∈ pre, covers z f.pc = false ∨ (z.catchType ≠ 0 ∧ ∃ cz, s.vm.ClassLinks e.platform f.method.cls z.catchType cz ∧ s.vm.assignable ce.cls cz = false)) →
      ∃ vm', s.WarmedH vm' ∧ ∀ (Qh : Handler → Pre) (E : CtlPost) (d : Bool) (acts : List Action), wp (findHandler.go f q (pre ++ x :: suf)) Qh E e d acts S ↔ Qh (.found x.handlerPc) d acts (S.setVm vm') := by
  obtain ⟨k, hk⟩ := hk
  induction pre with
  | nil =>
    intro S hW hq _
    obtain ⟨k', hk', -⟩ := hW.alike.2.2 _ _ hk
    obtain ⟨h1, h2, h3⟩ := zt_warm hW hl
    refine ⟨_, h3, fun Qh E d acts => ?_⟩
    rw [List.nil_append, zt_one hx h0 h1 hq hv ⟨k', hk'⟩ h2, if_pos (by rw [hW.alike.assignable]; exact ha)]
  | cons z zs ih =>
    intro S hW hq hp
    obtain ⟨k', hk', -⟩ := hW.alike.2.2 _ _ hk
    have hp' := fun y hy => hp y (List.mem_cons_of_mem z hy)
    by_cases hz : covers z f.pc = true
    · rcases hp z (List.mem_cons_self ..) with h | ⟨hz0, cz, hlz, hno⟩
      · rw [hz] at h; cases h
      · obtain ⟨h1, h2, h3⟩ := zt_warm hW hlz
        obtain ⟨vm', hW', h4⟩ := ih (S.setVm (S.vm.noted f.method.cls z.catchType (.cls cz))) h3 hq hp'
        refine ⟨vm', hW', fun Qh E d acts => ?_⟩
        rw [List.cons_append, zt_one hz hz0 h1 hq hv ⟨k', hk'⟩ h2, if_neg (by rw [hW.alike.assignable, hno]; simp)]
        exact h4 Qh E d acts
    · obtain ⟨vm', hW', h4⟩ := ih S hW hq hp'
      refine ⟨vm', hW', fun Qh E d acts => ?_⟩
      rw [List.cons_append, Jvm.W.findHandler_go_skip (by simpa using hz)]
      exact h4 Qh E d acts
theorem zt_fr (T : State) (vm' : Vm) (a b : List Frame) : ((T.setFrames a).setVm vm').setFrames b = (T.setVm vm').setFrames b := by
  have h : (T.setFrames a).setVm vm' = (T.setVm vm').setFrames a := rfl
  rw [h, State.setFrames_setFrames]
/-- caught by the row x of this method's table; the rows ahead don't take it -/
theorem vx_catch {own name : String} {E : String} (hown : s.vm.findClass own = some m.cls) (pre : List ExceptionTableEntry) (x : ExceptionTableEntry) (suf : List ExceptionTableEntry) (hsplit : c.exceptionTable.toList = pre ++ x :: suf)
    (hpass : ∀ z ∈ pre, covers z pc = false ∨ (z.catchType ≠ 0 ∧ ∃ nm : String, (Cond.classLink own z.catchType nm).before args s = true ∧ va_Nc E nm s)) (hx : covers x pc = true) (h0 : x.catchType ≠ 0)
    (hlink : (Cond.classLink own x.catchType name).before args s = true) (hcast : (Cond.castable E name).before args s = true) (hcell : H[q]? = some ce) (hv : ce.vm = .none) (hcl : s.vm.findClass E = some ce.cls)
    (kk : W p l e R s m args below meth c H locs cells slots Q (F0 m x.handlerPc ls [.ref q])) : vx_W p l e R s m args below meth c H locs cells slots Q (F0 m pc ls rest) q := by
  intro T hT X
  have hpl : e.platform.magicAccessors = ({} : Platform).magicAccessors := by rw [X.admits.platform]
  obtain ⟨c3, c4, hc3, hc4, hasg⟩ := Cond.castable_spec hcast
  cases Option.some.inj (hc3.symm.trans hcl)
  obtain ⟨c5, hc5, hcl5⟩ := Cond.classLink_spec hown hlink e.platform hpl
  cases Option.some.inj (hc4.symm.trans hc5)
  have hA := X.here
  obtain ⟨g0, hg0⟩ := X.frames_eq
  obtain ⟨vm', hW', h4⟩ := zt_go (s := s) (e := e) (f := F0 m pc ls rest) (q := q) (ce := ce) (suf := suf) (fun k h => by rw [hv] at h; cases h) (Vm.classAt_of_findClass hcl) hx h0 hcl5 hasg pre
    ((T.setTop (F0 m pc ls rest)).pushFrame (.throwing q)) X.warmed (by rw [← hT] at hcell; exact hcell)
    (fun z hz => by
      rcases hpass z hz with h | ⟨hz0, nm, hl1, hn1⟩
      · exact Or.inl h
      · obtain ⟨c6, hc6, hcl6⟩ := Cond.classLink_spec hown hl1 e.platform hpl
        obtain ⟨a8, b8, h1, h2, h3⟩ := hn1
        cases Option.some.inj (h1.symm.trans hcl)
        cases Option.some.inj (h2.symm.trans hc6)
        exact Or.inr ⟨hz0, _, hcl6, h3⟩)
  have hf : ∀ (Qh : Handler → Pre) (E : CtlPost) (d : Bool) (acts : List Action), wp (findHandler (F0 m pc ls rest) q) Qh E e d acts ((T.setTop (F0 m pc ls rest)).pushFrame (.throwing q)) ↔ Qh (.found x.handlerPc) d acts (((T.setTop (F0 m pc ls rest)).pushFrame (.throwing q)).setVm vm') := fun Qh E d acts => by
    rw [Jvm.W.findHandler_eq (s := (T.setTop (F0 m pc ls rest)).pushFrame (.throwing q)) (f := F0 m pc ls rest) (meth := meth) (code := c) X.method' X.code, hsplit]
    exact h4 Qh E d acts
  have hstep : (stepThrowing e ((T.setTop (F0 m pc ls rest)).pushFrame (.throwing q)) q (.java (F0 m pc ls rest) :: T.frames.tail)).Is ((((T.setTop (F0 m pc ls rest)).pushFrame (.throwing q)).setVm vm').setFrames (.java { F0 m pc ls rest with pc := x.handlerPc, stack := [.ref q] } :: T.frames.tail)) [] := by
    simp only [stepThrowing, searchFrame, vmDo]
    generalize hr : Sem.go _ e false [] ((T.setTop (F0 m pc ls rest)).pushFrame (.throwing q)) = res
    obtain ⟨as, rfl, h9⟩ := Sem.eq_ok_of hr (a := Handler.found x.handlerPc) (s' := ((T.setTop (F0 m pc ls rest)).pushFrame (.throwing q)).setVm vm') (acts' := []) (by simp [hf])
    exact ⟨rfl, h9⟩
  obtain ⟨t, a1, b1⟩ := kk (T.setVm vm') hT (X.noted hW')
  refine ⟨t, ?_, b1⟩
  obtain ⟨hgo, hw⟩ := At.throwing (g := F0 m pc ls rest) hA q
  refine Steps.head hgo hw ?_
  rw [stepThread_throwing (frames_entered hA.top _), hstep.1, hg0, List.tail_cons]
  have hg1 : (T.setVm vm').frames = .java g0 :: below := hg0
  rw [State.setTop_of_frames _ hg1] at a1
  have hS2 : (((T.setTop (F0 m pc ls rest)).pushFrame (.throwing q)).setVm vm').setFrames (.java { F0 m pc ls rest with pc := x.handlerPc, stack := [.ref q] } :: below) = (T.setVm vm').setFrames (.java { F0 m pc ls rest with pc := x.handlerPc, stack := [.ref q] } :: below) := by
    rw [State.pushFrame, State.setTop_of_frames _ hg0, State.setFrames_setFrames, zt_fr]
  rw [hS2]
  exact a1
end
