/-! ===== the layer z: one goal 'zV X cells slots pc locals stack world' an instruction ===== -/
abbrev zG : Type := va_G × ClassId × ClassId × ClassId
abbrev zTys (g : zG) : List (ClassId × FieldType) := [(g.2.1, .byte), (g.2.2.1, .int), (g.2.2.2, .long)]
/-- the table of remainders, as the class has it -/
def zRem (k : Nat) : Int32 := match k with
  | 0 => 0 | 1 => 274646895 | 2 => 549293790 | 3 => 820201905 | 4 => 1098587580 | 5 => 1361435347 | 6 => 1640403810 | 7 => 1905808397
  | 8 => -2097792136 | 9 => -1834419177 | 10 => -1572096602 | 11 => -1307217207 | 12 => -1014159676 | 13 => -741088853 | 14 => -483350502 | _ => -210866315
def zE (A : Nat → Prop) (U : State) (H : Heap) : Prop := ∃ t : Nat, va_Z "FragmentLog$Sum" "REMAINDERS" "[I" (.ref t) A U H ∧ va_T .int t 16 (fun j => .int (zRem j)) A U H
theorem zE.moved {A : Nat → Prop} {u U : State} {H : Heap} (hvm : u.vm.Alike U.vm) (h : zE A u H) : zE A U H := by
  obtain ⟨t, h1, h2⟩ := h
  exact ⟨t, h1.moved hvm, h2.moved hvm⟩
theorem zE.kept {A : Nat → Prop} {U : State} {H H1 : Heap} (h : zE A U H) (hq : ∀ a : Nat, a < H.size → ¬ A a → H1[a]? = H[a]?) : zE A U H1 := by
  obtain ⟨t, h1, h2⟩ := h
  exact ⟨t, h1.kept hq, h2.kept hq⟩
theorem zE.narrow {A B : Nat → Prop} {U : State} {H : Heap} (h : zE A U H) (hAB : ∀ q, B q → A q) : zE B U H := by
  obtain ⟨t, h1, h2⟩ := h
  exact ⟨t, h1.narrow hAB, h2.narrow hAB⟩
abbrev zX : Type := Program × Launch × Env × Room × State × MethodId × Array Value × List Frame × Method × Code × (Nat → Prop) × (State → Prop)
def zV (X : zX) (g : zG) (nL cells slots pc : Nat) (lv : List (Nat × Value)) (st : List Value) (ws : va_W) : Prop :=
  match X with
  | (p, l, e, R, s, m, args, below, meth, c, A, Q) => ∀ (H : Heap) (locs : List Loc) (ls : Array Slot), va_P g.1 vwCl ws H → va_D A ws → va_S A s.heap H locs → lv_has ls nL lv → W p l e R s m args below meth c H locs cells slots Q (F0 m pc ls st)
def zC (X : zX) (g : zG) (nL : Nat) (cc : ByteArray) (own : String) (Ts : List Cond) (rm : Room) : Prop :=
  match X with
  | (p, l, e, R, s, m, args, below, meth, c, A, Q) => p.tables.exec = Jvm.exec ∧ c.code = cc ∧ c.maxLocals = nL ∧ s.vm.findClass own = some m.cls ∧ (∀ w ∈ Ts, w.before args s = true) ∧ va_K g.1 vwCl (zTys g) s ∧ (∀ q, s.heap.size ≤ q → A q) ∧ R = rm ∧ zE A s s.heap ∧ meth.locks = false
def zl (X : zX) : Launch := X.2.1
section
variable {X : zX} {g : zG} {nL : Nat} {cc : ByteArray} {own : String} {Ts : List Cond} {rm : Room} {cells slots pc : Nat} {lv : List (Nat × Value)} {st : List Value} {ws : va_W}
theorem z_iconst (C : zC X g nL cc own Ts rm) {n : Int} {v : Int32} (d : decode cc pc = .ok (.iconst n, 1)) (hv : Int32.ofInt n = v) (k : zV X g nL cells slots (pc + 1) lv (.int v :: st) ws) : zV X g nL cells slots pc lv (st) ws := by
  obtain ⟨p, l, e, R, s, m, args, below, meth, c, A, Q⟩ := X
  obtain ⟨hx, hb, hml, hown, hts, hK, hA, hR, hE, hlk⟩ := C
  subst hR
  intro H locs ls hP hD hS hl
  exact lv_iconst hx hb d hv (k H locs ls hP hD hS hl)
theorem z_bipush (C : zC X g nL cc own Ts rm) {n : Int} {v : Int32} (d : decode cc pc = .ok (.bipush n, 2)) (hv : (Int8.ofInt n).toInt32 = v) (k : zV X g nL cells slots (pc + 2) lv (.int v :: st) ws) : zV X g nL cells slots pc lv (st) ws := by
  obtain ⟨p, l, e, R, s, m, args, below, meth, c, A, Q⟩ := X
  obtain ⟨hx, hb, hml, hown, hts, hK, hA, hR, hE, hlk⟩ := C
  subst hR
  intro H locs ls hP hD hS hl
  exact lv_bipush hx hb d hv (k H locs ls hP hD hS hl)
theorem z_sipush (C : zC X g nL cc own Ts rm) {n : Int} {v : Int32} (d : decode cc pc = .ok (.sipush n, 3)) (hv : (Int16.ofInt n).toInt32 = v) (k : zV X g nL cells slots (pc + 3) lv (.int v :: st) ws) : zV X g nL cells slots pc lv (st) ws := by
  obtain ⟨p, l, e, R, s, m, args, below, meth, c, A, Q⟩ := X
  obtain ⟨hx, hb, hml, hown, hts, hK, hA, hR, hE, hlk⟩ := C
  subst hR
  intro H locs ls hP hD hS hl
  exact lv_sipush hx hb d hv (k H locs ls hP hD hS hl)
theorem z_ldc (C : zC X g nL cc own Ts rm) {index : Nat} {v : Int32} (d : decode cc pc = .ok (.ldc index, 2)) (hc : .constant own index v ∈ Ts) (k : zV X g nL cells slots (pc + 2) lv (.int v :: st) ws) : zV X g nL cells slots pc lv st ws := by
  obtain ⟨p, l, e, R, s, m, args, below, meth, c, A, Q⟩ := X
  obtain ⟨hx, hb, hml, hown, hts, hK, hA, hR, hE, hlk⟩ := C
  subst hR
  intro H locs ls hP hD hS hl
  exact lv_ldc hx hb hown (hts _ hc) d (k H locs ls hP hD hS hl)
theorem z_iload_n (C : zC X g nL cc own Ts rm) {i : Nat} {kk : Fin 4} {x : Int32} (d : decode cc pc = .ok (.iload_n kk, 1)) (hi : (kk : Nat) = i) (j : Nat) (hj : lv[j]? = some (i, .int x)) (k : zV X g nL cells slots (pc + 1) lv (.int x :: st) ws) : zV X g nL cells slots pc lv st ws := by
  obtain ⟨p, l, e, R, s, m, args, below, meth, c, A, Q⟩ := X
  obtain ⟨hx, hb, hml, hown, hts, hK, hA, hR, hE, hlk⟩ := C
  subst hR
  intro H locs ls hP hD hS hl
  exact lv_iload_n hx hb d hi (lv_at hl j hj) (k H locs ls hP hD hS hl)
theorem z_iload (C : zC X g nL cc own Ts rm) {i : Nat} {x : Int32} (d : decode cc pc = .ok (.iload i, 2)) (j : Nat) (hj : lv[j]? = some (i, .int x)) (k : zV X g nL cells slots (pc + 2) lv (.int x :: st) ws) : zV X g nL cells slots pc lv st ws := by
  obtain ⟨p, l, e, R, s, m, args, below, meth, c, A, Q⟩ := X
  obtain ⟨hx, hb, hml, hown, hts, hK, hA, hR, hE, hlk⟩ := C
  subst hR
  intro H locs ls hP hD hS hl
  exact lv_iload hx hb d (lv_at hl j hj) (k H locs ls hP hD hS hl)
theorem z_aload_n (C : zC X g nL cc own Ts rm) {i : Nat} {kk : Fin 4} {x : Nat} (d : decode cc pc = .ok (.aload_n kk, 1)) (hi : (kk : Nat) = i) (j : Nat) (hj : lv[j]? = some (i, .ref x)) (k : zV X g nL cells slots (pc + 1) lv (.ref x :: st) ws) : zV X g nL cells slots pc lv st ws := by
  obtain ⟨p, l, e, R, s, m, args, below, meth, c, A, Q⟩ := X
  obtain ⟨hx, hb, hml, hown, hts, hK, hA, hR, hE, hlk⟩ := C
  subst hR
  intro H locs ls hP hD hS hl
  exact lv_aload_n hx hb d hi (lv_at hl j hj) (k H locs ls hP hD hS hl)
theorem z_aload (C : zC X g nL cc own Ts rm) {i : Nat} {x : Nat} (d : decode cc pc = .ok (.aload i, 2)) (j : Nat) (hj : lv[j]? = some (i, .ref x)) (k : zV X g nL cells slots (pc + 2) lv (.ref x :: st) ws) : zV X g nL cells slots pc lv st ws := by
  obtain ⟨p, l, e, R, s, m, args, below, meth, c, A, Q⟩ := X
  obtain ⟨hx, hb, hml, hown, hts, hK, hA, hR, hE, hlk⟩ := C
  subst hR
  intro H locs ls hP hD hS hl
  exact lv_aload hx hb d (lv_at hl j hj) (k H locs ls hP hD hS hl)
theorem z_istore_n (C : zC X g nL cc own Ts rm) {i : Nat} {kk : Fin 4} {x : Int32} {lv' : List (Nat × Value)} (d : decode cc pc = .ok (.istore_n kk, 1)) (hi : (kk : Nat) = i) (hn : i < nL) (hl0 : (i, Value.int x) :: lv.filter (fun q => !(q.1 == i) && !(q.1 + 1 == i && q.2.category == 2)) = lv') (k : zV X g nL cells slots (pc + 1) lv' st ws) : zV X g nL cells slots pc lv (.int x :: st) ws := by
  obtain ⟨p, l, e, R, s, m, args, below, meth, c, A, Q⟩ := X
  obtain ⟨hx, hb, hml, hown, hts, hK, hA, hR, hE, hlk⟩ := C
  subst hR
  intro H locs ls hP hD hS hl
  exact lv_istore_n hx hb d hi hl hn hl0 (fun ls hl => k H locs ls hP hD hS hl)
theorem z_istore (C : zC X g nL cc own Ts rm) {i : Nat} {x : Int32} {lv' : List (Nat × Value)} (d : decode cc pc = .ok (.istore i, 2)) (hn : i < nL) (hl0 : (i, Value.int x) :: lv.filter (fun q => !(q.1 == i) && !(q.1 + 1 == i && q.2.category == 2)) = lv') (k : zV X g nL cells slots (pc + 2) lv' st ws) : zV X g nL cells slots pc lv (.int x :: st) ws := by
  obtain ⟨p, l, e, R, s, m, args, below, meth, c, A, Q⟩ := X
  obtain ⟨hx, hb, hml, hown, hts, hK, hA, hR, hE, hlk⟩ := C
  subst hR
  intro H locs ls hP hD hS hl
  exact lv_istore hx hb d hl hn hl0 (fun ls hl => k H locs ls hP hD hS hl)
theorem z_astore_n (C : zC X g nL cc own Ts rm) {i : Nat} {kk : Fin 4} {x : Nat} {lv' : List (Nat × Value)} (d : decode cc pc = .ok (.astore_n kk, 1)) (hi : (kk : Nat) = i) (hn : i < nL) (hl0 : (i, Value.ref x) :: lv.filter (fun q => !(q.1 == i) && !(q.1 + 1 == i && q.2.category == 2)) = lv') (k : zV X g nL cells slots (pc + 1) lv' st ws) : zV X g nL cells slots pc lv (.ref x :: st) ws := by
  obtain ⟨p, l, e, R, s, m, args, below, meth, c, A, Q⟩ := X
  obtain ⟨hx, hb, hml, hown, hts, hK, hA, hR, hE, hlk⟩ := C
  subst hR
  intro H locs ls hP hD hS hl
  exact lv_astore_n hx hb d hi hl hn hl0 (fun ls hl => k H locs ls hP hD hS hl)
theorem z_astore (C : zC X g nL cc own Ts rm) {i : Nat} {x : Nat} {lv' : List (Nat × Value)} (d : decode cc pc = .ok (.astore i, 2)) (hn : i < nL) (hl0 : (i, Value.ref x) :: lv.filter (fun q => !(q.1 == i) && !(q.1 + 1 == i && q.2.category == 2)) = lv') (k : zV X g nL cells slots (pc + 2) lv' st ws) : zV X g nL cells slots pc lv (.ref x :: st) ws := by
  obtain ⟨p, l, e, R, s, m, args, below, meth, c, A, Q⟩ := X
  obtain ⟨hx, hb, hml, hown, hts, hK, hA, hR, hE, hlk⟩ := C
  subst hR
  intro H locs ls hP hD hS hl
  exact lv_astore hx hb d hl hn hl0 (fun ls hl => k H locs ls hP hD hS hl)
theorem z_iinc (C : zC X g nL cc own Ts rm) {i : Nat} {n : Int} {x v : Int32} {lv' : List (Nat × Value)} (d : decode cc pc = .ok (.iinc i n, 3)) (j : Nat) (hj : lv[j]? = some (i, .int x)) (hv : x + Int32.ofInt n = v) (hn : i < nL) (hl0 : (i, Value.int v) :: lv.filter (fun q => !(q.1 == i) && !(q.1 + 1 == i && q.2.category == 2)) = lv') (k : zV X g nL cells slots (pc + 3) lv' st ws) : zV X g nL cells slots pc lv st ws := by
  obtain ⟨p, l, e, R, s, m, args, below, meth, c, A, Q⟩ := X
  obtain ⟨hx, hb, hml, hown, hts, hK, hA, hR, hE, hlk⟩ := C
  subst hR
  intro H locs ls hP hD hS hl
  exact lv_iinc hx hb d hl hj hv hn hl0 (fun ls hl => k H locs ls hP hD hS hl)
/-- the locals' list anew, by places -/
theorem z_lv {lv' : List (Nat × Value)} (ks : List Nat) (hp : lv_pick lv ks = lv') (k : zV X g nL cells slots pc lv' st ws) : zV X g nL cells slots pc lv st ws := by
  obtain ⟨p, l, e, R, s, m, args, below, meth, c, A, Q⟩ := X
  intro H locs ls hP hD hS hl
  exact k H locs ls hP hD hS (lv_sub hl ks hp)
/-- the world's list anew, by places -/
theorem z_ws {ws' : va_W} (is : List Nat) (hn : va_nd is = true) (hp : is.map (fun i => ws[i]?) = ws'.map some) (hp2 : is.filterMap (fun i => ws[i]?) = ws') (k : zV X g nL cells slots pc lv st ws') : zV X g nL cells slots pc lv st ws := by
  obtain ⟨p, l, e, R, s, m, args, below, meth, c, A, Q⟩ := X
  intro H locs ls hP hD hS hl
  exact k H locs ls (hP.sub is hp2) (hD.sub is hn hp) hS hl
theorem z_eqv {st' : List Value} {ws' : va_W} (h1 : st = st') (h2 : ws = ws') (k : zV X g nL cells slots pc lv st' ws') : zV X g nL cells slots pc lv st ws := by rw [h1, h2]; exact k
theorem z_dup (C : zC X g nL cc own Ts rm) {va : Value} (d : decode cc pc = .ok (.dup, 1)) (hva : va.category = 1) (k : zV X g nL cells slots (pc + 1) lv (va :: va :: st) ws) : zV X g nL cells slots pc lv (va :: st) ws := by
  obtain ⟨p, l, e, R, s, m, args, below, meth, c, A, Q⟩ := X
  obtain ⟨hx, hb, hml, hown, hts, hK, hA, hR, hE, hlk⟩ := C
  subst hR
  intro H locs ls hP hD hS hl
  exact lv_dup hx hb d hva (k H locs ls hP hD hS hl)
theorem z_pop (C : zC X g nL cc own Ts rm) {va : Value} (d : decode cc pc = .ok (.pop, 1)) (hva : va.category = 1) (k : zV X g nL cells slots (pc + 1) lv (st) ws) : zV X g nL cells slots pc lv (va :: st) ws := by
  obtain ⟨p, l, e, R, s, m, args, below, meth, c, A, Q⟩ := X
  obtain ⟨hx, hb, hml, hown, hts, hK, hA, hR, hE, hlk⟩ := C
  subst hR
  intro H locs ls hP hD hS hl
  exact lv_pop hx hb d hva (k H locs ls hP hD hS hl)
theorem z_iadd (C : zC X g nL cc own Ts rm) {x y : Int32} (d : decode cc pc = .ok (.iadd, 1))  (k : zV X g nL cells slots (pc + 1) lv (.int (x + y) :: st) ws) : zV X g nL cells slots pc lv (.int y :: .int x :: st) ws := by
  obtain ⟨p, l, e, R, s, m, args, below, meth, c, A, Q⟩ := X
  obtain ⟨hx, hb, hml, hown, hts, hK, hA, hR, hE, hlk⟩ := C
  subst hR
  intro H locs ls hP hD hS hl
  exact lv_iadd hx hb d  (k H locs ls hP hD hS hl)
theorem z_isub (C : zC X g nL cc own Ts rm) {x y : Int32} (d : decode cc pc = .ok (.isub, 1))  (k : zV X g nL cells slots (pc + 1) lv (.int (x - y) :: st) ws) : zV X g nL cells slots pc lv (.int y :: .int x :: st) ws := by
  obtain ⟨p, l, e, R, s, m, args, below, meth, c, A, Q⟩ := X
  obtain ⟨hx, hb, hml, hown, hts, hK, hA, hR, hE, hlk⟩ := C
  subst hR
  intro H locs ls hP hD hS hl
  exact lv_isub hx hb d  (k H locs ls hP hD hS hl)
theorem z_imul (C : zC X g nL cc own Ts rm) {x y : Int32} (d : decode cc pc = .ok (.imul, 1))  (k : zV X g nL cells slots (pc + 1) lv (.int (x * y) :: st) ws) : zV X g nL cells slots pc lv (.int y :: .int x :: st) ws := by
  obtain ⟨p, l, e, R, s, m, args, below, meth, c, A, Q⟩ := X
  obtain ⟨hx, hb, hml, hown, hts, hK, hA, hR, hE, hlk⟩ := C
  subst hR
  intro H locs ls hP hD hS hl
  exact lv_imul hx hb d  (k H locs ls hP hD hS hl)
theorem z_iand (C : zC X g nL cc own Ts rm) {x y : Int32} (d : decode cc pc = .ok (.iand, 1))  (k : zV X g nL cells slots (pc + 1) lv (.int (x &&& y) :: st) ws) : zV X g nL cells slots pc lv (.int y :: .int x :: st) ws := by
  obtain ⟨p, l, e, R, s, m, args, below, meth, c, A, Q⟩ := X
  obtain ⟨hx, hb, hml, hown, hts, hK, hA, hR, hE, hlk⟩ := C
  subst hR
  intro H locs ls hP hD hS hl
  exact lv_iand hx hb d  (k H locs ls hP hD hS hl)
theorem z_ior (C : zC X g nL cc own Ts rm) {x y : Int32} (d : decode cc pc = .ok (.ior, 1))  (k : zV X g nL cells slots (pc + 1) lv (.int (x ||| y) :: st) ws) : zV X g nL cells slots pc lv (.int y :: .int x :: st) ws := by
  obtain ⟨p, l, e, R, s, m, args, below, meth, c, A, Q⟩ := X
  obtain ⟨hx, hb, hml, hown, hts, hK, hA, hR, hE, hlk⟩ := C
  subst hR
  intro H locs ls hP hD hS hl
  exact lv_ior hx hb d  (k H locs ls hP hD hS hl)
theorem z_ixor (C : zC X g nL cc own Ts rm) {x y : Int32} (d : decode cc pc = .ok (.ixor, 1))  (k : zV X g nL cells slots (pc + 1) lv (.int (x ^^^ y) :: st) ws) : zV X g nL cells slots pc lv (.int y :: .int x :: st) ws := by
  obtain ⟨p, l, e, R, s, m, args, below, meth, c, A, Q⟩ := X
  obtain ⟨hx, hb, hml, hown, hts, hK, hA, hR, hE, hlk⟩ := C
  subst hR
  intro H locs ls hP hD hS hl
  exact lv_ixor hx hb d  (k H locs ls hP hD hS hl)
theorem z_ishl (C : zC X g nL cc own Ts rm) {x y : Int32} (d : decode cc pc = .ok (.ishl, 1))  (k : zV X g nL cells slots (pc + 1) lv (.int (x <<< (y &&& 31)) :: st) ws) : zV X g nL cells slots pc lv (.int y :: .int x :: st) ws := by
  obtain ⟨p, l, e, R, s, m, args, below, meth, c, A, Q⟩ := X
  obtain ⟨hx, hb, hml, hown, hts, hK, hA, hR, hE, hlk⟩ := C
  subst hR
  intro H locs ls hP hD hS hl
  exact lv_ishl hx hb d  (k H locs ls hP hD hS hl)
theorem z_ishr (C : zC X g nL cc own Ts rm) {x y : Int32} (d : decode cc pc = .ok (.ishr, 1))  (k : zV X g nL cells slots (pc + 1) lv (.int (x >>> (y &&& 31)) :: st) ws) : zV X g nL cells slots pc lv (.int y :: .int x :: st) ws := by
  obtain ⟨p, l, e, R, s, m, args, below, meth, c, A, Q⟩ := X
  obtain ⟨hx, hb, hml, hown, hts, hK, hA, hR, hE, hlk⟩ := C
  subst hR
  intro H locs ls hP hD hS hl
  exact lv_ishr hx hb d  (k H locs ls hP hD hS hl)
def zUshr (x y : Int32) : Int32 := (x.toUInt32 >>> (y.toUInt32 &&& Int32.toUInt32 31)).toInt32
theorem z_iushr (C : zC X g nL cc own Ts rm) {x y : Int32} (d : decode cc pc = .ok (.iushr, 1))  (k : zV X g nL cells slots (pc + 1) lv (.int (zUshr x y) :: st) ws) : zV X g nL cells slots pc lv (.int y :: .int x :: st) ws := by
  obtain ⟨p, l, e, R, s, m, args, below, meth, c, A, Q⟩ := X
  obtain ⟨hx, hb, hml, hown, hts, hK, hA, hR, hE, hlk⟩ := C
  subst hR
  intro H locs ls hP hD hS hl
  exact lv_iushr hx hb d rfl (k H locs ls hP hD hS hl)
def zMod (x y : Int32) : Int32 := x - x / y * y
theorem z_idiv (C : zC X g nL cc own Ts rm) {x y : Int32} (d : decode cc pc = .ok (.idiv, 1)) (hne : ¬ y = 0) (k : zV X g nL cells slots (pc + 1) lv (.int (x / y) :: st) ws) : zV X g nL cells slots pc lv (.int y :: .int x :: st) ws := by
  obtain ⟨p, l, e, R, s, m, args, below, meth, c, A, Q⟩ := X
  obtain ⟨hx, hb, hml, hown, hts, hK, hA, hR, hE, hlk⟩ := C
  subst hR
  intro H locs ls hP hD hS hl
  exact lv_idiv hx hb d hne (k H locs ls hP hD hS hl)
theorem z_irem (C : zC X g nL cc own Ts rm) {x y : Int32} (d : decode cc pc = .ok (.irem, 1)) (hne : ¬ y = 0) (k : zV X g nL cells slots (pc + 1) lv (.int (zMod x y) :: st) ws) : zV X g nL cells slots pc lv (.int y :: .int x :: st) ws := by
  obtain ⟨p, l, e, R, s, m, args, below, meth, c, A, Q⟩ := X
  obtain ⟨hx, hb, hml, hown, hts, hK, hA, hR, hE, hlk⟩ := C
  subst hR
  intro H locs ls hP hD hS hl
  exact lv_irem hx hb d hne (k H locs ls hP hD hS hl)
theorem z_i2b (C : zC X g nL cc own Ts rm) {x : Int32} (d : decode cc pc = .ok (.i2b, 1))  (k : zV X g nL cells slots (pc + 1) lv (.int x.toInt8.toInt32 :: st) ws) : zV X g nL cells slots pc lv (.int x :: st) ws := by
  obtain ⟨p, l, e, R, s, m, args, below, meth, c, A, Q⟩ := X
  obtain ⟨hx, hb, hml, hown, hts, hK, hA, hR, hE, hlk⟩ := C
  subst hR
  intro H locs ls hP hD hS hl
  exact lv_i2b hx hb d rfl (k H locs ls hP hD hS hl)
theorem z_i2l (C : zC X g nL cc own Ts rm) {x : Int32} (d : decode cc pc = .ok (.i2l, 1))  (k : zV X g nL cells slots (pc + 1) lv (.long x.toInt64 :: st) ws) : zV X g nL cells slots pc lv (.int x :: st) ws := by
  obtain ⟨p, l, e, R, s, m, args, below, meth, c, A, Q⟩ := X
  obtain ⟨hx, hb, hml, hown, hts, hK, hA, hR, hE, hlk⟩ := C
  subst hR
  intro H locs ls hP hD hS hl
  exact lv_i2l hx hb d rfl (k H locs ls hP hD hS hl)
theorem z_goto (C : zC X g nL cc own Ts rm) {off : Int} {tgt : Nat} (d : decode cc pc = .ok (.goto off, 3)) (ht : (pc : Int) + off = (tgt : Int)) (k : zV X g nL cells slots tgt lv st ws) : zV X g nL cells slots pc lv st ws := by
  obtain ⟨p, l, e, R, s, m, args, below, meth, c, A, Q⟩ := X
  obtain ⟨hx, hb, hml, hown, hts, hK, hA, hR, hE, hlk⟩ := C
  subst hR
  intro H locs ls hP hD hS hl
  exact lv_goto hx hb d ht (k H locs ls hP hD hS hl)
theorem z_icmp_eq (C : zC X g nL cc own Ts rm) {x y : Int32} {off : Int} {tgt : Nat} (d : decode cc pc = .ok (.if_icmp .eq off, 3)) (ht : (pc : Int) + off = (tgt : Int)) (kt : x = y → zV X g nL cells slots tgt lv st ws) (kf : ¬ x = y → zV X g nL cells slots (pc + 3) lv st ws) : zV X g nL cells slots pc lv (.int y :: .int x :: st) ws := by
  obtain ⟨p, l, e, R, s, m, args, below, meth, c, A, Q⟩ := X
  obtain ⟨hx, hb, hml, hown, hts, hK, hA, hR, hE, hlk⟩ := C
  subst hR
  intro H locs ls hP hD hS hl
  exact lv_icmp_eq hx hb d ht (fun q => kt q H locs ls hP hD hS hl) (fun q => kf q H locs ls hP hD hS hl)
theorem z_if_eq (C : zC X g nL cc own Ts rm) {x : Int32} {off : Int} {tgt : Nat} (d : decode cc pc = .ok (.ifCond .eq off, 3)) (ht : (pc : Int) + off = (tgt : Int)) (kt : x = 0 → zV X g nL cells slots tgt lv st ws) (kf : ¬ x = 0 → zV X g nL cells slots (pc + 3) lv st ws) : zV X g nL cells slots pc lv (.int x :: st) ws := by
  obtain ⟨p, l, e, R, s, m, args, below, meth, c, A, Q⟩ := X
  obtain ⟨hx, hb, hml, hown, hts, hK, hA, hR, hE, hlk⟩ := C
  subst hR
  intro H locs ls hP hD hS hl
  exact lv_if_eq hx hb d ht (fun q => kt q H locs ls hP hD hS hl) (fun q => kf q H locs ls hP hD hS hl)
theorem z_icmp_ne (C : zC X g nL cc own Ts rm) {x y : Int32} {off : Int} {tgt : Nat} (d : decode cc pc = .ok (.if_icmp .ne off, 3)) (ht : (pc : Int) + off = (tgt : Int)) (kt : ¬ x = y → zV X g nL cells slots tgt lv st ws) (kf : x = y → zV X g nL cells slots (pc + 3) lv st ws) : zV X g nL cells slots pc lv (.int y :: .int x :: st) ws := by
  obtain ⟨p, l, e, R, s, m, args, below, meth, c, A, Q⟩ := X
  obtain ⟨hx, hb, hml, hown, hts, hK, hA, hR, hE, hlk⟩ := C
  subst hR
  intro H locs ls hP hD hS hl
  exact lv_icmp_ne hx hb d ht (fun q => kt q H locs ls hP hD hS hl) (fun q => kf q H locs ls hP hD hS hl)
theorem z_if_ne (C : zC X g nL cc own Ts rm) {x : Int32} {off : Int} {tgt : Nat} (d : decode cc pc = .ok (.ifCond .ne off, 3)) (ht : (pc : Int) + off = (tgt : Int)) (kt : ¬ x = 0 → zV X g nL cells slots tgt lv st ws) (kf : x = 0 → zV X g nL cells slots (pc + 3) lv st ws) : zV X g nL cells slots pc lv (.int x :: st) ws := by
  obtain ⟨p, l, e, R, s, m, args, below, meth, c, A, Q⟩ := X
  obtain ⟨hx, hb, hml, hown, hts, hK, hA, hR, hE, hlk⟩ := C
  subst hR
  intro H locs ls hP hD hS hl
  exact lv_if_ne hx hb d ht (fun q => kt q H locs ls hP hD hS hl) (fun q => kf q H locs ls hP hD hS hl)
theorem z_icmp_lt (C : zC X g nL cc own Ts rm) {x y : Int32} {off : Int} {tgt : Nat} (d : decode cc pc = .ok (.if_icmp .lt off, 3)) (ht : (pc : Int) + off = (tgt : Int)) (kt : x < y → zV X g nL cells slots tgt lv st ws) (kf : ¬ x < y → zV X g nL cells slots (pc + 3) lv st ws) : zV X g nL cells slots pc lv (.int y :: .int x :: st) ws := by
  obtain ⟨p, l, e, R, s, m, args, below, meth, c, A, Q⟩ := X
  obtain ⟨hx, hb, hml, hown, hts, hK, hA, hR, hE, hlk⟩ := C
  subst hR
  intro H locs ls hP hD hS hl
  exact lv_icmp_lt hx hb d ht (fun q => kt q H locs ls hP hD hS hl) (fun q => kf q H locs ls hP hD hS hl)
theorem z_if_lt (C : zC X g nL cc own Ts rm) {x : Int32} {off : Int} {tgt : Nat} (d : decode cc pc = .ok (.ifCond .lt off, 3)) (ht : (pc : Int) + off = (tgt : Int)) (kt : x < 0 → zV X g nL cells slots tgt lv st ws) (kf : ¬ x < 0 → zV X g nL cells slots (pc + 3) lv st ws) : zV X g nL cells slots pc lv (.int x :: st) ws := by
  obtain ⟨p, l, e, R, s, m, args, below, meth, c, A, Q⟩ := X
  obtain ⟨hx, hb, hml, hown, hts, hK, hA, hR, hE, hlk⟩ := C
  subst hR
  intro H locs ls hP hD hS hl
  exact lv_if_lt hx hb d ht (fun q => kt q H locs ls hP hD hS hl) (fun q => kf q H locs ls hP hD hS hl)
theorem z_icmp_ge (C : zC X g nL cc own Ts rm) {x y : Int32} {off : Int} {tgt : Nat} (d : decode cc pc = .ok (.if_icmp .ge off, 3)) (ht : (pc : Int) + off = (tgt : Int)) (kt : y ≤ x → zV X g nL cells slots tgt lv st ws) (kf : ¬ y ≤ x → zV X g nL cells slots (pc + 3) lv st ws) : zV X g nL cells slots pc lv (.int y :: .int x :: st) ws := by
  obtain ⟨p, l, e, R, s, m, args, below, meth, c, A, Q⟩ := X
  obtain ⟨hx, hb, hml, hown, hts, hK, hA, hR, hE, hlk⟩ := C
  subst hR
  intro H locs ls hP hD hS hl
  exact lv_icmp_ge hx hb d ht (fun q => kt q H locs ls hP hD hS hl) (fun q => kf q H locs ls hP hD hS hl)
theorem z_if_ge (C : zC X g nL cc own Ts rm) {x : Int32} {off : Int} {tgt : Nat} (d : decode cc pc = .ok (.ifCond .ge off, 3)) (ht : (pc : Int) + off = (tgt : Int)) (kt : 0 ≤ x → zV X g nL cells slots tgt lv st ws) (kf : ¬ 0 ≤ x → zV X g nL cells slots (pc + 3) lv st ws) : zV X g nL cells slots pc lv (.int x :: st) ws := by
  obtain ⟨p, l, e, R, s, m, args, below, meth, c, A, Q⟩ := X
  obtain ⟨hx, hb, hml, hown, hts, hK, hA, hR, hE, hlk⟩ := C
  subst hR
  intro H locs ls hP hD hS hl
  exact lv_if_ge hx hb d ht (fun q => kt q H locs ls hP hD hS hl) (fun q => kf q H locs ls hP hD hS hl)
theorem z_icmp_gt (C : zC X g nL cc own Ts rm) {x y : Int32} {off : Int} {tgt : Nat} (d : decode cc pc = .ok (.if_icmp .gt off, 3)) (ht : (pc : Int) + off = (tgt : Int)) (kt : y < x → zV X g nL cells slots tgt lv st ws) (kf : ¬ y < x → zV X g nL cells slots (pc + 3) lv st ws) : zV X g nL cells slots pc lv (.int y :: .int x :: st) ws := by
  obtain ⟨p, l, e, R, s, m, args, below, meth, c, A, Q⟩ := X
  obtain ⟨hx, hb, hml, hown, hts, hK, hA, hR, hE, hlk⟩ := C
  subst hR
  intro H locs ls hP hD hS hl
  exact lv_icmp_gt hx hb d ht (fun q => kt q H locs ls hP hD hS hl) (fun q => kf q H locs ls hP hD hS hl)
theorem z_if_gt (C : zC X g nL cc own Ts rm) {x : Int32} {off : Int} {tgt : Nat} (d : decode cc pc = .ok (.ifCond .gt off, 3)) (ht : (pc : Int) + off = (tgt : Int)) (kt : 0 < x → zV X g nL cells slots tgt lv st ws) (kf : ¬ 0 < x → zV X g nL cells slots (pc + 3) lv st ws) : zV X g nL cells slots pc lv (.int x :: st) ws := by
  obtain ⟨p, l, e, R, s, m, args, below, meth, c, A, Q⟩ := X
  obtain ⟨hx, hb, hml, hown, hts, hK, hA, hR, hE, hlk⟩ := C
  subst hR
  intro H locs ls hP hD hS hl
  exact lv_if_gt hx hb d ht (fun q => kt q H locs ls hP hD hS hl) (fun q => kf q H locs ls hP hD hS hl)
theorem z_icmp_le (C : zC X g nL cc own Ts rm) {x y : Int32} {off : Int} {tgt : Nat} (d : decode cc pc = .ok (.if_icmp .le off, 3)) (ht : (pc : Int) + off = (tgt : Int)) (kt : x ≤ y → zV X g nL cells slots tgt lv st ws) (kf : ¬ x ≤ y → zV X g nL cells slots (pc + 3) lv st ws) : zV X g nL cells slots pc lv (.int y :: .int x :: st) ws := by
  obtain ⟨p, l, e, R, s, m, args, below, meth, c, A, Q⟩ := X
  obtain ⟨hx, hb, hml, hown, hts, hK, hA, hR, hE, hlk⟩ := C
  subst hR
  intro H locs ls hP hD hS hl
  exact lv_icmp_le hx hb d ht (fun q => kt q H locs ls hP hD hS hl) (fun q => kf q H locs ls hP hD hS hl)
theorem z_if_le (C : zC X g nL cc own Ts rm) {x : Int32} {off : Int} {tgt : Nat} (d : decode cc pc = .ok (.ifCond .le off, 3)) (ht : (pc : Int) + off = (tgt : Int)) (kt : x ≤ 0 → zV X g nL cells slots tgt lv st ws) (kf : ¬ x ≤ 0 → zV X g nL cells slots (pc + 3) lv st ws) : zV X g nL cells slots pc lv (.int x :: st) ws := by
  obtain ⟨p, l, e, R, s, m, args, below, meth, c, A, Q⟩ := X
  obtain ⟨hx, hb, hml, hown, hts, hK, hA, hR, hE, hlk⟩ := C
  subst hR
  intro H locs ls hP hD hS hl
  exact lv_if_le hx hb d ht (fun q => kt q H locs ls hP hD hS hl) (fun q => kf q H locs ls hP hD hS hl)
theorem z_tableIn (C : zC X g nL cc own Ts rm) {dflt lo hi : Int} {offs : Array Int} {len : Nat} {x : Int32} {off : Int} {tgt : Nat} (d : decode cc pc = .ok (.tableswitch dflt lo hi offs, len)) (h1 : ¬ x.toInt < lo) (h2 : ¬ hi < x.toInt) (ho : offs[(x.toInt - lo).toNat]? = some off) (ht : (pc : Int) + off = (tgt : Int)) (k : zV X g nL cells slots tgt lv st ws) : zV X g nL cells slots pc lv (.int x :: st) ws := by
  obtain ⟨p, l, e, R, s, m, args, below, meth, c, A, Q⟩ := X
  obtain ⟨hx, hb, hml, hown, hts, hK, hA, hR, hE, hlk⟩ := C
  subst hR
  intro H locs ls hP hD hS hl
  exact lv_tableIn hx hb d h1 h2 ho ht (k H locs ls hP hD hS hl)
theorem z_tableOut (C : zC X g nL cc own Ts rm) {dflt lo hi : Int} {offs : Array Int} {len : Nat} {x : Int32} {tgt : Nat} (d : decode cc pc = .ok (.tableswitch dflt lo hi offs, len)) (h : x.toInt < lo ∨ hi < x.toInt) (ht : (pc : Int) + dflt = (tgt : Int)) (k : zV X g nL cells slots tgt lv st ws) : zV X g nL cells slots pc lv (.int x :: st) ws := by
  obtain ⟨p, l, e, R, s, m, args, below, meth, c, A, Q⟩ := X
  obtain ⟨hx, hb, hml, hown, hts, hK, hA, hR, hE, hlk⟩ := C
  subst hR
  intro H locs ls hP hD hS hl
  exact lv_tableOut hx hb d h ht (k H locs ls hP hD hS hl)
theorem z_get (C : zC X g nL cc own Ts rm) {ref Cn : String} {T : u_T} {N ci index a : Nat} {fs : List Value} {v : Value} (d : decode cc pc = .ok (.getfield index, 3)) (hin : ∀ w ∈ u_ws Cn T N, w ∈ Ts) (q0 : Nat) (he : ws[q0]? = some (a, .inr (ci, fs))) (hc : vwCl[ci]? = some (Cn, T, N)) (k : Nat) (hk : k < N) (hlink : .fieldLink own index ref (T k).2.1 (T k).2.2.1 ∈ Ts) (href : (T k).1 = ref) (hv : fs[k]? = some v) (kk : zV X g nL cells slots (pc + 3) lv (v :: st) ws) : zV X g nL cells slots pc lv (.ref a :: st) ws := by
  obtain ⟨p, l, e, R, s, m, args, below, meth, c, A, Q⟩ := X
  obtain ⟨hx, hb, hml, hown, hts, hK, hA, hR, hE, hlk⟩ := C
  subst hR
  intro H locs ls hP hD hS hl
  exact va_get hx hb hts hin hown hK hP q0 he hc k hk (hts _ hlink) (fun _ h9 => href ▸ h9) hv d (kk H locs ls hP hD hS hl)
theorem z_put (C : zC X g nL cc own Ts rm) {ref Cn : String} {T : u_T} {N ci index a : Nat} {fs : List Value} {v : Value} {ty : FieldType} {ws' : va_W} (d : decode cc pc = .ok (.putfield index, 3)) (hin : ∀ w ∈ u_ws Cn T N, w ∈ Ts) (ty0 : Nat → FieldType) (hty : ∀ k, k < N → parseFieldDescriptor (T k).2.2.1 = some (ty0 k)) (hnm : ∀ a, a < N → ∀ b, b < N → a ≠ b → (T a).2.1 ≠ (T b).2.1) (q0 : Nat) (he : ws[q0]? = some (a, .inr (ci, fs))) (hc : vwCl[ci]? = some (Cn, T, N)) (k : Nat) (hk : k < N) (hlink : .fieldLink own index ref (T k).2.1 (T k).2.2.1 ∈ Ts) (href : (T k).1 = ref) (hfin : (T k).2.2.2 = false) (hd : parseFieldDescriptor (T k).2.2.1 = some ty) (hn : narrow ty v = v) (hfit : fits ty v = true) (hlen : k < fs.length) (hw : ws.set q0 (a, .inr (ci, fs.set k v)) = ws') (kk : zV X g nL cells slots (pc + 3) lv st ws') : zV X g nL cells slots pc lv (v :: .ref a :: st) ws := by
  obtain ⟨p, l, e, R, s, m, args, below, meth, c, A, Q⟩ := X
  obtain ⟨hx, hb, hml, hown, hts, hK, hA, hR, hE, hlk⟩ := C
  subst hR
  intro H locs ls hP hD hS hl
  subst hw; exact va_put hx hb hts hin ty0 hty hnm hown hK hP hD hS q0 he hc k hk (hts _ hlink) (fun _ h9 => href ▸ h9) hfin hd hn hfit hlen d (fun H locs hP hD hS => kk H locs ls hP hD hS hl)
theorem z_iald (C : zC X g nL cc own Ts rm) {a n : Nat} {f : Nat → Int32} {i : Int32} (d : decode cc pc = .ok (.iaload, 1)) (q0 : Nat) (he : ws[q0]? = some (a, .inl (g.2.2.1, n, .inl f))) (hin : vp_in i n) (kk : zV X g nL cells slots (pc + 1) lv (.int (f i.toNatClampNeg) :: st) ws) : zV X g nL cells slots pc lv (.int i :: .ref a :: st) ws := by
  obtain ⟨p, l, e, R, s, m, args, below, meth, c, A, Q⟩ := X
  obtain ⟨hx, hb, hml, hown, hts, hK, hA, hR, hE, hlk⟩ := C
  subst hR
  intro H locs ls hP hD hS hl
  exact va_iald hx hb hK hP q0 1 he rfl hin d (kk H locs ls hP hD hS hl)
theorem z_bald (C : zC X g nL cc own Ts rm) {a n : Nat} {f : Nat → Int32} {i : Int32} (d : decode cc pc = .ok (.baload, 1)) (q0 : Nat) (he : ws[q0]? = some (a, .inl (g.2.1, n, .inl f))) (hin : vp_in i n) (kk : zV X g nL cells slots (pc + 1) lv (.int (f i.toNatClampNeg) :: st) ws) : zV X g nL cells slots pc lv (.int i :: .ref a :: st) ws := by
  obtain ⟨p, l, e, R, s, m, args, below, meth, c, A, Q⟩ := X
  obtain ⟨hx, hb, hml, hown, hts, hK, hA, hR, hE, hlk⟩ := C
  subst hR
  intro H locs ls hP hD hS hl
  exact va_bald hx hb hK hP q0 0 he rfl hin d (kk H locs ls hP hD hS hl)
theorem z_iast (C : zC X g nL cc own Ts rm) {a n : Nat} {f : Nat → Int32} {i x : Int32} {ws' : va_W} (d : decode cc pc = .ok (.iastore, 1)) (q0 : Nat) (he : ws[q0]? = some (a, .inl (g.2.2.1, n, .inl f))) (hin : vp_in i n) (hw : ws.set q0 (a, .inl (g.2.2.1, n, .inl (upd f i.toNatClampNeg (x)))) = ws') (kk : zV X g nL cells slots (pc + 1) lv st ws') : zV X g nL cells slots pc lv (.int x :: .int i :: .ref a :: st) ws := by
  obtain ⟨p, l, e, R, s, m, args, below, meth, c, A, Q⟩ := X
  obtain ⟨hx, hb, hml, hown, hts, hK, hA, hR, hE, hlk⟩ := C
  subst hR
  intro H locs ls hP hD hS hl
  subst hw; exact va_iast hx hb hK hP hD hS q0 1 he rfl hin d (fun H locs hP hD hS => kk H locs ls hP hD hS hl)
theorem z_bast (C : zC X g nL cc own Ts rm) {a n : Nat} {f : Nat → Int32} {i x : Int32} {ws' : va_W} (d : decode cc pc = .ok (.bastore, 1)) (q0 : Nat) (he : ws[q0]? = some (a, .inl (g.2.1, n, .inl f))) (hin : vp_in i n) (hw : ws.set q0 (a, .inl (g.2.1, n, .inl (upd f i.toNatClampNeg (vp_nar .byte x)))) = ws') (kk : zV X g nL cells slots (pc + 1) lv st ws') : zV X g nL cells slots pc lv (.int x :: .int i :: .ref a :: st) ws := by
  obtain ⟨p, l, e, R, s, m, args, below, meth, c, A, Q⟩ := X
  obtain ⟨hx, hb, hml, hown, hts, hK, hA, hR, hE, hlk⟩ := C
  subst hR
  intro H locs ls hP hD hS hl
  subst hw; exact va_bast hx hb hK hP hD hS q0 0 he rfl hin d (fun H locs hP hD hS => kk H locs ls hP hD hS hl)
theorem z_alenB (C : zC X g nL cc own Ts rm) {a n : Nat} {f : Nat → Int32} (d : decode cc pc = .ok (.arraylength, 1)) (q0 : Nat) (he : ws[q0]? = some (a, .inl (g.2.1, n, .inl f))) (kk : zV X g nL cells slots (pc + 1) lv (.int (nI n) :: st) ws) : zV X g nL cells slots pc lv (.ref a :: st) ws := by
  obtain ⟨p, l, e, R, s, m, args, below, meth, c, A, Q⟩ := X
  obtain ⟨hx, hb, hml, hown, hts, hK, hA, hR, hE, hlk⟩ := C
  subst hR
  intro H locs ls hP hD hS hl
  exact va_alen hx hb hK hP q0 0 he (ty := .byte) rfl rfl d (kk H locs ls hP hD hS hl)
theorem z_rem (C : zC X g nL cc own Ts rm) {index : Nat} (d : decode cc pc = .ok (.getstatic index, 3)) (hlink : .fieldLink own index "FragmentLog$Sum" "REMAINDERS" "[I" ∈ Ts) (kk : ∀ t : Nat, (∀ (pc2 : Nat) (st2 : List Value) (lv2 : List (Nat × Value)) (ws2 : va_W) (i : Int32), decode cc pc2 = .ok (.iaload, 1) → vp_in i 16 → zV X g nL cells slots (pc2 + 1) lv2 (.int (zRem i.toNatClampNeg) :: st2) ws2 → zV X g nL cells slots pc2 lv2 (.int i :: .ref t :: st2) ws2) → zV X g nL cells slots (pc + 3) lv (.ref t :: st) ws) : zV X g nL cells slots pc lv st ws := by
  obtain ⟨p, l, e, R, s, m, args, below, meth, c, A, Q⟩ := X
  obtain ⟨hx, hb, hml, hown, hts, hK, hA, hR, hE, hlk⟩ := C
  subst hR
  intro H locs ls hP hD hS hl
  obtain ⟨t, hZ, hT⟩ := hE
  refine va_gets hx hb hZ hS hown (hts _ hlink) (fun _ h9 => h9) d (kk t ?_ H locs ls hP hD hS hl)
  intro pc2 st2 lv2 ws2 i d2 hi k2 H locs ls hP hD hS hl
  exact va_ti hx hb hT hS hi rfl d2 (k2 H locs ls hP hD hS hl)
def zMin (x y : Int32) : Int32 := if y < x then y else x
theorem z_min (C : zC X g nL cc own Ts rm) {index : Nat} {x y : Int32} (d : decode cc pc = .ok (.invokestatic index, 3)) (h1 : .methodLink own index Lib.Math.min.name ∈ Ts) (h2 : .static Lib.Math.min.name ∈ Ts) (h3 : .initialized "java/lang/Math" ∈ Ts) (h4 : .code Lib.Math.min.name Lib.Math.min.code 2 (some .int) ∈ Ts) (hf : 1 ≤ rm.frames) (hlo : (st.map fun v => v.category).sum + 13 ≤ rm.locals) (hc : cells ≤ rm.cells) (hs : slots ≤ rm.slots) (kk : zV X g nL cells slots (pc + 3) lv (.int (zMin x y) :: st) ws) : zV X g nL cells slots pc lv (.int y :: .int x :: st) ws := by
  obtain ⟨p, l, e, R, s, m, args, below, meth, c, A, Q⟩ := X
  obtain ⟨hx, hb, hml, hown, hts, hK, hA, hR, hE, hlk⟩ := C
  subst hR
  intro H locs ls hP hD hS hl
  exact va_mmin hx hb (by rw [hml, hl.1]) hown (hts _ h1) (hts _ h2) (hts _ h3) (hts _ h4) hf hlo hc hs d (kk H locs ls hP hD hS hl)
end
/-! contracts: the answer and the cells are functions of what was there -/
def zPre (g : zG) (av : List Value) (ws : va_W) (sz : Nat) : Array Value → State → Prop := va_Pc av (fun U => U.heap.size = sz ∧ va_P g.1 vwCl ws U.heap ∧ va_K g.1 vwCl (zTys g) U ∧ va_D (fun _ => True) ws ∧ zE (va_A ws sz) U U.heap)
def zB (g : zG) (A : Nat → Prop) (u : va_W) (t : State) : Prop := va_P g.1 vwCl u t.heap ∧ va_D A u
def zMI (l : Launch) (y : MethodName) (Wd : List Cond) (rm : Room) (g : zG) (av : List Value) (ws : va_W) (rv : Int32) (ws' : va_W) : Prop :=
  ∀ sz : Nat, Met l y Wd rm (zPre g av ws sz) (va_Qi (fun r (u : va_W) => r = rv ∧ u = ws') (zB g (va_A ws sz)) (va_A ws sz)) 0 0 (va_A ws sz)
def zMV (l : Launch) (y : MethodName) (Wd : List Cond) (rm : Room) (g : zG) (av : List Value) (ws ws' : va_W) : Prop :=
  ∀ sz : Nat, Met l y Wd rm (zPre g av ws sz) (va_Qv (fun (u : va_W) => u = ws') (zB g (va_A ws sz)) (va_A ws sz)) 0 0 (va_A ws sz)
def zMR (l : Launch) (y : MethodName) (Wd : List Cond) (rm : Room) (g : zG) (av : List Value) (ws : va_W) (rv : Nat) (ws' : va_W) : Prop :=
  ∀ sz : Nat, Met l y Wd rm (zPre g av ws sz) (va_Qr (fun (u : va_W) => u = ws') (fun u a t => a = rv ∧ zB g (va_A ws sz) u t) (va_A ws sz)) 0 0 (va_A ws sz)
theorem zPre.blind {g : zG} {av : List Value} {ws : va_W} {sz : Nat} : FrameBlind (zPre g av ws sz) := fun a U g9 mk q => by
  obtain ⟨q0, q1, qP, qK, qD, qE⟩ := q
  exact ⟨q0, q1, qP, va_K.moved (u := U) (U := U.calling g9 mk a) (Vm.Alike.refl U.vm) qK, qD, zE.moved (u := U) (U := U.calling g9 mk a) (Vm.Alike.refl U.vm) qE⟩

theorem zMI_of {l : Launch} {y : MethodName} {Wd Wd' : List Cond} {rm : Room} {g : zG} {av : List Value} {ws ws' : va_W} {rv : Int32} {cc : ByteArray} {nL : Nat} {ty : FieldType} (hy : plainName y.cls = true) (hw : Wd = Cond.code y cc nL (some ty) :: Wd') (hnl : (lg_sl av).length ≤ nL) (hn : narrow ty (.int rv) = .int rv) (body : ∀ X : zX, zC X g nL cc y.cls Wd rm → (∀ (pc : Nat) (lv : List (Nat × Value)) (v : Int32) (w : va_W), decode cc pc = .ok (.ireturn, 1) → v = rv → w = ws' → zV X g nL 0 0 pc lv [.int v] w) → zV X g nL 0 0 0 (lv_args 0 av) [] ws) : zMI l y Wd rm g av ws rv ws' := by
  intro sz
  refine Met.ofW (cc := cc) (maxL := nL) (ret := some ty) hy hw ?_
  intro p e s m args below meth c s₁ B hml hv
  obtain ⟨rfl, hsz, hP, hK, hD0, hE⟩ := hv
  subst hsz
  have hS : va_S (va_A ws s.heap.size) s.heap s.heap [] := va_S.rf
  have hl := lv_entry av (n := nL) hnl
  rw [lg_entry_eq]
  have hbe : BodyLoose p l y (headSpec Wd rm) cc nL (some ty) e s m av.toArray below meth c s₁ := B
  refine body (p, l, e, (headSpec Wd rm).room, s, m, av.toArray, below, meth, c, va_A ws s.heap.size, _) ⟨B.exec, B.bytes, hml, findClass_of_methodNamed B.named, atoms_spec (ws := Wd) B.pre, hK, fun q h => Or.inr h, rfl, hE, B.notSynchronized⟩ ?_ s.heap [] _ hP (hD0.self (sz := s.heap.size)) hS hl
  intro pc lv v w d hv hw9 H locs ls hP hD hS hl
  subst hv; subst hw9
  exact W.zret B.exec B.bytes B.returns hn (fun t ht hW => ⟨⟨v, w, rfl, ⟨rfl, rfl⟩, by rw [ht]; exact hP, hD⟩, hS.F ht⟩) hS.2.2 d B.notSynchronized
theorem zMV_of {l : Launch} {y : MethodName} {Wd Wd' : List Cond} {rm : Room} {g : zG} {av : List Value} {ws ws' : va_W} {cc : ByteArray} {nL : Nat} (hy : plainName y.cls = true) (hw : Wd = Cond.code y cc nL none :: Wd') (hnl : (lg_sl av).length ≤ nL) (body : ∀ X : zX, zC X g nL cc y.cls Wd rm → (∀ (pc : Nat) (lv : List (Nat × Value)) (w : va_W), decode cc pc = .ok (.return_, 1) → w = ws' → zV X g nL 0 0 pc lv [] w) → zV X g nL 0 0 0 (lv_args 0 av) [] ws) : zMV l y Wd rm g av ws ws' := by
  intro sz
  refine Met.ofW (cc := cc) (maxL := nL) (ret := none) hy hw ?_
  intro p e s m args below meth c s₁ B hml hv
  obtain ⟨rfl, hsz, hP, hK, hD0, hE⟩ := hv
  subst hsz
  have hS : va_S (va_A ws s.heap.size) s.heap s.heap [] := va_S.rf
  have hl := lv_entry av (n := nL) hnl
  rw [lg_entry_eq]
  have hbe : BodyLoose p l y (headSpec Wd rm) cc nL none e s m av.toArray below meth c s₁ := B
  refine body (p, l, e, (headSpec Wd rm).room, s, m, av.toArray, below, meth, c, va_A ws s.heap.size, _) ⟨B.exec, B.bytes, hml, findClass_of_methodNamed B.named, atoms_spec (ws := Wd) B.pre, hK, fun q h => Or.inr h, rfl, hE, B.notSynchronized⟩ ?_ s.heap [] _ hP (hD0.self (sz := s.heap.size)) hS hl
  intro pc lv w d hw9 H locs ls hP hD hS hl
  subst hw9
  exact W.vret B.exec B.bytes B.returns (fun t ht hW => ⟨⟨w, rfl, rfl, by rw [ht]; exact hP, hD⟩, hS.F ht⟩) hS.2.2 d B.notSynchronized
theorem zMR_of {l : Launch} {y : MethodName} {Wd Wd' : List Cond} {rm : Room} {g : zG} {av : List Value} {ws ws' : va_W} {rv : Nat} {cc : ByteArray} {nL : Nat} {ty : FieldType} (hy : plainName y.cls = true) (hw : Wd = Cond.code y cc nL (some ty) :: Wd') (hnl : (lg_sl av).length ≤ nL) (hrt : (∃ n, ty = .object n) ∨ ∃ t, ty = .array t) (body : ∀ X : zX, zC X g nL cc y.cls Wd rm → (∀ (pc : Nat) (lv : List (Nat × Value)) (v : Nat) (w : va_W), decode cc pc = .ok (.areturn, 1) → v = rv → w = ws' → zV X g nL 0 0 pc lv [.ref v] w) → zV X g nL 0 0 0 (lv_args 0 av) [] ws) : zMR l y Wd rm g av ws rv ws' := by
  intro sz
  refine Met.ofW (cc := cc) (maxL := nL) (ret := some ty) hy hw ?_
  intro p e s m args below meth c s₁ B hml hv
  obtain ⟨rfl, hsz, hP, hK, hD0, hE⟩ := hv
  subst hsz
  have hS : va_S (va_A ws s.heap.size) s.heap s.heap [] := va_S.rf
  have hl := lv_entry av (n := nL) hnl
  rw [lg_entry_eq]
  have hbe : BodyLoose p l y (headSpec Wd rm) cc nL (some ty) e s m av.toArray below meth c s₁ := B
  refine body (p, l, e, (headSpec Wd rm).room, s, m, av.toArray, below, meth, c, va_A ws s.heap.size, _) ⟨B.exec, B.bytes, hml, findClass_of_methodNamed B.named, atoms_spec (ws := Wd) B.pre, hK, fun q h => Or.inr h, rfl, hE, B.notSynchronized⟩ ?_ s.heap [] _ hP (hD0.self (sz := s.heap.size)) hS hl
  intro pc lv v w d hv hw9 H locs ls hP hD hS hl
  subst hv; subst hw9
  exact W.aret B.exec B.bytes B.returns hrt (Or.inr ⟨v, rfl⟩) (fun t ht hW => ⟨⟨w, v, rfl, rfl, rfl, by rw [ht]; exact hP, hD⟩, hS.F ht⟩) hS.2.2 d B.notSynchronized
section
variable {X : zX} {g : zG} {nL : Nat} {cc : ByteArray} {own : String} {Ts : List Cond} {rm : Room} {cells slots pc : Nat} {lv : List (Nat × Value)} {ws : va_W} {index maxL n ci b : Nat} {Cn : String} {T : u_T} {N : Nat} {fs : List Value} {y : MethodName} {bytes : ByteArray} {ret : Option FieldType} {Wd Wd' : List Cond} {rc : Room} {As rest : List Value} {wc wc' wr ws2 : va_W}
/-- what a call hands over, and what comes back: the cells of the callee cut out by their places, the rest as it was -/
theorem z_pre {s U : State} {H : Heap} {A : Nat → Prop} {locs : List Loc} {av : List Value} (hK : va_K g.1 vwCl (zTys g) s) (hA : ∀ q, s.heap.size ≤ q → A q) (hE : zE A s s.heap) (hP : va_P g.1 vwCl ws H) (hD : va_D A ws) (hS : va_S A s.heap H locs) (isC : List Nat) (hnd : va_nd isC = true) (hC : isC.map (fun i => ws[i]?) = wc.map some) (hC2 : isC.filterMap (fun i => ws[i]?) = wc) (hU : U.heap = H) (hW : s.WarmedH U.vm) : zPre g av wc H.size av.toArray U := by
  have hF := va_free (wc := wc) hD hS hA isC hC
  refine ⟨rfl, by rw [hU], by rw [hU]; exact hP.sub isC hC2, va_K.moved hW.alike hK, (hD.sub isC hnd hC).weaken (fun _ _ _ _ => trivial), ?_⟩
  have h1 : zE A s H := hE.kept (fun a h1 h2 => hS.2.1 a h1 h2)
  have h2 : zE (va_A wc H.size) s H := h1.narrow hF
  rw [hU]
  exact h2.moved hW.alike
theorem z_fm {α β : Type} {f : α → Option β} {is : List α} {ws : List β} (h : is.map f = ws.map some) : is.filterMap f = ws := by
  induction is generalizing ws with
  | nil => cases ws with
    | nil => rfl
    | cons b bs => cases h
  | cons i is ih => cases ws with
    | nil => cases h
    | cons b bs =>
      simp only [List.map_cons, List.cons.injEq] at h
      rw [List.filterMap_cons_some h.1, ih h.2]
theorem z_callVi {rv : Int32} {st : List Value} (C : zC X g nL cc own Ts rm) (d : decode cc pc = .ok (.invokevirtual index, 3)) (hM : zMI (zl X) y Wd rc g (.ref b :: As) wc rv wc') (hG : GoodIn Ts (wsV own index Cn y Wd)) (hw : Wd = Cond.code y bytes maxL ret :: Wd') (hrm : rc.cells = 0 ∧ rc.slots = 0) (hd : y.cls = Cn ∧ y.cls ≠ "java/lang/invoke/MethodHandle" ∧ y.cls ≠ "java/lang/invoke/VarHandle" ∧ (parseMethodDescriptor y.desc).map (fun d => d.parameters.length) = some n) (hR : rc.frames + 1 ≤ rm.frames ∧ 8 + (maxL + 11) + rc.locals ≤ rm.locals) (hfit : cells ≤ rm.cells ∧ slots ≤ rm.slots) (hc : vwCl[ci]? = some (Cn, T, N)) (he : wc[0]? = some (b, .inr (ci, fs))) (hst : st = As.reverse ++ .ref b :: rest) (hn : As.length = n) (hcat : (rest.map fun v => v.category).sum ≤ 8) (isC isR isP : List Nat) (hC : isC.map (fun i => ws[i]?) = wc.map some) (hRr : isR.map (fun i => ws[i]?) = wr.map some) (hnd : va_nd isC = true ∧ va_nd isR = true ∧ va_nd isP = true) (hdis : ∀ i ∈ isR, i ∉ isC) (hP2 : isP.map (fun i => (wr ++ wc')[i]?) = ws2.map some) (k : zV X g nL cells slots (pc + 3) lv (.int rv :: rest) ws2) : zV X g nL cells slots pc lv st ws := by
  obtain ⟨p, l, e, R, s, m, args, below, meth, c, A, Q⟩ := X
  obtain ⟨hx, hb, hml, hown, hts, hK, hA, hR, hE, hlk⟩ := C
  subst hR
  intro H locs ls hP hD hS hl
  subst hst
  have hC2 : isC.filterMap (fun i => ws[i]?) = wc := z_fm hC
  have hFc := va_free (wc := wc) hD hS hA isC hC
  refine va_calli (va_runV (As := As) (rest := rest) ⟨hx, hb, hml, hown, hts⟩ (hM H.size) (cwV n hts hG hw hrm.1 hrm.2 hd hR) ⟨zPre.blind, va_recv hK (hP.sub isC hC2) hc he, fun U hU hW => z_pre hK hA hE hP hD hS isC hnd.1 hC hC2 hU hW⟩ rfl hn hl.1 rfl (lv_room hcat) d hfit) hS (fun q _ h => hFc q h) hFc (fun r u t H1 locs ht hvm hw9 hB hz1 hk1 hS => ?_)
  obtain ⟨rfl, rfl⟩ := hw9
  obtain ⟨hP1, hD1⟩ := hB
  rw [ht] at hP1
  obtain ⟨hP, hD⟩ := va_join (wr := wr) hP hD isC isR hC hRr hnd.2.1 hdis hk1 hFc hP1 hD1
  exact k _ _ _ (hP.sub isP (z_fm hP2)) (hD.sub isP hnd.2.2 hP2) hS hl
theorem z_callVv {st : List Value} (C : zC X g nL cc own Ts rm) (d : decode cc pc = .ok (.invokevirtual index, 3)) (hM : zMV (zl X) y Wd rc g (.ref b :: As) wc wc') (hG : GoodIn Ts (wsV own index Cn y Wd)) (hw : Wd = Cond.code y bytes maxL ret :: Wd') (hrm : rc.cells = 0 ∧ rc.slots = 0) (hd : y.cls = Cn ∧ y.cls ≠ "java/lang/invoke/MethodHandle" ∧ y.cls ≠ "java/lang/invoke/VarHandle" ∧ (parseMethodDescriptor y.desc).map (fun d => d.parameters.length) = some n) (hR : rc.frames + 1 ≤ rm.frames ∧ 8 + (maxL + 11) + rc.locals ≤ rm.locals) (hfit : cells ≤ rm.cells ∧ slots ≤ rm.slots) (hc : vwCl[ci]? = some (Cn, T, N)) (he : wc[0]? = some (b, .inr (ci, fs))) (hst : st = As.reverse ++ .ref b :: rest) (hn : As.length = n) (hcat : (rest.map fun v => v.category).sum ≤ 8) (isC isR isP : List Nat) (hC : isC.map (fun i => ws[i]?) = wc.map some) (hRr : isR.map (fun i => ws[i]?) = wr.map some) (hnd : va_nd isC = true ∧ va_nd isR = true ∧ va_nd isP = true) (hdis : ∀ i ∈ isR, i ∉ isC) (hP2 : isP.map (fun i => (wr ++ wc')[i]?) = ws2.map some) (k : zV X g nL cells slots (pc + 3) lv (rest) ws2) : zV X g nL cells slots pc lv st ws := by
  obtain ⟨p, l, e, R, s, m, args, below, meth, c, A, Q⟩ := X
  obtain ⟨hx, hb, hml, hown, hts, hK, hA, hR, hE, hlk⟩ := C
  subst hR
  intro H locs ls hP hD hS hl
  subst hst
  have hC2 : isC.filterMap (fun i => ws[i]?) = wc := z_fm hC
  have hFc := va_free (wc := wc) hD hS hA isC hC
  refine va_callv (va_runV (As := As) (rest := rest) ⟨hx, hb, hml, hown, hts⟩ (hM H.size) (cwV n hts hG hw hrm.1 hrm.2 hd hR) ⟨zPre.blind, va_recv hK (hP.sub isC hC2) hc he, fun U hU hW => z_pre hK hA hE hP hD hS isC hnd.1 hC hC2 hU hW⟩ rfl hn hl.1 rfl (lv_room hcat) d hfit) hS (fun q _ h => hFc q h) hFc (fun u t H1 locs ht hvm hw9 hB hz1 hk1 hS => ?_)
  subst hw9
  obtain ⟨hP1, hD1⟩ := hB
  rw [ht] at hP1
  obtain ⟨hP, hD⟩ := va_join (wr := wr) hP hD isC isR hC hRr hnd.2.1 hdis hk1 hFc hP1 hD1
  exact k _ _ _ (hP.sub isP (z_fm hP2)) (hD.sub isP hnd.2.2 hP2) hS hl
theorem z_callVr {rv : Nat} {st : List Value} (C : zC X g nL cc own Ts rm) (d : decode cc pc = .ok (.invokevirtual index, 3)) (hM : zMR (zl X) y Wd rc g (.ref b :: As) wc rv wc') (hG : GoodIn Ts (wsV own index Cn y Wd)) (hw : Wd = Cond.code y bytes maxL ret :: Wd') (hrm : rc.cells = 0 ∧ rc.slots = 0) (hd : y.cls = Cn ∧ y.cls ≠ "java/lang/invoke/MethodHandle" ∧ y.cls ≠ "java/lang/invoke/VarHandle" ∧ (parseMethodDescriptor y.desc).map (fun d => d.parameters.length) = some n) (hR : rc.frames + 1 ≤ rm.frames ∧ 8 + (maxL + 11) + rc.locals ≤ rm.locals) (hfit : cells ≤ rm.cells ∧ slots ≤ rm.slots) (hc : vwCl[ci]? = some (Cn, T, N)) (he : wc[0]? = some (b, .inr (ci, fs))) (hst : st = As.reverse ++ .ref b :: rest) (hn : As.length = n) (hcat : (rest.map fun v => v.category).sum ≤ 8) (isC isR isP : List Nat) (hC : isC.map (fun i => ws[i]?) = wc.map some) (hRr : isR.map (fun i => ws[i]?) = wr.map some) (hnd : va_nd isC = true ∧ va_nd isR = true ∧ va_nd isP = true) (hdis : ∀ i ∈ isR, i ∉ isC) (hP2 : isP.map (fun i => (wr ++ wc')[i]?) = ws2.map some) (k : zV X g nL cells slots (pc + 3) lv (.ref rv :: rest) ws2) : zV X g nL cells slots pc lv st ws := by
  obtain ⟨p, l, e, R, s, m, args, below, meth, c, A, Q⟩ := X
  obtain ⟨hx, hb, hml, hown, hts, hK, hA, hR, hE, hlk⟩ := C
  subst hR
  intro H locs ls hP hD hS hl
  subst hst
  have hC2 : isC.filterMap (fun i => ws[i]?) = wc := z_fm hC
  have hFc := va_free (wc := wc) hD hS hA isC hC
  refine va_callr (va_runV (As := As) (rest := rest) ⟨hx, hb, hml, hown, hts⟩ (hM H.size) (cwV n hts hG hw hrm.1 hrm.2 hd hR) ⟨zPre.blind, va_recv hK (hP.sub isC hC2) hc he, fun U hU hW => z_pre hK hA hE hP hD hS isC hnd.1 hC hC2 hU hW⟩ rfl hn hl.1 rfl (lv_room hcat) d hfit) hS (fun q _ h => hFc q h) hFc (fun u r t H1 locs ht hvm hw9 hB hz1 hk1 hS => ?_)
  subst hw9
  obtain ⟨rfl, hP1, hD1⟩ := hB
  rw [ht] at hP1
  obtain ⟨hP, hD⟩ := va_join (wr := wr) hP hD isC isR hC hRr hnd.2.1 hdis hk1 hFc hP1 hD1
  exact k _ _ _ (hP.sub isP (z_fm hP2)) (hD.sub isP hnd.2.2 hP2) hS hl
theorem z_callSi {rv : Int32} {st : List Value} (C : zC X g nL cc own Ts rm) (d : decode cc pc = .ok (.invokestatic index, 3)) (hM : zMI (zl X) y Wd rc g As wc rv wc') (hG : GoodIn Ts (va_wsS own index y Wd)) (hw : Wd = Cond.code y bytes maxL ret :: Wd') (hrm : rc.cells = 0 ∧ rc.slots = 0) (hd : y.cls ≠ "java/lang/invoke/MethodHandle" ∧ y.cls ≠ "java/lang/invoke/VarHandle" ∧ (parseMethodDescriptor y.desc).map (fun d => d.parameters.length) = some n) (hR : rc.frames + 1 ≤ rm.frames ∧ 8 + (maxL + 11) + rc.locals ≤ rm.locals) (hfit : cells ≤ rm.cells ∧ slots ≤ rm.slots) (hst : st = As.reverse ++ rest) (hn : As.length = n) (hcat : (rest.map fun v => v.category).sum ≤ 8) (isC isR isP : List Nat) (hC : isC.map (fun i => ws[i]?) = wc.map some) (hRr : isR.map (fun i => ws[i]?) = wr.map some) (hnd : va_nd isC = true ∧ va_nd isR = true ∧ va_nd isP = true) (hdis : ∀ i ∈ isR, i ∉ isC) (hP2 : isP.map (fun i => (wr ++ wc')[i]?) = ws2.map some) (k : zV X g nL cells slots (pc + 3) lv (.int rv :: rest) ws2) : zV X g nL cells slots pc lv st ws := by
  obtain ⟨p, l, e, R, s, m, args, below, meth, c, A, Q⟩ := X
  obtain ⟨hx, hb, hml, hown, hts, hK, hA, hR, hE, hlk⟩ := C
  subst hR
  intro H locs ls hP hD hS hl
  subst hst
  have hC2 : isC.filterMap (fun i => ws[i]?) = wc := z_fm hC
  have hFc := va_free (wc := wc) hD hS hA isC hC
  refine va_calli (va_runS (As := As) (rest := rest) ⟨hx, hb, hml, hown, hts⟩ (hM H.size) (va_cwS n hts hG hw hrm.1 hrm.2 hd hR) ⟨zPre.blind, fun U hU hW => z_pre hK hA hE hP hD hS isC hnd.1 hC hC2 hU hW⟩ rfl hn hl.1 rfl (lv_room hcat) d hfit) hS (fun q _ h => hFc q h) hFc (fun r u t H1 locs ht hvm hw9 hB hz1 hk1 hS => ?_)
  obtain ⟨rfl, rfl⟩ := hw9
  obtain ⟨hP1, hD1⟩ := hB
  rw [ht] at hP1
  obtain ⟨hP, hD⟩ := va_join (wr := wr) hP hD isC isR hC hRr hnd.2.1 hdis hk1 hFc hP1 hD1
  exact k _ _ _ (hP.sub isP (z_fm hP2)) (hD.sub isP hnd.2.2 hP2) hS hl
theorem z_callSv {st : List Value} (C : zC X g nL cc own Ts rm) (d : decode cc pc = .ok (.invokestatic index, 3)) (hM : zMV (zl X) y Wd rc g As wc wc') (hG : GoodIn Ts (va_wsS own index y Wd)) (hw : Wd = Cond.code y bytes maxL ret :: Wd') (hrm : rc.cells = 0 ∧ rc.slots = 0) (hd : y.cls ≠ "java/lang/invoke/MethodHandle" ∧ y.cls ≠ "java/lang/invoke/VarHandle" ∧ (parseMethodDescriptor y.desc).map (fun d => d.parameters.length) = some n) (hR : rc.frames + 1 ≤ rm.frames ∧ 8 + (maxL + 11) + rc.locals ≤ rm.locals) (hfit : cells ≤ rm.cells ∧ slots ≤ rm.slots) (hst : st = As.reverse ++ rest) (hn : As.length = n) (hcat : (rest.map fun v => v.category).sum ≤ 8) (isC isR isP : List Nat) (hC : isC.map (fun i => ws[i]?) = wc.map some) (hRr : isR.map (fun i => ws[i]?) = wr.map some) (hnd : va_nd isC = true ∧ va_nd isR = true ∧ va_nd isP = true) (hdis : ∀ i ∈ isR, i ∉ isC) (hP2 : isP.map (fun i => (wr ++ wc')[i]?) = ws2.map some) (k : zV X g nL cells slots (pc + 3) lv (rest) ws2) : zV X g nL cells slots pc lv st ws := by
  obtain ⟨p, l, e, R, s, m, args, below, meth, c, A, Q⟩ := X
  obtain ⟨hx, hb, hml, hown, hts, hK, hA, hR, hE, hlk⟩ := C
  subst hR
  intro H locs ls hP hD hS hl
  subst hst
  have hC2 : isC.filterMap (fun i => ws[i]?) = wc := z_fm hC
  have hFc := va_free (wc := wc) hD hS hA isC hC
  refine va_callv (va_runS (As := As) (rest := rest) ⟨hx, hb, hml, hown, hts⟩ (hM H.size) (va_cwS n hts hG hw hrm.1 hrm.2 hd hR) ⟨zPre.blind, fun U hU hW => z_pre hK hA hE hP hD hS isC hnd.1 hC hC2 hU hW⟩ rfl hn hl.1 rfl (lv_room hcat) d hfit) hS (fun q _ h => hFc q h) hFc (fun u t H1 locs ht hvm hw9 hB hz1 hk1 hS => ?_)
  subst hw9
  obtain ⟨hP1, hD1⟩ := hB
  rw [ht] at hP1
  obtain ⟨hP, hD⟩ := va_join (wr := wr) hP hD isC isR hC hRr hnd.2.1 hdis hk1 hFc hP1 hD1
  exact k _ _ _ (hP.sub isP (z_fm hP2)) (hD.sub isP hnd.2.2 hP2) hS hl
theorem z_callSr {rv : Nat} {st : List Value} (C : zC X g nL cc own Ts rm) (d : decode cc pc = .ok (.invokestatic index, 3)) (hM : zMR (zl X) y Wd rc g As wc rv wc') (hG : GoodIn Ts (va_wsS own index y Wd)) (hw : Wd = Cond.code y bytes maxL ret :: Wd') (hrm : rc.cells = 0 ∧ rc.slots = 0) (hd : y.cls ≠ "java/lang/invoke/MethodHandle" ∧ y.cls ≠ "java/lang/invoke/VarHandle" ∧ (parseMethodDescriptor y.desc).map (fun d => d.parameters.length) = some n) (hR : rc.frames + 1 ≤ rm.frames ∧ 8 + (maxL + 11) + rc.locals ≤ rm.locals) (hfit : cells ≤ rm.cells ∧ slots ≤ rm.slots) (hst : st = As.reverse ++ rest) (hn : As.length = n) (hcat : (rest.map fun v => v.category).sum ≤ 8) (isC isR isP : List Nat) (hC : isC.map (fun i => ws[i]?) = wc.map some) (hRr : isR.map (fun i => ws[i]?) = wr.map some) (hnd : va_nd isC = true ∧ va_nd isR = true ∧ va_nd isP = true) (hdis : ∀ i ∈ isR, i ∉ isC) (hP2 : isP.map (fun i => (wr ++ wc')[i]?) = ws2.map some) (k : zV X g nL cells slots (pc + 3) lv (.ref rv :: rest) ws2) : zV X g nL cells slots pc lv st ws := by
  obtain ⟨p, l, e, R, s, m, args, below, meth, c, A, Q⟩ := X
  obtain ⟨hx, hb, hml, hown, hts, hK, hA, hR, hE, hlk⟩ := C
  subst hR
  intro H locs ls hP hD hS hl
  subst hst
  have hC2 : isC.filterMap (fun i => ws[i]?) = wc := z_fm hC
  have hFc := va_free (wc := wc) hD hS hA isC hC
  refine va_callr (va_runS (As := As) (rest := rest) ⟨hx, hb, hml, hown, hts⟩ (hM H.size) (va_cwS n hts hG hw hrm.1 hrm.2 hd hR) ⟨zPre.blind, fun U hU hW => z_pre hK hA hE hP hD hS isC hnd.1 hC hC2 hU hW⟩ rfl hn hl.1 rfl (lv_room hcat) d hfit) hS (fun q _ h => hFc q h) hFc (fun u r t H1 locs ht hvm hw9 hB hz1 hk1 hS => ?_)
  subst hw9
  obtain ⟨rfl, hP1, hD1⟩ := hB
  rw [ht] at hP1
  obtain ⟨hP, hD⟩ := va_join (wr := wr) hP hD isC isR hC hRr hnd.2.1 hdis hk1 hFc hP1 hD1
  exact k _ _ _ (hP.sub isP (z_fm hP2)) (hD.sub isP hnd.2.2 hP2) hS hl
end
