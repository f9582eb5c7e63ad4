section
-- ===== PART A: goes FIRST, ahead of the names: the tables' words, and 'selects' of the private methods out of them =====
/-- a private method of a class that the tables say can be made, by its rows of tables_1 -/
def lw_okq (q : MethodName × Nat) : Prop := (q.1.cls ≠ "java/lang/invoke/MethodHandle" ∧ q.1.cls ≠ "java/lang/invoke/VarHandle") ∧ Cond.instantiable q.1.cls q.2 ∈ tables_1 ∧ Cond.privateMethod q.1 ∈ tables_1 ∧ Cond.instanceMethod q.1 ∈ tables_1
theorem lw_p0 : lw_okq (⟨"FragmentLog$Blocks", "addPieces", "(LFragmentLog$Row;)Z"⟩, 2) := ⟨⟨by decide +kernel, by decide +kernel⟩, List.mem_of_getElem? (i := 38) (by decide +kernel), List.mem_of_getElem? (i := 143) (by decide +kernel), List.mem_of_getElem? (i := 144) (by decide +kernel)⟩
theorem lw_p1 : lw_okq (⟨"FragmentLog$Blocks", "fillBlock", "()Z"⟩, 2) := ⟨⟨by decide +kernel, by decide +kernel⟩, List.mem_of_getElem? (i := 38) (by decide +kernel), List.mem_of_getElem? (i := 147) (by decide +kernel), List.mem_of_getElem? (i := 148) (by decide +kernel)⟩
theorem lw_p2 : lw_okq (⟨"FragmentLog$Blocks", "roomInBlock", "()I"⟩, 2) := ⟨⟨by decide +kernel, by decide +kernel⟩, List.mem_of_getElem? (i := 38) (by decide +kernel), List.mem_of_getElem? (i := 151) (by decide +kernel), List.mem_of_getElem? (i := 152) (by decide +kernel)⟩
theorem lw_p3 : lw_okq (⟨"FragmentLog$Reader", "dropRecord", "()V"⟩, 10) := ⟨⟨by decide +kernel, by decide +kernel⟩, List.mem_of_getElem? (i := 53) (by decide +kernel), List.mem_of_getElem? (i := 217) (by decide +kernel), List.mem_of_getElem? (i := 218) (by decide +kernel)⟩
theorem lw_p4 : lw_okq (⟨"FragmentLog$Reader", "nextBit", "()I"⟩, 10) := ⟨⟨by decide +kernel, by decide +kernel⟩, List.mem_of_getElem? (i := 53) (by decide +kernel), List.mem_of_getElem? (i := 222) (by decide +kernel), List.mem_of_getElem? (i := 223) (by decide +kernel)⟩
theorem lw_p5 : lw_okq (⟨"FragmentLog$Reader", "breakBlock", "(II)I"⟩, 10) := ⟨⟨by decide +kernel, by decide +kernel⟩, List.mem_of_getElem? (i := 53) (by decide +kernel), List.mem_of_getElem? (i := 241) (by decide +kernel), List.mem_of_getElem? (i := 242) (by decide +kernel)⟩
theorem lw_p6 : lw_okq (⟨"FragmentLog$Reader", "isCheckRight", "(II)Z"⟩, 10) := ⟨⟨by decide +kernel, by decide +kernel⟩, List.mem_of_getElem? (i := 53) (by decide +kernel), List.mem_of_getElem? (i := 249) (by decide +kernel), List.mem_of_getElem? (i := 250) (by decide +kernel)⟩
theorem lw_p7 : lw_okq (⟨"FragmentLog$Reader", "tear", "()V"⟩, 10) := ⟨⟨by decide +kernel, by decide +kernel⟩, List.mem_of_getElem? (i := 53) (by decide +kernel), List.mem_of_getElem? (i := 254) (by decide +kernel), List.mem_of_getElem? (i := 255) (by decide +kernel)⟩
theorem lw_p8 : lw_okq (⟨"FragmentLog$Reader", "passesOver", "(I)Z"⟩, 10) := ⟨⟨by decide +kernel, by decide +kernel⟩, List.mem_of_getElem? (i := 53) (by decide +kernel), List.mem_of_getElem? (i := 259) (by decide +kernel), List.mem_of_getElem? (i := 260) (by decide +kernel)⟩
theorem lw_p9 : lw_okq (⟨"FragmentLog$Reader", "takeFragment", "(I)Z"⟩, 10) := ⟨⟨by decide +kernel, by decide +kernel⟩, List.mem_of_getElem? (i := 53) (by decide +kernel), List.mem_of_getElem? (i := 263) (by decide +kernel), List.mem_of_getElem? (i := 264) (by decide +kernel)⟩
theorem lw_p10 : lw_okq (⟨"FragmentLog$Reader", "startRecord", "()V"⟩, 10) := ⟨⟨by decide +kernel, by decide +kernel⟩, List.mem_of_getElem? (i := 53) (by decide +kernel), List.mem_of_getElem? (i := 267) (by decide +kernel), List.mem_of_getElem? (i := 268) (by decide +kernel)⟩
theorem lw_p11 : lw_okq (⟨"FragmentLog$Reader", "addFragmentBytes", "()V"⟩, 10) := ⟨⟨by decide +kernel, by decide +kernel⟩, List.mem_of_getElem? (i := 53) (by decide +kernel), List.mem_of_getElem? (i := 271) (by decide +kernel), List.mem_of_getElem? (i := 272) (by decide +kernel)⟩
theorem lw_p12 : lw_okq (⟨"FragmentLog$Reader", "goOnWithRecord", "()Z"⟩, 10) := ⟨⟨by decide +kernel, by decide +kernel⟩, List.mem_of_getElem? (i := 53) (by decide +kernel), List.mem_of_getElem? (i := 276) (by decide +kernel), List.mem_of_getElem? (i := 277) (by decide +kernel)⟩
theorem lw_p13 : lw_okq (⟨"java/lang/Throwable", "fillInStackTrace", "(I)Ljava/lang/Throwable;"⟩, 6) := ⟨⟨by decide +kernel, by decide +kernel⟩, List.mem_of_getElem? (i := 347) (by decide +kernel), List.mem_of_getElem? (i := 345) (by decide +kernel), List.mem_of_getElem? (i := 346) (by decide +kernel)⟩
theorem lw_p14 : lw_okq (⟨"FragmentLog", "feedFrom", "(II)V"⟩, 3) := ⟨⟨by decide +kernel, by decide +kernel⟩, List.mem_of_getElem? (i := 16) (by decide +kernel), List.mem_of_getElem? (i := 416) (by decide +kernel), List.mem_of_getElem? (i := 417) (by decide +kernel)⟩
theorem lw_p15 : lw_okq (⟨"FragmentLog$Drops", "isKept", "(I)Z"⟩, 4) := ⟨⟨by decide +kernel, by decide +kernel⟩, List.mem_of_getElem? (i := 59) (by decide +kernel), List.mem_of_getElem? (i := 531) (by decide +kernel), List.mem_of_getElem? (i := 532) (by decide +kernel)⟩
def lw_privs_1 : List (MethodName × Nat) := [(⟨"FragmentLog$Blocks", "addPieces", "(LFragmentLog$Row;)Z"⟩, 2), (⟨"FragmentLog$Blocks", "fillBlock", "()Z"⟩, 2), (⟨"FragmentLog$Blocks", "roomInBlock", "()I"⟩, 2), (⟨"FragmentLog$Reader", "dropRecord", "()V"⟩, 10), (⟨"FragmentLog$Reader", "nextBit", "()I"⟩, 10), (⟨"FragmentLog$Reader", "breakBlock", "(II)I"⟩, 10), (⟨"FragmentLog$Reader", "isCheckRight", "(II)Z"⟩, 10), (⟨"FragmentLog$Reader", "tear", "()V"⟩, 10), (⟨"FragmentLog$Reader", "passesOver", "(I)Z"⟩, 10), (⟨"FragmentLog$Reader", "takeFragment", "(I)Z"⟩, 10), (⟨"FragmentLog$Reader", "startRecord", "()V"⟩, 10), (⟨"FragmentLog$Reader", "addFragmentBytes", "()V"⟩, 10), (⟨"FragmentLog$Reader", "goOnWithRecord", "()Z"⟩, 10), (⟨"java/lang/Throwable", "fillInStackTrace", "(I)Ljava/lang/Throwable;"⟩, 6), (⟨"FragmentLog", "feedFrom", "(II)V"⟩, 3), (⟨"FragmentLog$Drops", "isKept", "(I)Z"⟩, 4)]
theorem lw_r1 : ∀ q ∈ lw_privs_1, lw_okq q := List.forall_mem_cons.mpr ⟨lw_p0, List.forall_mem_cons.mpr ⟨lw_p1, List.forall_mem_cons.mpr ⟨lw_p2, List.forall_mem_cons.mpr ⟨lw_p3, List.forall_mem_cons.mpr ⟨lw_p4, List.forall_mem_cons.mpr ⟨lw_p5, List.forall_mem_cons.mpr ⟨lw_p6, List.forall_mem_cons.mpr ⟨lw_p7, List.forall_mem_cons.mpr ⟨lw_p8, List.forall_mem_cons.mpr ⟨lw_p9, List.forall_mem_cons.mpr ⟨lw_p10, List.forall_mem_cons.mpr ⟨lw_p11, List.forall_mem_cons.mpr ⟨lw_p12, List.forall_mem_cons.mpr ⟨lw_p13, List.forall_mem_cons.mpr ⟨lw_p14, List.forall_mem_cons.mpr ⟨lw_p15, fun _ h => absurd h List.not_mem_nil⟩⟩⟩⟩⟩⟩⟩⟩⟩⟩⟩⟩⟩⟩⟩⟩
theorem lw_p16 : lw_okq (⟨"FragmentLogModel", "refused", "(I)Z"⟩, 23) := ⟨⟨by decide +kernel, by decide +kernel⟩, List.mem_of_getElem? (i := 539) (by decide +kernel), List.mem_of_getElem? (i := 626) (by decide +kernel), List.mem_of_getElem? (i := 627) (by decide +kernel)⟩
theorem lw_p17 : lw_okq (⟨"FragmentLogModel", "beginAt", "(I)V"⟩, 23) := ⟨⟨by decide +kernel, by decide +kernel⟩, List.mem_of_getElem? (i := 539) (by decide +kernel), List.mem_of_getElem? (i := 630) (by decide +kernel), List.mem_of_getElem? (i := 631) (by decide +kernel)⟩
theorem lw_p18 : lw_okq (⟨"FragmentLogModel", "checkOf", "(III)I"⟩, 23) := ⟨⟨by decide +kernel, by decide +kernel⟩, List.mem_of_getElem? (i := 539) (by decide +kernel), List.mem_of_getElem? (i := 646) (by decide +kernel), List.mem_of_getElem? (i := 647) (by decide +kernel)⟩
theorem lw_p19 : lw_okq (⟨"FragmentLogModel", "appendedSize", "()I"⟩, 23) := ⟨⟨by decide +kernel, by decide +kernel⟩, List.mem_of_getElem? (i := 539) (by decide +kernel), List.mem_of_getElem? (i := 662) (by decide +kernel), List.mem_of_getElem? (i := 663) (by decide +kernel)⟩
theorem lw_p20 : lw_okq (⟨"FragmentLogModel", "put", "(I)V"⟩, 23) := ⟨⟨by decide +kernel, by decide +kernel⟩, List.mem_of_getElem? (i := 539) (by decide +kernel), List.mem_of_getElem? (i := 666) (by decide +kernel), List.mem_of_getElem? (i := 667) (by decide +kernel)⟩
theorem lw_p21 : lw_okq (⟨"FragmentLogModel", "putFragment", "(III)V"⟩, 23) := ⟨⟨by decide +kernel, by decide +kernel⟩, List.mem_of_getElem? (i := 539) (by decide +kernel), List.mem_of_getElem? (i := 670) (by decide +kernel), List.mem_of_getElem? (i := 671) (by decide +kernel)⟩
theorem lw_p22 : lw_okq (⟨"FragmentLogModel", "fragment", "()I"⟩, 23) := ⟨⟨by decide +kernel, by decide +kernel⟩, List.mem_of_getElem? (i := 539) (by decide +kernel), List.mem_of_getElem? (i := 694) (by decide +kernel), List.mem_of_getElem? (i := 695) (by decide +kernel)⟩
theorem lw_p23 : lw_okq (⟨"FragmentLogModel", "tell", "(II)V"⟩, 23) := ⟨⟨by decide +kernel, by decide +kernel⟩, List.mem_of_getElem? (i := 539) (by decide +kernel), List.mem_of_getElem? (i := 698) (by decide +kernel), List.mem_of_getElem? (i := 699) (by decide +kernel)⟩
theorem lw_p24 : lw_okq (⟨"FragmentLogModel", "passOn", "(I)Z"⟩, 23) := ⟨⟨by decide +kernel, by decide +kernel⟩, List.mem_of_getElem? (i := 539) (by decide +kernel), List.mem_of_getElem? (i := 702) (by decide +kernel), List.mem_of_getElem? (i := 703) (by decide +kernel)⟩
theorem lw_p25 : lw_okq (⟨"FragmentLogModel", "drop", "()V"⟩, 23) := ⟨⟨by decide +kernel, by decide +kernel⟩, List.mem_of_getElem? (i := 539) (by decide +kernel), List.mem_of_getElem? (i := 706) (by decide +kernel), List.mem_of_getElem? (i := 707) (by decide +kernel)⟩
theorem lw_p26 : lw_okq (⟨"FragmentLogModel", "start", "()V"⟩, 23) := ⟨⟨by decide +kernel, by decide +kernel⟩, List.mem_of_getElem? (i := 539) (by decide +kernel), List.mem_of_getElem? (i := 710) (by decide +kernel), List.mem_of_getElem? (i := 711) (by decide +kernel)⟩
theorem lw_p27 : lw_okq (⟨"FragmentLogModel", "take", "()V"⟩, 23) := ⟨⟨by decide +kernel, by decide +kernel⟩, List.mem_of_getElem? (i := 539) (by decide +kernel), List.mem_of_getElem? (i := 714) (by decide +kernel), List.mem_of_getElem? (i := 715) (by decide +kernel)⟩
theorem lw_p28 : lw_okq (⟨"FragmentLogModel", "finish", "()V"⟩, 23) := ⟨⟨by decide +kernel, by decide +kernel⟩, List.mem_of_getElem? (i := 539) (by decide +kernel), List.mem_of_getElem? (i := 718) (by decide +kernel), List.mem_of_getElem? (i := 719) (by decide +kernel)⟩
def lw_privs_2 : List (MethodName × Nat) := [(⟨"FragmentLogModel", "refused", "(I)Z"⟩, 23), (⟨"FragmentLogModel", "beginAt", "(I)V"⟩, 23), (⟨"FragmentLogModel", "checkOf", "(III)I"⟩, 23), (⟨"FragmentLogModel", "appendedSize", "()I"⟩, 23), (⟨"FragmentLogModel", "put", "(I)V"⟩, 23), (⟨"FragmentLogModel", "putFragment", "(III)V"⟩, 23), (⟨"FragmentLogModel", "fragment", "()I"⟩, 23), (⟨"FragmentLogModel", "tell", "(II)V"⟩, 23), (⟨"FragmentLogModel", "passOn", "(I)Z"⟩, 23), (⟨"FragmentLogModel", "drop", "()V"⟩, 23), (⟨"FragmentLogModel", "start", "()V"⟩, 23), (⟨"FragmentLogModel", "take", "()V"⟩, 23), (⟨"FragmentLogModel", "finish", "()V"⟩, 23)]
theorem lw_r2 : ∀ q ∈ lw_privs_2, lw_okq q := List.forall_mem_cons.mpr ⟨lw_p16, List.forall_mem_cons.mpr ⟨lw_p17, List.forall_mem_cons.mpr ⟨lw_p18, List.forall_mem_cons.mpr ⟨lw_p19, List.forall_mem_cons.mpr ⟨lw_p20, List.forall_mem_cons.mpr ⟨lw_p21, List.forall_mem_cons.mpr ⟨lw_p22, List.forall_mem_cons.mpr ⟨lw_p23, List.forall_mem_cons.mpr ⟨lw_p24, List.forall_mem_cons.mpr ⟨lw_p25, List.forall_mem_cons.mpr ⟨lw_p26, List.forall_mem_cons.mpr ⟨lw_p27, List.forall_mem_cons.mpr ⟨lw_p28, fun _ h => absurd h List.not_mem_nil⟩⟩⟩⟩⟩⟩⟩⟩⟩⟩⟩⟩⟩
def lw_privs : List (MethodName × Nat) := lw_privs_1 ++ (lw_privs_2)
def lw_tbl : List Cond := k2_sels lw_privs ++ tables_1
theorem lw_privs_ok : ∀ q ∈ lw_privs, lw_okq q := by
  show ∀ q ∈ lw_privs_1 ++ (lw_privs_2), lw_okq q
  exact List.forall_mem_append.mpr ⟨lw_r1, lw_r2⟩
end
section
/-! ===== BEGIN words of one list among another's, by their places ===== -/
theorem goodIn_r {big : List Cond} (ws : List Cond) (ps : List Nat) (hp : ws = ps.filterMap (fun i => big[i]?)) (h : ws.all goodWord = true) : GoodIn big ws := by
  intro w hw
  have h1 := List.all_eq_true.mp h w hw
  rw [hp] at hw
  obtain ⟨i, -, hi⟩ := List.mem_filterMap.mp hw
  have hm : w ∈ big := by first | exact List.mem_of_getElem? hi | exact List.getElem?_mem hi
  exact ⟨hm, good_of_word h1⟩
theorem goodIn_app {big a b : List Cond} (ha : GoodIn big a) (hb : GoodIn big b) : GoodIn big (a ++ b) := fun w h => (List.mem_append.mp h).elim (ha w) (hb w)
theorem goodIn_ca {big a b : List Cond} {c : Cond} (ha : GoodIn big (c :: a)) (hb : GoodIn big b) : GoodIn big (c :: (a ++ b)) := fun w h => (List.mem_cons.mp h).elim (fun e => ha w (List.mem_cons.mpr (Or.inl e))) (fun h => (List.mem_append.mp h).elim (fun h => ha w (List.mem_cons.mpr (Or.inr h))) (hb w))
theorem goodIn_sub {big ws : List Cond} (hm : ∀ w ∈ ws, w ∈ big) (h : ws.all goodWord = true) : GoodIn big ws := fun w hw => ⟨hm w hw, good_of_word (List.all_eq_true.mp h w hw)⟩
/-! ===== END ===== -/

/-! ===== BEGIN exceptions that leave a method, and their catching by the caller (launches without stack traces) ===== -/
section VXA
/-! The laws vx_back, vx_callV, vx_callS, vx_callSW, vx_throw0, vx_throwS follow proofs of the library, with one case more: JvmDerived/Free/Laws.lean (Back.of_free), Shelf42/LK1.lean (callV, callS), Shelf/KitTraced.lean (throwNew0V, throwNewS). -/
/-- where a method has thrown q: the class by its name, the cell, what was written, the world -/
def vx_T (XC : String → State → State → Prop) (st : State) (q : Addr) (t : State) (mc ms : Nat) (free : Addr → Prop) : Prop :=
  ∃ (E : String) (ce : Cell) (L : List Loc), XC E st t ∧ t.heap[q]? = some ce ∧ ce.vm = .none ∧ st.vm.findClass E = some ce.cls ∧ st.WarmedH t.vm ∧ st.sameButNew ({ t with vm := st.vm } : State) L mc ms ∧ ∀ z ∈ L, free z.base
def vx_Q (Qc : Array Value → State → Outcome → State → Prop) (XC : String → State → State → Prop) (mc ms : Nat) (free : Addr → Prop) : Array Value → State → Outcome → State → Prop := fun a st o t =>
  (Qc a st o t ∧ ∃ L, FrameEnd st o t L mc ms ∧ ∀ q ∈ L, free q.base) ∨ ∃ q, o = .threw q ∧ vx_T XC st q t mc ms free
/-- a callee that returns or throws -/
def vx_Met (l : Launch) (y : MethodName) (ws : List Cond) (rm : Room) (Pc : Array Value → State → Prop) (Qc : Array Value → State → Outcome → State → Prop) (XC : String → State → State → Prop) (mc ms : Nat) (free : Addr → Prop) : Prop :=
  MetFree l y (headSpec ws rm) Pc (fun _ _ _ _ _ => True) (vx_Q Qc XC mc ms free)
def vx_Post (XC : String → State → State → Prop) (mc ms : Nat) (free : Addr → Prop) : Pt → Array Value → Addr → Pt → Prop := fun A a q B =>
  ∃ (g : JFrame) (mk : MethodId) (t : State) (L : List Loc) (E : String) (ce : Cell), B.U.heap = t.heap ∧ B.U.vm = t.vm ∧ XC E (A.U.calling g mk a) t ∧ t.heap[q]? = some ce ∧ ce.vm = .none ∧ A.U.vm.findClass E = some ce.cls ∧ B.locs = A.locs ++ L ∧ (∀ z ∈ L, free z.base) ∧ B.cells = A.cells + mc ∧ B.slots = A.slots + ms
def vx_Back (l : Launch) (R : Room) (p : Program) (e : Env) (below : List Frame) (s : State) (sargs : Array Value) (y : MethodName) (len W9 : Nat)
    (Pre : Pt → Array Value → Prop) (Post : Pt → Array Value → Option Value → Pt → Prop) (PostX : Pt → Array Value → Addr → Pt → Prop) : Prop :=
  ∀ (m : MethodId) (meth : Method) (c : Code) (A : Pt) (g : JFrame) (ig : Instr) (mk : MethodId) (a : Array Value),
    Stand p l e R s m sargs below meth c A.U A.locs A.cells A.slots → g.method = m → g.locals.size = c.maxLocals → decode c.code g.pc = .ok (ig, len) →
    2 * g.monitorRoom + (g.stack.map fun v => v.category).sum ≤ W9 → A.U.methodNamed? y = some mk → Pre A a →
    (∃ (v : Option Value) (B : Pt), Stand p l e R s m sargs below meth c B.U B.locs B.cells B.slots ∧ Post A a v B ∧
      Steps p.tables e below (doInvoke e (A.U.setTop g) [] mk a).1 (B.U.setTop { g with pc := g.pc + len, stack := v.toList ++ g.stack })) ∨
    (∃ (q : Addr) (B : Pt), Stand p l e R s m sargs below meth c B.U B.locs B.cells B.slots ∧ PostX A a q B ∧
      Steps p.tables e below (doInvoke e (A.U.setTop g) [] mk a).1 ((B.U.setTop g).pushFrame (.throwing q)))
section Payer
variable {l : Launch} {R : Room} {p : Program} {e : Env} {below : List Frame} {s : State} {sargs : Array Value} {y : MethodName} {len W9 : Nat}
theorem vx_back {ws : List Cond} {rm : Room} {Pc : Array Value → State → Prop} {Qc : Array Value → State → Outcome → State → Prop} {XC : String → State → State → Prop} {mc ms : Nat} {free : Addr → Prop} {bytes : ByteArray} {maxL : Nat} {ret : Option FieldType}
    (hM : vx_Met l y ws rm Pc Qc XC mc ms free) (hblind : FrameBlind Pc) (hrc : rm.cells = mc) (hrs : rm.slots = ms)
    (hframes : rm.frames + 1 ≤ R.frames) (hlocals : W9 + (maxL + 11) + rm.locals ≤ R.locals)
    (hws : ∀ w ∈ ws, ∀ a' U, s.WarmedH U.vm → w.before a' U = true) (hcode : Cond.code y bytes maxL ret ∈ ws) (hinit : ∀ a' U, s.WarmedH U.vm → (Cond.initialized y.cls).before a' U = true) :
    vx_Back l R p e below s sargs y len W9 (PreOf R mc ms Pc) (PostOf Qc mc ms free) (vx_Post XC mc ms free) := by
  intro m meth c A g ig mk a X hg hsize hdg hW hn hp
  have h1 : (headSpec ws rm).pre.before a A.U = true := atoms_intro fun w hw => hws w hw _ _ X.warmed
  have h2 : (Cond.code y bytes maxL ret).before a A.U = true := hws _ hcode _ _ X.warmed
  have h3 : (Cond.initialized y.cls).before a A.U = true := hinit _ _ X.warmed
  have h4 : A.cells + (headSpec ws rm).room.cells ≤ R.cells := by rw [show (headSpec ws rm).room.cells = mc from hrc]; exact hp.1
  have h5 : A.slots + (headSpec ws rm).room.slots ≤ R.slots := by rw [show (headSpec ws rm).room.slots = ms from hrs]; exact hp.2.1
  have hPc : Pc a (A.U.calling g mk a) := hblind _ _ _ _ hp.2.2
  obtain ⟨U, Ls, c0, s0⟩ := A
  dsimp only [Pt.U, Pt.locs, Pt.cells, Pt.slots] at h1 h2 h3 h4 h5 X hn hPc ⊢
  obtain ⟨methY, cY, hmY, hcY, -, hlY, -, -, -, -⟩ := Cond.code_spec hn h2
  obtain ⟨kY, hkY, -⟩ := className_of_methodNamed hn
  have hinitY : kY.init = .initialized := Cond.initialized_spec (findClass_of_methodNamed hn) hkY h3
  have h : At U g.method c below := by rw [hg]; exact X.here
  have hlocals9 : W9 + (maxL + 11) + (headSpec ws rm).room.locals ≤ R.locals := hlocals
  have happ : (headSpec ws rm).appliesLoose y e.platform (U.calling g mk a) = true :=
    Spec.appliesLoose_calling (g := g) h hdg hn hkY hinitY
      (X.room_calling (g := g) (R' := (headSpec ws rm).room) hsize hmY hcY hframes (by rw [hlY]; omega) h4 h5) h1
  obtain ⟨mid, hmid⟩ := h.above
  have hfr : (U.setTop g).frames = (.java g :: mid) ++ below := by rw [State.frames_setTop' g h.top, hmid]; rfl
  obtain ⟨o, s₂, hsteps, -, hend, hq⟩ := Steps.callFree hM p X.admits X.cas X.clock (acts := []) hfr happ hPc trivial
  have hq' : vx_Q Qc XC mc ms free a (U.calling g mk a) o s₂ := hq
  rw [State.frames_setTop' g h.top] at hend
  obtain ⟨g₀, hg0⟩ := Option.isSome_iff_exists.mp h.top
  obtain ⟨r, hr⟩ := State.topJava?_eq_some.mp hg0
  have hr' : (({ U with heap := s₂.heap, slotsUsed := s₂.slotsUsed } : State).setVm s₂.vm).frames = .java g₀ :: r := hr
  rcases hq' with ⟨hqc, L, hfe, hL⟩ | ⟨q, rfl, E, ce, L, hx, hce, hcv, hcl, hW₂, hsm, hL⟩
  · obtain ⟨⟨v, rfl⟩, hW₂, e2, q2, q3, q4, q5, q6⟩ := id hfe
    have e3 : s₂ = ({ (U.calling g mk a).setFrames s₂.frames with heap := s₂.heap, slotsUsed := s₂.slotsUsed } : State).setVm s₂.vm := by
      have : s₂ = ({ s₂ with vm := (U.calling g mk a).vm } : State).setVm s₂.vm := rfl
      rw [e2] at this
      exact this
    obtain ⟨c₂, i₂, len₂, hc₂, hd₂, hf₂⟩ := hend
    have hW' : U.WarmedH s₂.vm := hW₂
    have hcc : c₂ = c := by
      have h1 : s₂.code? g.method = U.code? g.method := by
        rw [State.code?_eq, State.code?_eq, hW'.alike.method?]
      exact Option.some.inj (hc₂.symm.trans (h1.trans h.code))
    subst hcc
    have hlen : len₂ = len := by rw [hdg] at hd₂; cases hd₂; rfl
    subst hlen
    have hs₂ : s₂ = (({ U with heap := s₂.heap, slotsUsed := s₂.slotsUsed } : State).setVm s₂.vm).setTop { g with pc := g.pc + len₂, stack := v.toList ++ g.stack } := by
      refine e3.trans ?_
      rw [hf₂, State.calling_eq h.top, State.setFrames_setFrames, State.setTop_of_frames _ hr', hr]
      rfl
    have hsame : U.sameButNew ({ U with heap := s₂.heap, slotsUsed := s₂.slotsUsed } : State) L mc ms := by
      refine ⟨?_, q2, q3, q4, q5, q6⟩
      obtain ⟨t, ht, -⟩ := State.frames_cons hr
      show ({ U with heap := s₂.heap, slotsUsed := s₂.slotsUsed } : State) = { U.setFrames U.frames with heap := s₂.heap, slotsUsed := s₂.slotsUsed }
      rw [State.setFrames_self ht]
    subst hg
    refine Or.inl ⟨v, ⟨(({ U with heap := s₂.heap, slotsUsed := s₂.slotsUsed } : State).setVm s₂.vm), Ls ++ L, c0 + mc, s0 + ms⟩,
      ⟨X.admits, X.cas, X.clock, X.frames, X.room, X.hears, X.method, X.code, (X.here.setHeapUsed s₂.heap s₂.slotsUsed).setVm hW'.alike, X.tail, State.WarmedH.trans X.warmed hW', X.limits, X.bytes, X.same.trans (hsame.setVm s.vm)⟩,
      ⟨g, mk, s₂, L, rfl, rfl, hqc, rfl, hL, rfl, rfl⟩, ?_⟩
    show Steps p.tables e below _ ((({ U with heap := s₂.heap, slotsUsed := s₂.slotsUsed } : State).setVm s₂.vm).setTop { g with pc := g.pc + len₂, stack := v.toList ++ g.stack })
    rw [← hs₂]
    exact hsteps
  · obtain ⟨e2, q2, q3, q4, q5, q6⟩ := id hsm
    have e3 : s₂ = ({ (U.calling g mk a).setFrames s₂.frames with heap := s₂.heap, slotsUsed := s₂.slotsUsed } : State).setVm s₂.vm := by
      have : s₂ = ({ s₂ with vm := (U.calling g mk a).vm } : State).setVm s₂.vm := rfl
      rw [e2] at this
      exact this
    have hf₂ : s₂.frames = .throwing q :: .java g :: U.frames.tail := hend
    have hW' : U.WarmedH s₂.vm := hW₂
    have hs₂ : s₂ = ((({ U with heap := s₂.heap, slotsUsed := s₂.slotsUsed } : State).setVm s₂.vm).setTop g).pushFrame (.throwing q) := by
      refine e3.trans ?_
      rw [hf₂, State.calling_eq h.top, State.setFrames_setFrames, State.pushFrame, State.frames_setTop _ hr', State.setTop_of_frames _ hr', State.setFrames_setFrames, hr]
      rfl
    have hsame : U.sameButNew ({ U with heap := s₂.heap, slotsUsed := s₂.slotsUsed } : State) L mc ms := by
      refine ⟨?_, q2, q3, q4, q5, q6⟩
      obtain ⟨t, ht, -⟩ := State.frames_cons hr
      show ({ U with heap := s₂.heap, slotsUsed := s₂.slotsUsed } : State) = { U.setFrames U.frames with heap := s₂.heap, slotsUsed := s₂.slotsUsed }
      rw [State.setFrames_self ht]
    subst hg
    refine Or.inr ⟨q, ⟨(({ U with heap := s₂.heap, slotsUsed := s₂.slotsUsed } : State).setVm s₂.vm), Ls ++ L, c0 + mc, s0 + ms⟩,
      ⟨X.admits, X.cas, X.clock, X.frames, X.room, X.hears, X.method, X.code, (X.here.setHeapUsed s₂.heap s₂.slotsUsed).setVm hW'.alike, X.tail, State.WarmedH.trans X.warmed hW', X.limits, X.bytes, X.same.trans (hsame.setVm s.vm)⟩,
      ⟨g, mk, s₂, L, E, ce, rfl, rfl, hx, hce, hcv, hcl, rfl, hL, rfl, rfl⟩, ?_⟩
    show Steps p.tables e below _ (((({ U with heap := s₂.heap, slotsUsed := s₂.slotsUsed } : State).setVm s₂.vm).setTop g).pushFrame (.throwing q))
    rw [← hs₂]
    exact hsteps
end Payer
section Calls
variable {p : Program} {l : Launch} {e : Env} {R : Room} {s : State} {m : MethodId} {args : Array Value} {below : List Frame} {meth : Method} {c : Code} {T : State} {locs : List Loc} {cells slots : Nat}
theorem vx_callV (X : Stand p l e R s m args below meth c T locs cells slots) (hexec : p.tables.exec = Jvm.exec) {own C : String} {index : Nat} {y : MethodName} {bytes : ByteArray} {maxL : Nat} {ret : Option FieldType}
    (hown : s.vm.findClass own = some m.cls) (hlink : (Cond.methodLink own index y).before args s = true) (hinst : (Cond.instanceMethod y).before args s = true) (hsel : (Cond.selects C y y).before args s = true)
    (hcode : (Cond.code y bytes maxL ret).before args s = true) (hy : y.cls ≠ "java/lang/invoke/MethodHandle" ∧ y.cls ≠ "java/lang/invoke/VarHandle")
    {W9 : Nat} {Pre : Pt → Array Value → Prop} {Post : Pt → Array Value → Option Value → Pt → Prop} {PostX : Pt → Array Value → Addr → Pt → Prop} (hK : vx_Back l R p e below s args y 3 W9 Pre Post PostX)
    {b : Addr} {cellB : Cell} (hcell : T.heap[b]? = some cellB) (hobj : cellB.vm.isStatics = false) (hcls : s.vm.findClass C = some cellB.cls)
    {g : JFrame} (hg : g.method = m) (hsize : g.locals.size = c.maxLocals) {argsL rest : List Value} (hlen : ∀ sig, parseMethodDescriptor y.desc = some sig → argsL.length = sig.parameters.length)
    (hstack : g.stack = argsL.reverse ++ .ref b :: rest) (hW : 2 * g.monitorRoom + (rest.map fun v => v.category).sum ≤ W9) (hdg : decode c.code g.pc = .ok (.invokevirtual index, 3))
    (hpre : ∀ vm₁, s.WarmedH vm₁ → Pre ⟨T.setVm vm₁, locs, cells, slots⟩ (Value.ref b :: argsL).toArray) :
    (∃ (v : Option Value) (vm₁ : Vm) (B : Pt), s.WarmedH vm₁ ∧ Stand p l e R s m args below meth c B.U B.locs B.cells B.slots ∧ Post ⟨T.setVm vm₁, locs, cells, slots⟩ (Value.ref b :: argsL).toArray v B ∧
      ∀ target, Steps p.tables e below (B.U.setTop { g with pc := g.pc + 3, stack := v.toList ++ rest }) target → Steps p.tables e below (T.setTop g) target) ∨
    (∃ (q : Addr) (vm₁ : Vm) (B : Pt), s.WarmedH vm₁ ∧ Stand p l e R s m args below meth c B.U B.locs B.cells B.slots ∧ PostX ⟨T.setVm vm₁, locs, cells, slots⟩ (Value.ref b :: argsL).toArray q B ∧
      Steps p.tables e below (T.setTop g) ((B.U.setTop { g with stack := rest }).pushFrame (.throwing q))) := by
  obtain ⟨mk, methM, hnamed, hmethM, hstM, habM⟩ := Cond.instanceMethod_spec hinst
  obtain ⟨methM', cM, hmethM', -, -, -, -, -, -, hsigM⟩ := Cond.code_spec hnamed hcode
  cases hmethM.symm.trans hmethM'
  obtain ⟨c2, r2, m2, q1, q2, q3, q4, kP, hkP, hkPi⟩ := Cond.selects_spec hsel
  cases hcls.symm.trans q1
  cases (State.methodFound?_of_named hnamed hy).symm.trans q2
  cases hnamed.symm.trans q3
  have hselP : selectMethod e.platform s.vm cellB.cls mk = .method mk := by rw [Launch.admits_selectMethod X.admits]; exact q4
  obtain ⟨vm₁, X₁, hstep₁⟩ := X.invokevirtual hexec hown hlink hnamed hmethM hstM hkP hkPi hy (a := b) (cell := cellB) hcell
    (fun z h => by rw [h] at hobj; cases hobj) hselP hmethM habM hkP hkPi (g := g) hg (argsL := argsL) (rest := rest) (hlen _ hsigM) hstack hdg
  rcases hK m meth c ⟨T.setVm vm₁, locs, cells, slots⟩ { g with stack := rest } (.invokevirtual index) mk (Value.ref b :: argsL).toArray X₁ hg hsize hdg hW (X₁.named hnamed) (hpre vm₁ X₁.warmed) with ⟨v, B, X', hpost, hsteps⟩ | ⟨q, B, X', hpost, hsteps⟩
  · exact Or.inl ⟨v, vm₁, B, X₁.warmed, X', hpost, fun target h => hstep₁ _ fun acts => by rw [doInvoke_state]; exact hsteps.trans h⟩
  · exact Or.inr ⟨q, vm₁, B, X₁.warmed, X', hpost, hstep₁ _ fun acts => by rw [doInvoke_state]; exact hsteps⟩
theorem vx_callS (X : Stand p l e R s m args below meth c T locs cells slots) (hexec : p.tables.exec = Jvm.exec) {own : String} {index : Nat} {y : MethodName} {bytes : ByteArray} {maxL : Nat} {ret : Option FieldType}
    (hown : s.vm.findClass own = some m.cls) (hlink : (Cond.methodLink own index y).before args s = true) (hstat : (Cond.static y).before args s = true) (hinit : (Cond.initialized y.cls).before args s = true)
    (hcode : (Cond.code y bytes maxL ret).before args s = true) (hy : y.cls ≠ "java/lang/invoke/MethodHandle" ∧ y.cls ≠ "java/lang/invoke/VarHandle")
    {W9 : Nat} {Pre : Pt → Array Value → Prop} {Post : Pt → Array Value → Option Value → Pt → Prop} {PostX : Pt → Array Value → Addr → Pt → Prop} (hK : vx_Back l R p e below s args y 3 W9 Pre Post PostX)
    {g : JFrame} (hg : g.method = m) (hsize : g.locals.size = c.maxLocals) {argsL rest : List Value} (hlen : ∀ sig, parseMethodDescriptor y.desc = some sig → argsL.length = sig.parameters.length)
    (hstack : g.stack = argsL.reverse ++ rest) (hW : 2 * g.monitorRoom + (rest.map fun v => v.category).sum ≤ W9) (hdg : decode c.code g.pc = .ok (.invokestatic index, 3))
    (hpre : ∀ vm₁, s.WarmedH vm₁ → Pre ⟨T.setVm vm₁, locs, cells, slots⟩ argsL.toArray) :
    (∃ (v : Option Value) (vm₁ : Vm) (B : Pt), s.WarmedH vm₁ ∧ Stand p l e R s m args below meth c B.U B.locs B.cells B.slots ∧ Post ⟨T.setVm vm₁, locs, cells, slots⟩ argsL.toArray v B ∧
      ∀ target, Steps p.tables e below (B.U.setTop { g with pc := g.pc + 3, stack := v.toList ++ rest }) target → Steps p.tables e below (T.setTop g) target) ∨
    (∃ (q : Addr) (vm₁ : Vm) (B : Pt), s.WarmedH vm₁ ∧ Stand p l e R s m args below meth c B.U B.locs B.cells B.slots ∧ PostX ⟨T.setVm vm₁, locs, cells, slots⟩ argsL.toArray q B ∧
      Steps p.tables e below (T.setTop g) ((B.U.setTop { g with stack := rest }).pushFrame (.throwing q))) := by
  obtain ⟨mk, hnamed⟩ := Cond.code_named hcode
  obtain ⟨methM, cM, hmethM, -, -, -, -, -, -, hsigM⟩ := Cond.code_spec hnamed hcode
  have hstatic : methM.isStatic = true := Cond.static_spec hnamed hmethM hstat
  obtain ⟨kP, hkP, -⟩ := className_of_methodNamed hnamed
  have hinitP : kP.init = .initialized := Cond.initialized_spec (findClass_of_methodNamed hnamed) hkP hinit
  obtain ⟨vm₁, X₁, hstep₁⟩ := X.invokestatic hexec hown hlink hnamed hmethM hstatic hkP hinitP hy (g := g) hg (argsL := argsL) (rest := rest) (hlen _ hsigM) hstack hdg
  rcases hK m meth c ⟨T.setVm vm₁, locs, cells, slots⟩ { g with stack := rest } (.invokestatic index) mk argsL.toArray X₁ hg hsize hdg hW (X₁.named hnamed) (hpre vm₁ X₁.warmed) with ⟨v, B, X', hpost, hsteps⟩ | ⟨q, B, X', hpost, hsteps⟩
  · exact Or.inl ⟨v, vm₁, B, X₁.warmed, X', hpost, fun target h => hstep₁ _ fun acts => by rw [doInvoke_state]; exact hsteps.trans h⟩
  · exact Or.inr ⟨q, vm₁, B, X₁.warmed, X', hpost, hstep₁ _ fun acts => by rw [doInvoke_state]; exact hsteps⟩
end Calls
theorem vx_cls {s : State} {T : State} {vm₁ : Vm} {E : String} {k : ClassId} (hW : s.WarmedH vm₁) (h : (T.setVm vm₁).vm.findClass E = some k) : s.vm.findClass E = some k := by
  have h1 : vm₁.findClass E = some k := h
  rw [hW.alike.findClass] at h1
  exact h1
/-- the method's frame g, with q thrown over it -/
def vx_W (p : Program) (l : Launch) (e : Env) (R : Room) (s : State) (m : MethodId) (args : Array Value) (below : List Frame) (meth : Method) (c : Code) (H : Heap) (locs : List Loc) (cells slots : Nat) (Q : State → Prop) (g : JFrame) (q : Addr) : Prop :=
  ∀ T : State, T.heap = H → Stand p l e R s m args below meth c T locs cells slots → ∃ t, Steps p.tables e below ((T.setTop g).pushFrame (.throwing q)) t ∧ Q t
def vx_Run (p : Program) (l : Launch) (e : Env) (R : Room) (s : State) (m : MethodId) (args : Array Value) (below : List Frame) (meth : Method) (c : Code) (H : Heap) (locs : List Loc) (cells slots mc ms : Nat) (g : JFrame) (rest : List Value) (Qa : State → Outcome → State → Prop) (XC : String → State → State → Prop) (free : Addr → Prop) : Prop :=
  ∀ T : State, T.heap = H → Stand p l e R s m args below meth c T locs cells slots →
    (∃ (v : Option Value) (st₀ t T' : State) (L : List Loc), st₀.heap = H ∧ Stand p l e R s m args below meth c T' (locs ++ L) (cells + mc) (slots + ms) ∧ (∀ q ∈ L, free q.base) ∧ T'.heap = t.heap ∧ T'.vm = t.vm ∧ Qa st₀ (.returned v) t ∧
      Goes p e below T g T' { g with pc := g.pc + 3, stack := v.toList ++ rest }) ∨
    (∃ (q : Addr) (st₀ t T' : State) (L : List Loc) (E : String) (ce : Cell), st₀.heap = H ∧ Stand p l e R s m args below meth c T' (locs ++ L) (cells + mc) (slots + ms) ∧ (∀ z ∈ L, free z.base) ∧ T'.heap = t.heap ∧ T'.vm = t.vm ∧ XC E st₀ t ∧ t.heap[q]? = some ce ∧ ce.vm = .none ∧ s.vm.findClass E = some ce.cls ∧
      Steps p.tables e below (T.setTop g) ((T'.setTop { g with stack := rest }).pushFrame (.throwing q)))
def vx_X {S : Type} (px : S → Prop) (B : String → S → State → Prop) (A : Nat → Prop) : String → State → State → Prop := fun E st t => ∃ u : S, px u ∧ B E u t ∧ va_F A st t
section Runs
variable {p : Program} {l : Launch} {e : Env} {R : Room} {s : State} {m : MethodId} {args : Array Value} {below : List Frame} {meth : Method} {c : Code} {H : Heap} {locs : List Loc} {cells slots : Nat}
variable {y : MethodName} {bytes cc : ByteArray} {maxL nL mc ms n index : Nat} {ret : Option FieldType} {ws : List Cond} {rm : Room} {Pc : Array Value → State → Prop} {Qc : Array Value → State → Outcome → State → Prop} {XC : String → State → State → Prop} {free : Addr → Prop} {Ts : List Cond} {own C : String} {b : Addr} {As rest : List Value} {g : JFrame}
theorem vx_callBack (cb : CallB R s args own index y bytes maxL ret ws rm mc ms n) (hM : vx_Met l y ws rm Pc Qc XC mc ms free) (hbl : FrameBlind Pc) : vx_Back l R p e below s args y 3 8 (PreOf R mc ms Pc) (PostOf Qc mc ms free) (vx_Post XC mc ms free) := by
  obtain ⟨hrc, hrs, hfr, hlo, hws, hcw, -, hini, -⟩ := cb
  exact vx_back (bytes := bytes) (maxL := maxL) (ret := ret) hM hbl hrc hrs hfr hlo hws hcw (fun a' U hW => word_at hW (Or.inl (by first | rfl | simp [Cond.onTables, Cond.keeps, Cond.steady])) hini)
theorem vx_runV (S : CallFix p m c cc nL s args Ts own) (hM : vx_Met l y ws rm Pc Qc XC mc ms free) (cw : CallW R s args own C index y bytes maxL ret ws rm mc ms n) (hp : PreV s H C b Pc As)
    (hg : g.method = m) (hn : As.length = n) (hsize : g.locals.size = nL) (hstack : g.stack = As.reverse ++ .ref b :: rest) (hW : 2 * g.monitorRoom + (rest.map fun v => v.category).sum ≤ 8) (hdg : decode cc g.pc = .ok (.invokevirtual index, 3)) (hf : cells + mc ≤ R.cells ∧ slots + ms ≤ R.slots) :
    vx_Run p l e R s m args below meth c H locs cells slots mc ms g rest (Qc (Value.ref b :: As).toArray) XC free := by
  have hK : vx_Back l R p e below s args y 3 8 (PreOf R mc ms Pc) (PostOf Qc mc ms free) (vx_Post XC mc ms free) := vx_callBack cw.1 hM hp.1
  obtain ⟨⟨-, -, -, -, -, -, hcode, -, hy, hlen, hl⟩, hin, hse⟩ := cw
  obtain ⟨hx, hb, hml, ho, -⟩ := S
  obtain ⟨-, ⟨cellB, hcB, hoB, hclB⟩, hPc⟩ := hp
  intro T hT X
  rcases vx_callV X hx (C := C) (bytes := bytes) (maxL := maxL) (ret := ret) ho hl hin hse hcode hy hK (by rw [hT]; exact hcB) hoB hclB hg (hsize.trans hml.symm) (argsL := As) (rest := rest) (fun sig h => hn.trans (hlen sig h)) hstack hW (by rw [hb]; exact hdg)
    (fun vm₁ hW₁ => ⟨hf.1, hf.2, hPc (T.setVm vm₁) hT hW₁⟩) with ⟨v, vm₁, ⟨U', l2, c2, s2⟩, hW₁, X', ⟨g', mk, t, L, e1, e2, hq, h1, hL, h2, h3⟩, st⟩ | ⟨q, vm₁, ⟨U', l2, c2, s2⟩, hW₁, X', ⟨g', mk, t, L, E, ce, e1, e2, hq, hce, hcv, hcl, h1, hL, h2, h3⟩, st⟩
  · dsimp only [Pt.U, Pt.locs, Pt.cells, Pt.slots] at X' e1 e2 h1 h2 h3 st
    subst h1; subst h2; subst h3
    exact Or.inl ⟨v, (T.setVm vm₁).calling g' mk (Value.ref b :: As).toArray, t, U', L, hT, X', hL, e1, e2, hq, st⟩
  · dsimp only [Pt.U, Pt.locs, Pt.cells, Pt.slots] at X' e1 e2 h1 h2 h3 st hcl
    subst h1; subst h2; subst h3
    exact Or.inr ⟨q, (T.setVm vm₁).calling g' mk (Value.ref b :: As).toArray, t, U', L, E, ce, hT, X', hL, e1, e2, hq, hce, hcv, vx_cls hW₁ hcl, st⟩
theorem vx_runS (S : CallFix p m c cc nL s args Ts own) (hM : vx_Met l y ws rm Pc Qc XC mc ms free) (cw : CallB R s args own index y bytes maxL ret ws rm mc ms n ∧ (Cond.static y).before args s = true) (hp : PreS s H Pc As)
    (hg : g.method = m) (hn : As.length = n) (hsize : g.locals.size = nL) (hstack : g.stack = As.reverse ++ rest) (hW : 2 * g.monitorRoom + (rest.map fun v => v.category).sum ≤ 8) (hdg : decode cc g.pc = .ok (.invokestatic index, 3)) (hf : cells + mc ≤ R.cells ∧ slots + ms ≤ R.slots) :
    vx_Run p l e R s m args below meth c H locs cells slots mc ms g rest (Qc As.toArray) XC free := by
  have hK : vx_Back l R p e below s args y 3 8 (PreOf R mc ms Pc) (PostOf Qc mc ms free) (vx_Post XC mc ms free) := vx_callBack cw.1 hM hp.1
  obtain ⟨⟨-, -, -, -, -, -, hcode, hini, hy, hlen, hl⟩, hstt⟩ := cw
  obtain ⟨hx, hb, hml, ho, -⟩ := S
  intro T hT X
  rcases vx_callS X hx (bytes := bytes) (maxL := maxL) (ret := ret) ho hl hstt hini hcode hy hK hg (hsize.trans hml.symm) (argsL := As) (rest := rest) (fun sig h => hn.trans (hlen sig h)) hstack hW (by rw [hb]; exact hdg)
    (fun vm₁ hW₁ => ⟨hf.1, hf.2, hp.2 (T.setVm vm₁) hT hW₁⟩) with ⟨v, vm₁, ⟨U', l2, c2, s2⟩, hW₁, X', ⟨g', mk, t, L, e1, e2, hq, h1, hL, h2, h3⟩, st⟩ | ⟨q, vm₁, ⟨U', l2, c2, s2⟩, hW₁, X', ⟨g', mk, t, L, E, ce, e1, e2, hq, hce, hcv, hcl, h1, hL, h2, h3⟩, st⟩
  · dsimp only [Pt.U, Pt.locs, Pt.cells, Pt.slots] at X' e1 e2 h1 h2 h3 st
    subst h1; subst h2; subst h3
    exact Or.inl ⟨v, (T.setVm vm₁).calling g' mk As.toArray, t, U', L, hT, X', hL, e1, e2, hq, st⟩
  · dsimp only [Pt.U, Pt.locs, Pt.cells, Pt.slots] at X' e1 e2 h1 h2 h3 st hcl
    subst h1; subst h2; subst h3
    exact Or.inr ⟨q, (T.setVm vm₁).calling g' mk As.toArray, t, U', L, E, ce, hT, X', hL, e1, e2, hq, hce, hcv, vx_cls hW₁ hcl, st⟩
end Runs
section Rows
variable {p : Program} {l : Launch} {e : Env} {R : Room} {s : State} {m : MethodId} {args : Array Value} {below : List Frame} {meth : Method} {c : Code} {H : Heap} {locs : List Loc} {cells slots : Nat} {Q : State → Prop}
variable {mc ms : Nat} {free : Addr → Prop} {A0 A1 : Nat → Prop} {H0 : Heap} {a : Array Value} {pc : Nat} {ls : Array Slot} {st0 rest : List Value}
theorem vx_keep {st₀ t T' : State} {L : List Loc} (h0 : st₀.heap = H) (e1 : T'.heap = t.heap) (hS : va_S A0 H0 H locs) (hA : ∀ q, q < H.size → A1 q → A0 q) (hf : ∀ q, free q → A0 q) (hL : ∀ q ∈ L, free q.base) (hF : va_F A1 st₀ t) :
    H.size ≤ T'.heap.size ∧ (∀ q : Nat, q < H.size → ¬ A1 q → T'.heap[q]? = H[q]?) ∧ va_S A0 H0 T'.heap (locs ++ L) := by
  obtain ⟨hz, hk⟩ := hF
  rw [h0] at hz hk
  exact ⟨by rw [e1]; exact hz, fun q h1 h2 => by rw [e1]; exact hk q h1 h2,
    ⟨Nat.le_trans hS.1 (by rw [e1]; exact hz), fun q h1 h2 => by rw [e1, hk q (Nat.lt_of_lt_of_le h1 hS.1) (fun z => h2 (hA q (Nat.lt_of_lt_of_le h1 hS.1) z))]; exact hS.2.1 q h1 h2, fun q hq => by
      rcases List.mem_append.mp hq with h | h
      · exact hS.2.2 q h
      · exact hf _ (hL q h)⟩⟩
theorem vx_calli {S SX : Type} {post : Int32 → S → Prop} {px : SX → Prop} {B : S → State → Prop} {BX : String → SX → State → Prop} {AX : Nat → Prop} (hr : vx_Run p l e R s m args below meth c H locs cells slots mc ms (F0 m pc ls st0) rest (va_Qi post B A1 a) (vx_X px BX AX) free) (hS : va_S A0 H0 H locs) (hA : ∀ q, q < H.size → A1 q → A0 q) (hf : ∀ q, free q → A0 q) (hAX : ∀ q, q < H.size → AX q → A0 q)
    (kx : ∀ (E : String) (ce : Cell) (q9 : Addr) (u : SX) (t : State) (H1 : Heap) (locs1 : List Loc), t.heap = H1 → s.vm.Alike t.vm → px u → BX E u t → H.size ≤ H1.size → (∀ q : Nat, q < H.size → ¬ AX q → H1[q]? = H[q]?) → va_S A0 H0 H1 locs1 → H1[q9]? = some ce → ce.vm = .none → s.vm.findClass E = some ce.cls → vx_W p l e R s m args below meth c H1 locs1 (cells + mc) (slots + ms) Q (F0 m pc ls rest) q9)
    (kk : ∀ (r : Int32) (u : S) (t : State) (H1 : Heap) (locs1 : List Loc), t.heap = H1 → s.vm.Alike t.vm → post r u → B u t → H.size ≤ H1.size → (∀ q : Nat, q < H.size → ¬ A1 q → H1[q]? = H[q]?) → va_S A0 H0 H1 locs1 → W p l e R s m args below meth c H1 locs1 (cells + mc) (slots + ms) Q (F0 m (pc + 3) ls (.int r :: rest))) : W p l e R s m args below meth c H locs cells slots Q (F0 m pc ls st0) := by
  intro T hT X
  rcases hr T hT X with ⟨v, st₀, t, T', L, h0, X', hL, e1, e2, ⟨⟨r, u, hv, hp, hb⟩, hF⟩, st⟩ | ⟨q, st₀, t, T', L, E, ce, h0, X', hL, e1, e2, ⟨u, hp, hb, hF⟩, hce, hcv, hcl, st⟩
  · cases hv
    obtain ⟨k1, k2, k3⟩ := vx_keep h0 e1 hS hA hf hL hF
    obtain ⟨t2, a1, b1⟩ := kk r u t T'.heap (locs ++ L) e1.symm (by rw [← e2]; exact X'.warmed.alike) hp hb k1 k2 k3 T' rfl X'
    exact ⟨t2, st t2 a1, b1⟩
  · obtain ⟨k1, k2, k3⟩ := vx_keep h0 e1 hS hAX hf hL hF
    obtain ⟨t2, a1, b1⟩ := kx E ce q u t T'.heap (locs ++ L) e1.symm (by rw [← e2]; exact X'.warmed.alike) hp hb k1 k2 k3 (by rw [e1]; exact hce) hcv hcl T' rfl X'
    exact ⟨t2, st.trans a1, b1⟩
theorem vx_calll {S SX : Type} {post : Int64 → S → Prop} {px : SX → Prop} {B : S → State → Prop} {BX : String → SX → State → Prop} {AX : Nat → Prop} (hr : vx_Run p l e R s m args below meth c H locs cells slots mc ms (F0 m pc ls st0) rest (va_Ql post B A1 a) (vx_X px BX AX) free) (hS : va_S A0 H0 H locs) (hA : ∀ q, q < H.size → A1 q → A0 q) (hf : ∀ q, free q → A0 q) (hAX : ∀ q, q < H.size → AX q → A0 q)
    (kx : ∀ (E : String) (ce : Cell) (q9 : Addr) (u : SX) (t : State) (H1 : Heap) (locs1 : List Loc), t.heap = H1 → s.vm.Alike t.vm → px u → BX E u t → H.size ≤ H1.size → (∀ q : Nat, q < H.size → ¬ AX q → H1[q]? = H[q]?) → va_S A0 H0 H1 locs1 → H1[q9]? = some ce → ce.vm = .none → s.vm.findClass E = some ce.cls → vx_W p l e R s m args below meth c H1 locs1 (cells + mc) (slots + ms) Q (F0 m pc ls rest) q9)
    (kk : ∀ (r : Int64) (u : S) (t : State) (H1 : Heap) (locs1 : List Loc), t.heap = H1 → s.vm.Alike t.vm → post r u → B u t → H.size ≤ H1.size → (∀ q : Nat, q < H.size → ¬ A1 q → H1[q]? = H[q]?) → va_S A0 H0 H1 locs1 → W p l e R s m args below meth c H1 locs1 (cells + mc) (slots + ms) Q (F0 m (pc + 3) ls (.long r :: rest))) : W p l e R s m args below meth c H locs cells slots Q (F0 m pc ls st0) := by
  intro T hT X
  rcases hr T hT X with ⟨v, st₀, t, T', L, h0, X', hL, e1, e2, ⟨⟨r, u, hv, hp, hb⟩, hF⟩, st⟩ | ⟨q, st₀, t, T', L, E, ce, h0, X', hL, e1, e2, ⟨u, hp, hb, hF⟩, hce, hcv, hcl, st⟩
  · cases hv
    obtain ⟨k1, k2, k3⟩ := vx_keep h0 e1 hS hA hf hL hF
    obtain ⟨t2, a1, b1⟩ := kk r u t T'.heap (locs ++ L) e1.symm (by rw [← e2]; exact X'.warmed.alike) hp hb k1 k2 k3 T' rfl X'
    exact ⟨t2, st t2 a1, b1⟩
  · obtain ⟨k1, k2, k3⟩ := vx_keep h0 e1 hS hAX hf hL hF
    obtain ⟨t2, a1, b1⟩ := kx E ce q u t T'.heap (locs ++ L) e1.symm (by rw [← e2]; exact X'.warmed.alike) hp hb k1 k2 k3 (by rw [e1]; exact hce) hcv hcl T' rfl X'
    exact ⟨t2, st.trans a1, b1⟩
theorem vx_callf {S SX : Type} {post : UInt32 → S → Prop} {px : SX → Prop} {B : S → State → Prop} {BX : String → SX → State → Prop} {AX : Nat → Prop} (hr : vx_Run p l e R s m args below meth c H locs cells slots mc ms (F0 m pc ls st0) rest (va_Qf post B A1 a) (vx_X px BX AX) free) (hS : va_S A0 H0 H locs) (hA : ∀ q, q < H.size → A1 q → A0 q) (hf : ∀ q, free q → A0 q) (hAX : ∀ q, q < H.size → AX q → A0 q)
    (kx : ∀ (E : String) (ce : Cell) (q9 : Addr) (u : SX) (t : State) (H1 : Heap) (locs1 : List Loc), t.heap = H1 → s.vm.Alike t.vm → px u → BX E u t → H.size ≤ H1.size → (∀ q : Nat, q < H.size → ¬ AX q → H1[q]? = H[q]?) → va_S A0 H0 H1 locs1 → H1[q9]? = some ce → ce.vm = .none → s.vm.findClass E = some ce.cls → vx_W p l e R s m args below meth c H1 locs1 (cells + mc) (slots + ms) Q (F0 m pc ls rest) q9)
    (kk : ∀ (r : UInt32) (u : S) (t : State) (H1 : Heap) (locs1 : List Loc), t.heap = H1 → s.vm.Alike t.vm → post r u → B u t → H.size ≤ H1.size → (∀ q : Nat, q < H.size → ¬ A1 q → H1[q]? = H[q]?) → va_S A0 H0 H1 locs1 → W p l e R s m args below meth c H1 locs1 (cells + mc) (slots + ms) Q (F0 m (pc + 3) ls (.float r :: rest))) : W p l e R s m args below meth c H locs cells slots Q (F0 m pc ls st0) := by
  intro T hT X
  rcases hr T hT X with ⟨v, st₀, t, T', L, h0, X', hL, e1, e2, ⟨⟨r, u, hv, hp, hb⟩, hF⟩, st⟩ | ⟨q, st₀, t, T', L, E, ce, h0, X', hL, e1, e2, ⟨u, hp, hb, hF⟩, hce, hcv, hcl, st⟩
  · cases hv
    obtain ⟨k1, k2, k3⟩ := vx_keep h0 e1 hS hA hf hL hF
    obtain ⟨t2, a1, b1⟩ := kk r u t T'.heap (locs ++ L) e1.symm (by rw [← e2]; exact X'.warmed.alike) hp hb k1 k2 k3 T' rfl X'
    exact ⟨t2, st t2 a1, b1⟩
  · obtain ⟨k1, k2, k3⟩ := vx_keep h0 e1 hS hAX hf hL hF
    obtain ⟨t2, a1, b1⟩ := kx E ce q u t T'.heap (locs ++ L) e1.symm (by rw [← e2]; exact X'.warmed.alike) hp hb k1 k2 k3 (by rw [e1]; exact hce) hcv hcl T' rfl X'
    exact ⟨t2, st.trans a1, b1⟩
theorem vx_calld {S SX : Type} {post : UInt64 → S → Prop} {px : SX → Prop} {B : S → State → Prop} {BX : String → SX → State → Prop} {AX : Nat → Prop} (hr : vx_Run p l e R s m args below meth c H locs cells slots mc ms (F0 m pc ls st0) rest (va_Qd post B A1 a) (vx_X px BX AX) free) (hS : va_S A0 H0 H locs) (hA : ∀ q, q < H.size → A1 q → A0 q) (hf : ∀ q, free q → A0 q) (hAX : ∀ q, q < H.size → AX q → A0 q)
    (kx : ∀ (E : String) (ce : Cell) (q9 : Addr) (u : SX) (t : State) (H1 : Heap) (locs1 : List Loc), t.heap = H1 → s.vm.Alike t.vm → px u → BX E u t → H.size ≤ H1.size → (∀ q : Nat, q < H.size → ¬ AX q → H1[q]? = H[q]?) → va_S A0 H0 H1 locs1 → H1[q9]? = some ce → ce.vm = .none → s.vm.findClass E = some ce.cls → vx_W p l e R s m args below meth c H1 locs1 (cells + mc) (slots + ms) Q (F0 m pc ls rest) q9)
    (kk : ∀ (r : UInt64) (u : S) (t : State) (H1 : Heap) (locs1 : List Loc), t.heap = H1 → s.vm.Alike t.vm → post r u → B u t → H.size ≤ H1.size → (∀ q : Nat, q < H.size → ¬ A1 q → H1[q]? = H[q]?) → va_S A0 H0 H1 locs1 → W p l e R s m args below meth c H1 locs1 (cells + mc) (slots + ms) Q (F0 m (pc + 3) ls (.double r :: rest))) : W p l e R s m args below meth c H locs cells slots Q (F0 m pc ls st0) := by
  intro T hT X
  rcases hr T hT X with ⟨v, st₀, t, T', L, h0, X', hL, e1, e2, ⟨⟨r, u, hv, hp, hb⟩, hF⟩, st⟩ | ⟨q, st₀, t, T', L, E, ce, h0, X', hL, e1, e2, ⟨u, hp, hb, hF⟩, hce, hcv, hcl, st⟩
  · cases hv
    obtain ⟨k1, k2, k3⟩ := vx_keep h0 e1 hS hA hf hL hF
    obtain ⟨t2, a1, b1⟩ := kk r u t T'.heap (locs ++ L) e1.symm (by rw [← e2]; exact X'.warmed.alike) hp hb k1 k2 k3 T' rfl X'
    exact ⟨t2, st t2 a1, b1⟩
  · obtain ⟨k1, k2, k3⟩ := vx_keep h0 e1 hS hAX hf hL hF
    obtain ⟨t2, a1, b1⟩ := kx E ce q u t T'.heap (locs ++ L) e1.symm (by rw [← e2]; exact X'.warmed.alike) hp hb k1 k2 k3 (by rw [e1]; exact hce) hcv hcl T' rfl X'
    exact ⟨t2, st.trans a1, b1⟩
theorem vx_callv {S SX : Type} {post : S → Prop} {px : SX → Prop} {B : S → State → Prop} {BX : String → SX → State → Prop} {AX : Nat → Prop} (hr : vx_Run p l e R s m args below meth c H locs cells slots mc ms (F0 m pc ls st0) rest (va_Qv post B A1 a) (vx_X px BX AX) free) (hS : va_S A0 H0 H locs) (hA : ∀ q, q < H.size → A1 q → A0 q) (hf : ∀ q, free q → A0 q) (hAX : ∀ q, q < H.size → AX q → A0 q)
    (kx : ∀ (E : String) (ce : Cell) (q9 : Addr) (u : SX) (t : State) (H1 : Heap) (locs1 : List Loc), t.heap = H1 → s.vm.Alike t.vm → px u → BX E u t → H.size ≤ H1.size → (∀ q : Nat, q < H.size → ¬ AX q → H1[q]? = H[q]?) → va_S A0 H0 H1 locs1 → H1[q9]? = some ce → ce.vm = .none → s.vm.findClass E = some ce.cls → vx_W p l e R s m args below meth c H1 locs1 (cells + mc) (slots + ms) Q (F0 m pc ls rest) q9)
    (kk : ∀ (u : S) (t : State) (H1 : Heap) (locs1 : List Loc), t.heap = H1 → s.vm.Alike t.vm → post u → B u t → H.size ≤ H1.size → (∀ q : Nat, q < H.size → ¬ A1 q → H1[q]? = H[q]?) → va_S A0 H0 H1 locs1 → W p l e R s m args below meth c H1 locs1 (cells + mc) (slots + ms) Q (F0 m (pc + 3) ls (rest))) : W p l e R s m args below meth c H locs cells slots Q (F0 m pc ls st0) := by
  intro T hT X
  rcases hr T hT X with ⟨v, st₀, t, T', L, h0, X', hL, e1, e2, ⟨⟨u, hv, hp, hb⟩, hF⟩, st⟩ | ⟨q, st₀, t, T', L, E, ce, h0, X', hL, e1, e2, ⟨u, hp, hb, hF⟩, hce, hcv, hcl, st⟩
  · cases hv
    obtain ⟨k1, k2, k3⟩ := vx_keep h0 e1 hS hA hf hL hF
    obtain ⟨t2, a1, b1⟩ := kk u t T'.heap (locs ++ L) e1.symm (by rw [← e2]; exact X'.warmed.alike) hp hb k1 k2 k3 T' rfl X'
    exact ⟨t2, st t2 a1, b1⟩
  · obtain ⟨k1, k2, k3⟩ := vx_keep h0 e1 hS hAX hf hL hF
    obtain ⟨t2, a1, b1⟩ := kx E ce q u t T'.heap (locs ++ L) e1.symm (by rw [← e2]; exact X'.warmed.alike) hp hb k1 k2 k3 (by rw [e1]; exact hce) hcv hcl T' rfl X'
    exact ⟨t2, st.trans a1, b1⟩
end Rows
section Ends
variable {p : Program} {l : Launch} {e : Env} {R : Room} {s : State} {m : MethodId} {args : Array Value} {below : List Frame} {meth : Method} {c : Code} {H : Heap} {locs : List Loc} {cells slots : Nat} {Q : State → Prop}
variable {mc ms : Nat} {free : Addr → Prop} {A0 A1 : Nat → Prop} {H0 : Heap} {a : Array Value} {ls : Array Slot} {st0 rest : List Value}
variable {Qc : Array Value → State → Outcome → State → Prop} {XC : String → State → State → Prop}
/-- what a body that may throw owes at its end -/
def vx_MQ (below : List Frame) (Qc : Array Value → State → Outcome → State → Prop) (XC : String → State → State → Prop) (a : Array Value) (s : State) (mc ms : Nat) (free : Addr → Prop) : State → Prop := fun t =>
  ∃ o, t.status = .running ∧ Ended t below o ∧ vx_Q Qc XC mc ms free a s o t
theorem vx_ret {g : JFrame} {mc ms : Nat} (k : W p l e R s m args below meth c H locs cells slots (MQ below Qc args s mc ms free) g) : W p l e R s m args below meth c H locs cells slots (vx_MQ below Qc XC args s mc ms free) g := by
  intro T hT X
  obtain ⟨t, a1, o, b1, b2, b3, b4⟩ := k T hT X
  exact ⟨t, a1, o, b1, b2, Or.inl ⟨b3, b4⟩⟩
/-- not caught here: it goes on to the caller -/
theorem vx_widen {g : JFrame} {q : Addr} {k n : Nat} (h1 : cells ≤ k) (h2 : slots ≤ n) (kk : vx_W p l e R s m args below meth c H locs k n Q g q) : vx_W p l e R s m args below meth c H locs cells slots Q g q := fun T hT X => kk T hT (stand_widen X h1 h2)
theorem vx_out {pc : Nat} {E : String} {ce : Cell} {q : Addr} {mc ms : Nat} (hout : ∀ x ∈ c.exceptionTable.toList, covers x pc = false) (hlocks : meth.locks = false) (hcell : H[q]? = some ce) (hv : ce.vm = .none) (hcl : s.vm.findClass E = some ce.cls)
    (hx : ∀ t : State, t.heap = H → s.vm.Alike t.vm → XC E s t) (hf : ∀ z ∈ locs, free z.base) (hc : cells ≤ mc) (hs : slots ≤ ms) :
    vx_W p l e R s m args below meth c H locs cells slots (vx_MQ below Qc XC args s mc ms free) (F0 m pc ls rest) q := by
  intro T hT X
  obtain ⟨st1, hrun, hend, hW, hsm⟩ := X.leaveThrown q (g := F0 m pc ls rest) rfl rfl rfl hout hlocks
  have hcell9 : (T.setFrames (.throwing q :: below)).heap[q]? = some ce := by
    show T.heap[q]? = some ce
    rw [hT]; exact hcell
  exact ⟨_, st1, .threw q, hrun, hend, Or.inr ⟨q, rfl, E, ce, locs, hx _ hT hW.alike, hcell9, hv, hcl, hW, hsm.mono hc hs, hf⟩⟩
theorem vx_frame {U : State} {k n : Nat} (h : s.sameButNew ({ U with vm := s.vm } : State) locs k n) : s.heap.size ≤ U.heap.size ∧ ∀ q : Nat, q < s.heap.size → (∀ z ∈ locs, z.base ≠ q) → U.heap[q]? = s.heap[q]? := by
  obtain ⟨-, h2, -, -, -, h6⟩ := h
  refine ⟨h2, fun q hq hz => ?_⟩
  obtain ⟨c9, e1, e2, e3, e4⟩ := h6 q _ (Array.getElem?_eq_getElem hq)
  have hs : c9.slots = (s.heap[q]).slots := Array.ext_getElem? fun i => e4 i fun hm => hz _ hm rfl
  have h9 : c9 = s.heap[q] := by
    rw [hs] at e2
    exact e2
  have e5 : U.heap[q]? = some c9 := e1
  rw [e5, h9, Array.getElem?_eq_getElem hq]
/-- the words of a throw but the four that speak of the heap -/
def vx_no (w : Cond) : Bool := decide (w ≠ .isRef (.static Bundle.tN "UNASSIGNED_STACK" Bundle.steD)) && decide (w ≠ .isRef (.static Bundle.tN "SUPPRESSED_SENTINEL" Bundle.listD)) && decide (w ≠ .laysStatic Bundle.tN "UNASSIGNED_STACK" Bundle.steD) && decide (w ≠ .laysStatic Bundle.tN "SUPPRESSED_SENTINEL" Bundle.listD)
def vx_at0 (own : String) (ic : Nat) (X : String) (names : List String) : List Cond := (Bundle.ownAtoms0 own ic X names).filter vx_no
def vx_atS (own : String) (ic : Nat) (X : String) (names : List String) : List Cond := (Bundle.ownAtoms own ic X names).filter vx_no
/-- a word that the tables alone decide, or a good one -/
def vx_ot (w : Cond) : Bool := w.onTables || goodWord w
theorem vx_ot_at {args a' : Array Value} {s U : State} {w : Cond} (hW : s.WarmedH U.vm) (hvm : s.vm = U.vm) (hg : vx_ot w = true) (h : w.before args s = true) : w.before a' U = true := by
  simp only [vx_ot, Bool.or_eq_true] at hg
  rcases hg with hg | hg
  · exact va_tabs hg hvm h
  · exact word_at hW (good_of_word hg) h
/-- a list's words: the good ones out of the method's own list, the others by premises of their own -/
theorem vx_hat {args : Array Value} {s : State} {L B : List Cond} (h1 : ∀ w ∈ L.filter goodWord, w.before args s = true) (h2 : ∀ w ∈ L.filter (fun w => !goodWord w), w ∈ B) (h3 : ∀ w ∈ B, w.before args s = true) : ∀ w ∈ L, w.before args s = true := by
  intro w hw
  by_cases g : goodWord w = true
  · exact h1 w (List.mem_filter.mpr ⟨hw, g⟩)
  · refine h3 w (h2 w (List.mem_filter.mpr ⟨hw, ?_⟩))
    show (!goodWord w) = true
    cases hgw : goodWord w
    · rfl
    · exact absurd hgw g
theorem vx_c {args : Array Value} {s : State} {w : Cond} {B : List Cond} (h : w.before args s = true) (t : ∀ w ∈ B, w.before args s = true) : ∀ w' ∈ w :: B, w'.before args s = true := fun w' h' => (List.mem_cons.mp h').elim (fun e => by rw [e]; exact h) (t w')
theorem vx_n {args : Array Value} {s : State} : ∀ w ∈ ([] : List Cond), w.before args s = true := fun _ h => nomatch h
theorem vx_own {args : Array Value} {s : State} {L : List Cond} (h1 : ∀ w ∈ L.filter vx_no, w.before args s = true)
    (hU : (Cond.isRef (.static Bundle.tN "UNASSIGNED_STACK" Bundle.steD)).before args s = true) (hN : (Cond.isRef (.static Bundle.tN "SUPPRESSED_SENTINEL" Bundle.listD)).before args s = true)
    (lU : (Cond.laysStatic Bundle.tN "UNASSIGNED_STACK" Bundle.steD).before args s = true) (lN : (Cond.laysStatic Bundle.tN "SUPPRESSED_SENTINEL" Bundle.listD).before args s = true) : ∀ w ∈ L, w.before args s = true := by
  intro w hw
  by_cases e1 : w = .isRef (.static Bundle.tN "UNASSIGNED_STACK" Bundle.steD)
  · rw [e1]; exact hU
  · by_cases e2 : w = .isRef (.static Bundle.tN "SUPPRESSED_SENTINEL" Bundle.listD)
    · rw [e2]; exact hN
    · by_cases e3 : w = .laysStatic Bundle.tN "UNASSIGNED_STACK" Bundle.steD
      · rw [e3]; exact lU
      · by_cases e4 : w = .laysStatic Bundle.tN "SUPPRESSED_SENTINEL" Bundle.listD
        · rw [e4]; exact lN
        · exact h1 w (List.mem_filter.mpr ⟨hw, by unfold vx_no; rw [decide_eq_true e1, decide_eq_true e2, decide_eq_true e3, decide_eq_true e4]; rfl⟩)
/-- where a static field lies, its class's statics cell in H -/
def vx_L (C n d : String) (A : Nat → Prop) (U : State) (H : Heap) : Prop := ∃ (c : ClassId) (k : Class) (i : Nat) (f : Field) (a : Nat) (cell : Cell), U.vm.findClass C = some c ∧ U.fieldFound? C n d = some (c, k, i, f) ∧ f.isStatic = true ∧ k.statics = some a ∧ H[a]? = some cell ∧ cell.vm.isStatics = true ∧ cell.cls = c ∧ f.slot < cell.slots.size ∧ k.staticTypes[f.slot]? = some f.type ∧ ¬ A a
theorem vx_L.moved {C n d : String} {A : Nat → Prop} {u U : State} {H : Heap} (hvm : u.vm.Alike U.vm) (h : vx_L C n d A u H) : vx_L C n d A U H := by
  obtain ⟨c, k, i, f, a, cell, h1, h2, h3, h4, h5, h6, h7, h8, h9, h10⟩ := h
  obtain ⟨k', hi', he⟩ := State.fieldFound?_setVm hvm h2
  exact ⟨c, k', i, f, a, cell, by rw [hvm.findClass]; exact h1, hi', h3, by rw [he]; exact h4, h5, h6, h7, h8, by rw [he]; exact h9, h10⟩
theorem vx_L.kept {C n d : String} {A : Nat → Prop} {U : State} {H H1 : Heap} (h : vx_L C n d A U H) (hq : ∀ a : Nat, a < H.size → ¬ A a → H1[a]? = H[a]?) : vx_L C n d A U H1 := by
  obtain ⟨c, k, i, f, a, cell, h1, h2, h3, h4, h5, h6, h7, h8, h9, h10⟩ := h
  exact ⟨c, k, i, f, a, cell, h1, h2, h3, h4, by rw [hq a (Array.getElem?_eq_some_iff.mp h5).1 h10]; exact h5, h6, h7, h8, h9, h10⟩
theorem vx_L.narrow {C n d : String} {A B : Nat → Prop} {U : State} {H : Heap} (h : vx_L C n d A U H) (hAB : ∀ q, B q → A q) : vx_L C n d B U H := by
  obtain ⟨c, k, i, f, a, cell, h1, h2, h3, h4, h5, h6, h7, h8, h9, h10⟩ := h
  exact ⟨c, k, i, f, a, cell, h1, h2, h3, h4, h5, h6, h7, h8, h9, fun z => h10 (hAB _ z)⟩
theorem vx_L.word {C n d : String} {A : Nat → Prop} {s : State} {args : Array Value} (h : vx_L C n d A s s.heap) : (Cond.laysStatic C n d).before args s = true := by
  obtain ⟨c, k, i, f, a, cell, h1, h2, h3, h4, h5, h6, h7, h8, h9, -⟩ := h
  show (Cond.laysStatic C n d).holds args s none s [] = true
  exact Cond.laysStatic_of h1 h2 h3 h4 h5 h6 h7 h8 h9
/-- .. and what it holds: null or some reference -/
def vx_Zq (C n d : String) (A : Nat → Prop) (U : State) (H : Heap) : Prop := va_Zq C n d A U H ∧ vx_L C n d A U H
theorem vx_Zq.moved {C n d : String} {A : Nat → Prop} {u U : State} {H : Heap} (hvm : u.vm.Alike U.vm) (h : vx_Zq C n d A u H) : vx_Zq C n d A U H := ⟨va_Zq.moved hvm h.1, vx_L.moved hvm h.2⟩
theorem vx_Zq.kept {C n d : String} {A : Nat → Prop} {U : State} {H H1 : Heap} (h : vx_Zq C n d A U H) (hq : ∀ a : Nat, a < H.size → ¬ A a → H1[a]? = H[a]?) : vx_Zq C n d A U H1 := ⟨va_Zq.kept h.1 hq, vx_L.kept h.2 hq⟩
theorem vx_Zq.narrow {C n d : String} {A B : Nat → Prop} {U : State} {H : Heap} (h : vx_Zq C n d A U H) (hAB : ∀ q, B q → A q) : vx_Zq C n d B U H := ⟨va_Zq.narrow h.1 hAB, vx_L.narrow h.2 hAB⟩
theorem vx_Zqof {args : Array Value} {s : State} {C n d : String} {A : Nat → Prop} (hl : (Cond.laysStatic C n d).before args s = true) (hini : (Cond.initialized C).before args s = true) (h : (Cond.isRef (.static C n d)).before args s = true) (hA : ∀ a : Nat, a < s.heap.size → ¬ A a) : vx_Zq C n d A s s.heap := by
  refine ⟨va_Zqof hl hini h hA, ?_⟩
  obtain ⟨c, k, i, f, a, cell, h1, h2, h3, h4, h5, h6, h7, h8, h9⟩ := Cond.laysStatic_spec hl
  exact ⟨c, k, i, f, a, cell, h1, h2, h3, h4, h5, h6, h7, h8, h9, hA a (Array.getElem?_eq_some_iff.mp h5).1⟩
theorem vx_isRef {C n d : String} {v : Value} {A : Nat → Prop} {s : State} {args : Array Value} (h : va_Z C n d v A s s.heap) (hv : v.isRef = true) : (Cond.isRef (.static C n d)).before args s = true := by
  obtain ⟨cf, kf, fi, f, a, cell, h1, h2, h3, h4, h5, h6, h7, -⟩ := h
  have he : (Term.static C n d).eval args s none [] s = some v := by
    simp [Term.eval, State.fieldNamed?, h1, h2, h4, h5, h6, h7]
  simp only [Cond.before, Cond.holds, Cond.value, he]
  cases v <;> simp_all [Value.isRef]
theorem vx_isRefq {C n d : String} {A : Nat → Prop} {s : State} {args : Array Value} (h : va_Zq C n d A s s.heap) : (Cond.isRef (.static C n d)).before args s = true := by
  rcases h with h | ⟨t, h⟩
  · exact vx_isRef h rfl
  · exact vx_isRef h rfl
/-- the same frame, seen from here: as if the method were called anew in this heap -/
theorem vx_rebase {T : State} (X : Stand p l e R s m args below meth c T locs cells slots) {R' : Room} (hf : R'.frames ≤ R.frames) (hl : R'.locals ≤ R.locals) (hc : cells + R'.cells ≤ R.cells) (hs : slots + R'.slots ≤ R.slots) :
    Stand p l e R' ((T.setVm s.vm).setFrames (.invoking m args :: below)) m args below meth c T [] 0 0 := by
  have htop : (T.setVm s.vm).topJava?.isSome := X.here.top
  have hF : ((T.setVm s.vm).setFrames (.invoking m args :: below)).frames = .invoking m args :: below := State.frames_setFrames _ (State.cur_lt_of_top htop)
  obtain ⟨g₀, hg0⟩ := Option.isSome_iff_exists.mp htop
  obtain ⟨r, hr⟩ := State.topJava?_eq_some.mp hg0
  have hl9 : e.platform.stackLimits (T.setVm s.vm).me = e.platform.stackLimits s.me := X.limits
  have hb9 : (T.setVm s.vm).me.stackBytes = s.me.stackBytes := X.bytes
  refine ⟨X.admits, X.cas, X.clock, hF, ?_, X.hears, X.method, X.code, X.here, X.tail, X.warmed, ?_, ?_, ?_⟩
  · have h := X.room
    have hU : ((T.setVm s.vm).setFrames (.invoking m args :: below)).localsInUse = s.localsInUse := by
      rw [State.localsInUse_invoking hF (meth := meth) (c := c) X.method X.code, State.localsInUse_invoking X.frames X.method X.code]
    simp only [State.hasRoom, Bool.and_eq_true, decide_eq_true_eq] at h ⊢
    obtain ⟨⟨⟨⟨h1, h2, h3, h4, h5, h6⟩, h7⟩, h8⟩, h9⟩ := h
    rw [X.frames, List.length_cons] at h2 h3
    have q1 := X.heapSize
    have q2 := X.used
    simp only [hF, hU, List.length_cons, State.stackLimits_setFrames, State.stackBytes_setFrames, hl9, hb9]
    refine ⟨⟨⟨⟨by omega, by omega, by omega, by omega, by omega, h6⟩, ?_⟩, ?_⟩, X.book⟩
    · show T.heap.size + R'.cells ≤ e.platform.maxCells
      omega
    · show T.slotsUsed + R'.slots ≤ e.platform.maxSlots
      omega
  · rw [State.stackLimits_setFrames]; rfl
  · rw [State.stackBytes_setFrames]; rfl
  · refine ⟨?_, Nat.le_refl _, Nat.le_refl _, ?_, ?_, fun a c9 h9 => ⟨c9, h9, rfl, rfl, fun _ _ => rfl⟩⟩
    · obtain ⟨t, ht, -⟩ := State.frames_cons hr
      show T.setVm s.vm = { ((T.setVm s.vm).setFrames (.invoking m args :: below)).setFrames (T.setVm s.vm).frames with heap := T.heap, slotsUsed := T.slotsUsed }
      rw [State.setFrames_setFrames, State.setFrames_self ht]
      rfl
    · show T.slotsUsed = T.slotsUsed + ((T.heap.toList.drop T.heap.size).map (·.slots.size)).sum
      rw [List.drop_eq_nil_of_le (Nat.le_of_eq Array.length_toList)]
      rfl
    · show ((T.heap.toList.drop T.heap.size).map (·.slots.size)).sum ≤ 0
      rw [List.drop_eq_nil_of_le (Nat.le_of_eq Array.length_toList)]
      exact Nat.le_refl _
/-- 'throw new E()': new; dup; invokespecial; athrow -/
theorem vx_throw0 {cc : ByteArray} {pc : Nat} (hexec : p.tables.exec = Jvm.exec) (hb : c.code = cc) (hl : l.stackTraces = false) {own cls : String} {names : List String} {ik ic mc ms : Nat} {A : Nat → Prop}
    (hown : s.vm.findClass own = some m.cls) (hcls : Bundle.fit cls = true) (hnames : ∀ n ∈ names, Bundle.fit n = true)
    (hk : (Cond.classLink own ik cls).before args s = true) (hini : (Cond.initialized cls).before args s = true) (hat : ∀ w ∈ vx_at0 own ic cls names, w.before args s = true)
    (hgood : ∀ w ∈ Cond.classLink own ik cls :: Cond.initialized cls :: vx_at0 own ic cls names, vx_ot w = true)
    (hU : vx_Zq Bundle.tN "UNASSIGNED_STACK" Bundle.steD A s s.heap) (hN : vx_Zq Bundle.tN "SUPPRESSED_SENTINEL" Bundle.listD A s s.heap) (hS : va_S A s.heap H locs) (hsize : ls.size = c.maxLocals)
    (d0 : decode cc pc = .ok (.new ik, 3)) (d3 : decode cc (pc + 3) = .ok (.dup, 1)) (d4 : decode cc (pc + 4) = .ok (.invokespecial ic, 3)) (d7 : decode cc (pc + 7) = .ok (.athrow, 1))
    (hout : ∀ x ∈ c.exceptionTable.toList, covers x (pc + 7) = false)
    (hRframes : names.length + 3 < R.frames) (hRlocals : (rest.map fun v => v.category).sum + (13 * (names.length + 1) + 42) ≤ R.locals) (hRcells : cells + 1 ≤ R.cells) (hRslots : slots + 6 ≤ R.slots) (hlocks : meth.locks = false)
    (hx : ∀ t : State, s.vm.Alike t.vm → H.size ≤ t.heap.size → (∀ q : Nat, q < H.size → t.heap[q]? = H[q]?) → XC cls s t)
    (hf : ∀ z ∈ locs, free z.base) (hc : cells + 1 ≤ mc) (hs : slots + 6 ≤ ms) :
    W p l e R s m args below meth c H locs cells slots (vx_MQ below Qc XC args s mc ms free) (F0 m pc ls rest) := by
  intro T hT X
  have htr : e.platform.stackTraces = false := (show e.platform.stackTraces = l.stackTraces by rw [X.admits.platform]).trans hl
  have Y := vx_rebase X (R' := { frames := R.frames, locals := R.locals, cells := 1, slots := 6 }) (Nat.le_refl _) (Nat.le_refl _) hRcells hRslots
  obtain ⟨s', hA⟩ : ∃ z, z = (T.setVm s.vm).setFrames (.invoking m args :: below) := ⟨_, rfl⟩
  rw [← hA] at Y
  have hvm : s'.vm = s.vm := by rw [hA]; rfl
  have hhp : s'.heap = H := by rw [hA]; exact hT
  have hW0 : s.WarmedH s'.vm := by rw [hvm]; exact State.WarmedH.refl s
  have hat' : ∀ w ∈ vx_at0 own ic cls names, w.before args s' = true := fun w hw => vx_ot_at hW0 hvm.symm (hgood w (List.mem_cons_of_mem _ (List.mem_cons_of_mem _ hw))) (hat w hw)
  have hk' : (Cond.classLink own ik cls).before args s' = true := vx_ot_at hW0 hvm.symm (hgood _ List.mem_cons_self) hk
  have hini' : (Cond.initialized cls).before args s' = true := vx_ot_at hW0 hvm.symm (hgood _ (List.mem_cons_of_mem _ List.mem_cons_self)) hini
  have hU' : vx_Zq Bundle.tN "UNASSIGNED_STACK" Bundle.steD A s' s'.heap := by rw [hhp]; exact vx_Zq.moved hW0.alike (hU.kept hS.2.1)
  have hN' : vx_Zq Bundle.tN "SUPPRESSED_SENTINEL" Bundle.listD A s' s'.heap := by rw [hhp]; exact vx_Zq.moved hW0.alike (hN.kept hS.2.1)
  have h : ∀ w ∈ Bundle.ownAtoms0 own ic cls names, w.before args s' = true := vx_own hat' (vx_isRefq hU'.1) (vx_isRefq hN'.1) hU'.2.word hN'.2.word
  have hown' : s'.vm.findClass own = some m.cls := by rw [hvm]; exact hown
  have hins : (Cond.instantiable cls 6).before args s' = true := h _ (by simp [Bundle.ownAtoms0])
  obtain ⟨vm₁, cX, kX, hfX, hkX, -, -, X₁, st1⟩ := Y.newCold hexec (own := own) (C := cls) (index := ik) (n := 6) hown' hk' hins hini'
    (g := F0 m pc ls rest) rfl (by rw [hb]; exact d0) (Nat.le_refl _) (Nat.le_refl _)
  generalize hT1 : (T.setVm vm₁).pushCell { cls := cX, slots := kX.instanceTypes.map defaultValue, vm := .none } = T1 at X₁ st1
  have hcat : (Value.ref T.heap.size).category = 1 := rfl
  have hcellA : T1.heap[T.heap.size]? = some (freshCell cX kX) := by rw [← hT1]; exact State.heap_pushCell_size _ _
  have d3' : decode c.code (pc + 3) = .ok (.dup, 1) := by rw [hb]; exact d3
  obtain ⟨U, hsteps, hrun, hend, hW, hsame, ce, hce, hO⟩ := X₁.ctorThrow0 hexec htr (own := own) (cls := cls) (names := names) (ic := ic) hown' hcls hnames h (fun x hx => nomatch hx) hfX hkX hcellA (by rw [hhp, hT]; exact Nat.le_refl _)
    (g := { method := m, pc := pc + 4, locals := ls, stack := .ref T.heap.size :: .ref T.heap.size :: rest, locked := none }) rfl hsize rfl rfl (rest := rest) rfl
    (by rw [hb]; exact d4) (by rw [hb]; exact d7) hout hRframes (by simp only [List.map_cons, List.sum_cons, hcat]; omega) hlocks
  obtain ⟨f1, f2⟩ := vx_frame hsame
  rw [hhp] at f1 f2
  have hWs : s.WarmedH U.vm := State.WarmedH.trans hW0 hW
  have hcl : s.vm.findClass cls = some ce.cls := by
    have h9 := hO.cls
    rw [hvm] at h9
    exact h9
  have hall : s.sameButNew ({ U with vm := s.vm } : State) locs mc ms := by
    subst hA
    obtain ⟨e1, e2⟩ := hsame
    rw [State.setFrames_setFrames] at e1
    have h2 : (T.setVm s.vm).sameButNew ({ U with vm := s.vm } : State) [] (0 + 1) (0 + 6) := ⟨e1, e2⟩
    have h3 := X.same.trans h2
    rw [List.append_nil] at h3
    exact h3.mono hc hs
  refine ⟨U, ?_, .threw T.heap.size, hrun, hend, Or.inr ⟨T.heap.size, rfl, cls, ce, locs, hx U hWs.alike f1 (fun q hq => f2 q hq (fun z hz => nomatch hz)), hce, hO.vm, hcl, hWs, hall, hf⟩⟩
  refine st1 _ ?_
  show Steps p.tables e below (T1.setTop { method := m, pc := pc + 3, locals := ls, stack := .ref T.heap.size :: rest, locked := none }) _
  jvm_step X₁.here [X₁.here.top, hexec, d3', Value.category]
  exact hsteps
/-- 'throw new E("text")': new; dup; ldc; invokespecial; athrow -/
theorem vx_throwS {cc : ByteArray} {pc : Nat} (hexec : p.tables.exec = Jvm.exec) (hb : c.code = cc) (hl : l.stackTraces = false) {own cls text : String} {names : List String} {ik is ic mc ms sa : Nat} {A : Nat → Prop}
    (hown : s.vm.findClass own = some m.cls) (hcls : Bundle.fit cls = true) (hnames : ∀ n ∈ names, Bundle.fit n = true)
    (hk : (Cond.classLink own ik cls).before args s = true) (hini : (Cond.initialized cls).before args s = true) (hstr : vk_R own is text sa s) (hat : ∀ w ∈ vx_atS own ic cls names, w.before args s = true)
    (hgood : ∀ w ∈ Cond.classLink own ik cls :: Cond.initialized cls :: vx_atS own ic cls names, vx_ot w = true)
    (hU : vx_Zq Bundle.tN "UNASSIGNED_STACK" Bundle.steD A s s.heap) (hN : vx_Zq Bundle.tN "SUPPRESSED_SENTINEL" Bundle.listD A s s.heap) (hS : va_S A s.heap H locs) (hsize : ls.size = c.maxLocals)
    (d0 : decode cc pc = .ok (.new ik, 3)) (d3 : decode cc (pc + 3) = .ok (.dup, 1)) (d4 : decode cc (pc + 4) = .ok (.ldc is, 2)) (d6 : decode cc (pc + 6) = .ok (.invokespecial ic, 3)) (d9 : decode cc (pc + 9) = .ok (.athrow, 1))
    (hout : ∀ x ∈ c.exceptionTable.toList, covers x (pc + 9) = false)
    (hRframes : names.length + 3 < R.frames) (hRlocals : (rest.map fun v => v.category).sum + (13 * (names.length + 1) + 43) ≤ R.locals) (hRcells : cells + 1 ≤ R.cells) (hRslots : slots + 6 ≤ R.slots) (hlocks : meth.locks = false)
    (hx : ∀ t : State, s.vm.Alike t.vm → H.size ≤ t.heap.size → (∀ q : Nat, q < H.size → t.heap[q]? = H[q]?) → XC cls s t)
    (hf : ∀ z ∈ locs, free z.base) (hc : cells + 1 ≤ mc) (hs : slots + 6 ≤ ms) :
    W p l e R s m args below meth c H locs cells slots (vx_MQ below Qc XC args s mc ms free) (F0 m pc ls rest) := by
  intro T hT X
  have htr : e.platform.stackTraces = false := (show e.platform.stackTraces = l.stackTraces by rw [X.admits.platform]).trans hl
  have Y := vx_rebase X (R' := { frames := R.frames, locals := R.locals, cells := 1, slots := 6 }) (Nat.le_refl _) (Nat.le_refl _) hRcells hRslots
  obtain ⟨s', hA⟩ : ∃ z, z = (T.setVm s.vm).setFrames (.invoking m args :: below) := ⟨_, rfl⟩
  rw [← hA] at Y
  have hvm : s'.vm = s.vm := by rw [hA]; rfl
  have hhp : s'.heap = H := by rw [hA]; exact hT
  have hW0 : s.WarmedH s'.vm := by rw [hvm]; exact State.WarmedH.refl s
  have hat' : ∀ w ∈ vx_atS own ic cls names, w.before args s' = true := fun w hw => vx_ot_at hW0 hvm.symm (hgood w (List.mem_cons_of_mem _ (List.mem_cons_of_mem _ hw))) (hat w hw)
  have hk' : (Cond.classLink own ik cls).before args s' = true := vx_ot_at hW0 hvm.symm (hgood _ List.mem_cons_self) hk
  have hini' : (Cond.initialized cls).before args s' = true := vx_ot_at hW0 hvm.symm (hgood _ (List.mem_cons_of_mem _ List.mem_cons_self)) hini
  have hU' : vx_Zq Bundle.tN "UNASSIGNED_STACK" Bundle.steD A s' s'.heap := by rw [hhp]; exact vx_Zq.moved hW0.alike (hU.kept hS.2.1)
  have hN' : vx_Zq Bundle.tN "SUPPRESSED_SENTINEL" Bundle.listD A s' s'.heap := by rw [hhp]; exact vx_Zq.moved hW0.alike (hN.kept hS.2.1)
  have h : ∀ w ∈ Bundle.ownAtoms own ic cls names, w.before args s' = true := vx_own hat' (vx_isRefq hU'.1) (vx_isRefq hN'.1) hU'.2.word hN'.2.word
  have hown' : s'.vm.findClass own = some m.cls := by rw [hvm]; exact hown
  have hins : (Cond.instantiable cls 6).before args s' = true := h _ (by simp [Bundle.ownAtoms])
  obtain ⟨vm₁, cX, kX, hfX, hkX, -, -, X₁, st1⟩ := Y.newCold hexec (own := own) (C := cls) (index := ik) (n := 6) hown' hk' hins hini'
    (g := F0 m pc ls rest) rfl (by rw [hb]; exact d0) (Nat.le_refl _) (Nat.le_refl _)
  generalize hT1 : (T.setVm vm₁).pushCell { cls := cX, slots := kX.instanceTypes.map defaultValue, vm := .none } = T1 at X₁ st1
  have hcat : (Value.ref T.heap.size).category = 1 := rfl
  have hcellA : T1.heap[T.heap.size]? = some (freshCell cX kX) := by rw [← hT1]; exact State.heap_pushCell_size _ _
  have d3' : decode c.code (pc + 3) = .ok (.dup, 1) := by rw [hb]; exact d3
  have d4' : decode c.code (pc + 4) = .ok (.ldc is, 2) := by rw [hb]; exact d4
  have hstr' : vk_R own is text sa s' := vk_R.warm hW0 hstr
  obtain ⟨U, hsteps, hrun, hend, hW, hsame, ce, hce, hO⟩ := X₁.ctorThrowS hexec htr (own := own) (cls := cls) (names := names) (ic := ic) hown' hcls hnames h (fun x hx => nomatch hx) hfX hkX hcellA (by rw [hhp, hT]; exact Nat.le_refl _) (msg := .ref sa) rfl
    (g := { method := m, pc := pc + 6, locals := ls, stack := .ref sa :: .ref T.heap.size :: .ref T.heap.size :: rest, locked := none }) rfl hsize rfl rfl (rest := rest) rfl
    (by rw [hb]; exact d6) (by rw [hb]; exact d9) hout hRframes (by simp only [List.map_cons, List.sum_cons, hcat]; omega) hlocks
  obtain ⟨f1, f2⟩ := vx_frame hsame
  rw [hhp] at f1 f2
  have hWs : s.WarmedH U.vm := State.WarmedH.trans hW0 hW
  have hcl : s.vm.findClass cls = some ce.cls := by
    have h9 := hO.cls
    rw [hvm] at h9
    exact h9
  have hall : s.sameButNew ({ U with vm := s.vm } : State) locs mc ms := by
    subst hA
    obtain ⟨e1, e2⟩ := hsame
    rw [State.setFrames_setFrames] at e1
    have h2 : (T.setVm s.vm).sameButNew ({ U with vm := s.vm } : State) [] (0 + 1) (0 + 6) := ⟨e1, e2⟩
    have h3 := X.same.trans h2
    rw [List.append_nil] at h3
    exact h3.mono hc hs
  refine ⟨U, ?_, .threw T.heap.size, hrun, hend, Or.inr ⟨T.heap.size, rfl, cls, ce, locs, hx U hWs.alike f1 (fun q hq => f2 q hq (fun z hz => nomatch hz)), hce, hO.vm, hcl, hWs, hall, hf⟩⟩
  refine st1 _ ?_
  show Steps p.tables e below (T1.setTop { method := m, pc := pc + 3, locals := ls, stack := .ref T.heap.size :: rest, locked := none }) _
  jvm_step X₁.here [X₁.here.top, hexec, d3', Value.category]
  exact X₁.ldcString hexec (own := own) (text := text) (index := is) (a := sa) hown' hstr'.1 hstr'.2
    (g := { method := m, pc := pc + 4, locals := ls, stack := .ref T.heap.size :: .ref T.heap.size :: rest, locked := none }) rfl d4' _ hsteps
/-- 'throw new E("text")', the text by a wide index -/
theorem vx_throwSW {cc : ByteArray} {pc : Nat} (hexec : p.tables.exec = Jvm.exec) (hb : c.code = cc) (hl : l.stackTraces = false) {own cls text : String} {names : List String} {ik is ic mc ms sa : Nat} {A : Nat → Prop}
    (hown : s.vm.findClass own = some m.cls) (hcls : Bundle.fit cls = true) (hnames : ∀ n ∈ names, Bundle.fit n = true)
    (hk : (Cond.classLink own ik cls).before args s = true) (hini : (Cond.initialized cls).before args s = true) (hstr : vk_R own is text sa s) (hat : ∀ w ∈ vx_atS own ic cls names, w.before args s = true)
    (hgood : ∀ w ∈ Cond.classLink own ik cls :: Cond.initialized cls :: vx_atS own ic cls names, vx_ot w = true)
    (hU : vx_Zq Bundle.tN "UNASSIGNED_STACK" Bundle.steD A s s.heap) (hN : vx_Zq Bundle.tN "SUPPRESSED_SENTINEL" Bundle.listD A s s.heap) (hS : va_S A s.heap H locs) (hsize : ls.size = c.maxLocals)
    (d0 : decode cc pc = .ok (.new ik, 3)) (d3 : decode cc (pc + 3) = .ok (.dup, 1)) (d4 : decode cc (pc + 4) = .ok (.ldc_w is, 3)) (d7 : decode cc (pc + 7) = .ok (.invokespecial ic, 3)) (d10 : decode cc (pc + 10) = .ok (.athrow, 1))
    (hout : ∀ x ∈ c.exceptionTable.toList, covers x (pc + 10) = false)
    (hRframes : names.length + 3 < R.frames) (hRlocals : (rest.map fun v => v.category).sum + (13 * (names.length + 1) + 43) ≤ R.locals) (hRcells : cells + 1 ≤ R.cells) (hRslots : slots + 6 ≤ R.slots) (hlocks : meth.locks = false)
    (hx : ∀ t : State, s.vm.Alike t.vm → H.size ≤ t.heap.size → (∀ q : Nat, q < H.size → t.heap[q]? = H[q]?) → XC cls s t)
    (hf : ∀ z ∈ locs, free z.base) (hc : cells + 1 ≤ mc) (hs : slots + 6 ≤ ms) :
    W p l e R s m args below meth c H locs cells slots (vx_MQ below Qc XC args s mc ms free) (F0 m pc ls rest) := by
  intro T hT X
  have htr : e.platform.stackTraces = false := (show e.platform.stackTraces = l.stackTraces by rw [X.admits.platform]).trans hl
  have Y := vx_rebase X (R' := { frames := R.frames, locals := R.locals, cells := 1, slots := 6 }) (Nat.le_refl _) (Nat.le_refl _) hRcells hRslots
  obtain ⟨s', hA⟩ : ∃ z, z = (T.setVm s.vm).setFrames (.invoking m args :: below) := ⟨_, rfl⟩
  rw [← hA] at Y
  have hvm : s'.vm = s.vm := by rw [hA]; rfl
  have hhp : s'.heap = H := by rw [hA]; exact hT
  have hW0 : s.WarmedH s'.vm := by rw [hvm]; exact State.WarmedH.refl s
  have hat' : ∀ w ∈ vx_atS own ic cls names, w.before args s' = true := fun w hw => vx_ot_at hW0 hvm.symm (hgood w (List.mem_cons_of_mem _ (List.mem_cons_of_mem _ hw))) (hat w hw)
  have hk' : (Cond.classLink own ik cls).before args s' = true := vx_ot_at hW0 hvm.symm (hgood _ List.mem_cons_self) hk
  have hini' : (Cond.initialized cls).before args s' = true := vx_ot_at hW0 hvm.symm (hgood _ (List.mem_cons_of_mem _ List.mem_cons_self)) hini
  have hU' : vx_Zq Bundle.tN "UNASSIGNED_STACK" Bundle.steD A s' s'.heap := by rw [hhp]; exact vx_Zq.moved hW0.alike (hU.kept hS.2.1)
  have hN' : vx_Zq Bundle.tN "SUPPRESSED_SENTINEL" Bundle.listD A s' s'.heap := by rw [hhp]; exact vx_Zq.moved hW0.alike (hN.kept hS.2.1)
  have h : ∀ w ∈ Bundle.ownAtoms own ic cls names, w.before args s' = true := vx_own hat' (vx_isRefq hU'.1) (vx_isRefq hN'.1) hU'.2.word hN'.2.word
  have hown' : s'.vm.findClass own = some m.cls := by rw [hvm]; exact hown
  have hins : (Cond.instantiable cls 6).before args s' = true := h _ (by simp [Bundle.ownAtoms])
  obtain ⟨vm₁, cX, kX, hfX, hkX, -, -, X₁, st1⟩ := Y.newCold hexec (own := own) (C := cls) (index := ik) (n := 6) hown' hk' hins hini'
    (g := F0 m pc ls rest) rfl (by rw [hb]; exact d0) (Nat.le_refl _) (Nat.le_refl _)
  generalize hT1 : (T.setVm vm₁).pushCell { cls := cX, slots := kX.instanceTypes.map defaultValue, vm := .none } = T1 at X₁ st1
  have hcat : (Value.ref T.heap.size).category = 1 := rfl
  have hcellA : T1.heap[T.heap.size]? = some (freshCell cX kX) := by rw [← hT1]; exact State.heap_pushCell_size _ _
  have d3' : decode c.code (pc + 3) = .ok (.dup, 1) := by rw [hb]; exact d3
  have d4' : decode c.code (pc + 4) = .ok (.ldc_w is, 3) := by rw [hb]; exact d4
  have hstr' : vk_R own is text sa s' := vk_R.warm hW0 hstr
  obtain ⟨U, hsteps, hrun, hend, hW, hsame, ce, hce, hO⟩ := X₁.ctorThrowS hexec htr (own := own) (cls := cls) (names := names) (ic := ic) hown' hcls hnames h (fun x hx => nomatch hx) hfX hkX hcellA (by rw [hhp, hT]; exact Nat.le_refl _) (msg := .ref sa) rfl
    (g := { method := m, pc := pc + 7, locals := ls, stack := .ref sa :: .ref T.heap.size :: .ref T.heap.size :: rest, locked := none }) rfl hsize rfl rfl (rest := rest) rfl
    (by rw [hb]; exact d7) (by rw [hb]; exact d10) hout hRframes (by simp only [List.map_cons, List.sum_cons, hcat]; omega) hlocks
  obtain ⟨f1, f2⟩ := vx_frame hsame
  rw [hhp] at f1 f2
  have hWs : s.WarmedH U.vm := State.WarmedH.trans hW0 hW
  have hcl : s.vm.findClass cls = some ce.cls := by
    have h9 := hO.cls
    rw [hvm] at h9
    exact h9
  have hall : s.sameButNew ({ U with vm := s.vm } : State) locs mc ms := by
    subst hA
    obtain ⟨e1, e2⟩ := hsame
    rw [State.setFrames_setFrames] at e1
    have h2 : (T.setVm s.vm).sameButNew ({ U with vm := s.vm } : State) [] (0 + 1) (0 + 6) := ⟨e1, e2⟩
    have h3 := X.same.trans h2
    rw [List.append_nil] at h3
    exact h3.mono hc hs
  refine ⟨U, ?_, .threw T.heap.size, hrun, hend, Or.inr ⟨T.heap.size, rfl, cls, ce, locs, hx U hWs.alike f1 (fun q hq => f2 q hq (fun z hz => nomatch hz)), hce, hO.vm, hcl, hWs, hall, hf⟩⟩
  refine st1 _ ?_
  show Steps p.tables e below (T1.setTop { method := m, pc := pc + 3, locals := ls, stack := .ref T.heap.size :: rest, locked := none }) _
  jvm_step X₁.here [X₁.here.top, hexec, d3', Value.category]
  exact X₁.ldcStringW hexec (own := own) (text := text) (index := is) (a := sa) hown' hstr'.1 hstr'.2
    (g := { method := m, pc := pc + 4, locals := ls, stack := .ref T.heap.size :: .ref T.heap.size :: rest, locked := none }) rfl d4' _ hsteps
end Ends
section Bodies
variable {l : Launch}
theorem vx_ofW {y : MethodName} {ws ws' : List Cond} {rm : Room} {Pc : Array Value → State → Prop} {Qc : Array Value → State → Outcome → State → Prop} {XC : String → State → State → Prop} {mc ms : Nat} {free : Addr → Prop} {cc : ByteArray} {maxL : Nat} {ret : Option FieldType}
    (hy : plainName y.cls = true) (hw : ws = Cond.code y cc maxL ret :: ws')
    (body : ∀ p e s m args below meth c s₁, BodyLoose p l y (headSpec ws rm) cc maxL ret e s m args below meth c s₁ → c.maxLocals = maxL → (∀ x ∈ c.exceptionTable.toList, False) → Pc args s →
      W p l e (headSpec ws rm).room s m args below meth c s.heap [] 0 0 (vx_MQ below Qc XC args s mc ms free) (entryFrame m args maxL)) : vx_Met l y ws rm Pc Qc XC mc ms free := by
  refine MetFree.of_bodyS (code := cc) (maxLocals := maxL) (ret := ret) hy ?_ ?_
  · intro args s m h hn
    obtain ⟨meth, c, h1, h2, h3, h4, h5, h6, -, -⟩ := Cond.code_spec hn (atoms_spec (ws := ws) h _ (by rw [hw]; exact List.mem_cons_self))
    exact ⟨meth, c, h1, h2, h3, h4, h5, h6⟩
  · intro p e s m args below meth c s₁ B hml hP _
    have hh0 : s₁.heap = s.heap := by rw [B.state]; rfl
    have ht : ∀ x ∈ c.exceptionTable.toList, False := by
      obtain ⟨meth9, c9, h1, h2, -, -, -, -, h7, -⟩ := Cond.code_spec B.named (atoms_spec (ws := ws) B.pre _ (by rw [hw]; exact List.mem_cons_self))
      cases Option.some.inj (h1.symm.trans B.method)
      cases Option.some.inj (h2.symm.trans (Stand.of_body B).code)
      intro x hx
      rw [Array.isEmpty_iff.mp h7] at hx
      cases hx
    obtain ⟨t, a1, o, b1, b2, b3⟩ := body p e s m args below meth c s₁ B hml ht hP s₁ hh0 (Stand.of_body B)
    exact ⟨t, o, a1, b1, b2, b3⟩
/-- the table of a body with handlers -/
theorem vx_table {p : Program} {x y : MethodName} {S : Spec} {cc bytes : ByteArray} {maxL maxL' : Nat} {ret ret' : Option FieldType} {e : Env} {s s₁ : State} {m : MethodId} {args : Array Value} {below : List Frame} {meth : Method} {c : Code} {hh : List (Nat × Nat × Nat × Nat)}
    (B : BodyLoose p l y S cc maxL ret e s m args below meth c s₁) (h : (Cond.codeWith y bytes maxL' ret' hh).before args s = true) : c.exceptionTable.toList = tableOf hh := by
  obtain ⟨m9, meth9, c9, hn9, h1, h2, -, -, h6, -⟩ := Cond.codeWith_spec h
  cases Option.some.inj (hn9.symm.trans B.named)
  cases Option.some.inj (h1.symm.trans B.method)
  cases Option.some.inj (h2.symm.trans (Stand.of_body B).code)
  rw [← h6, table_eq]
end Bodies
end VXA
/-! ===== END ===== -/
/-! ===== BEGIN a static call of a method with an exception table ===== -/
section VXS
variable {p : Program} {l : Launch} {e : Env} {R : Room} {s : State} {m : MethodId} {args : Array Value} {below : List Frame} {meth : Method} {c : Code} {T : State} {H : Heap} {locs : List Loc} {cells slots : Nat}
abbrev vx_CSW (R : Room) (s : State) (args : Array Value) (own : String) (index : Nat) (y : MethodName) (bytes : ByteArray) (maxL : Nat) (ret : Option FieldType) (hh : List (Nat × Nat × Nat × Nat)) (ws : List Cond) (rm : Room) (mc ms n : Nat) : Prop :=
  (rm.cells = mc ∧ rm.slots = ms ∧ rm.frames + 1 ≤ R.frames ∧ 8 + (maxL + 11) + rm.locals ≤ R.locals ∧ (∀ w ∈ ws, ∀ (a' : Array Value) (U : State), s.WarmedH U.vm → w.before a' U = true) ∧ Cond.codeWith y bytes maxL ret hh ∈ ws) ∧
  (Cond.codeWith y bytes maxL ret hh).before args s = true ∧ (Cond.initialized y.cls).before args s = true ∧ (y.cls ≠ "java/lang/invoke/MethodHandle" ∧ y.cls ≠ "java/lang/invoke/VarHandle") ∧
  (∀ sig, parseMethodDescriptor y.desc = some sig → n = sig.parameters.length) ∧ (Cond.methodLink own index y).before args s = true ∧ (Cond.static y).before args s = true
theorem vx_cwSW {own : String} {index maxL mc ms : Nat} {y : MethodName} {bytes : ByteArray} {ret : Option FieldType} {hh : List (Nat × Nat × Nat × Nat)} {Ts ws ws' : List Cond} {rm : Room} (n : Nat) (ht : ∀ w ∈ Ts, w.before args s = true) (hT : GoodIn Ts (va_wsS own index y ws)) (hw : ws = Cond.codeWith y bytes maxL ret hh :: ws') (hrc : rm.cells = mc) (hrs : rm.slots = ms)
    (hd : y.cls ≠ "java/lang/invoke/MethodHandle" ∧ y.cls ≠ "java/lang/invoke/VarHandle" ∧ (parseMethodDescriptor y.desc).map (fun d => d.parameters.length) = some n) (hR : rm.frames + 1 ≤ R.frames ∧ 8 + (maxL + 11) + rm.locals ≤ R.locals) :
    vx_CSW R s args own index y bytes maxL ret hh ws rm mc ms n := by
  have ok : ∀ w ∈ va_wsS own index y ws, w.before args s = true := fun w h => ht w (hT w h).1
  have hG : GoodIn Ts ws := fun w h => hT w (by unfold va_wsS; exact List.mem_append_right _ h)
  have hc : Cond.codeWith y bytes maxL ret hh ∈ ws := by rw [hw]; exact List.mem_cons_self
  refine ⟨⟨hrc, hrs, hR.1, hR.2, pay_in ht hG, hc⟩, ht _ (hG _ hc).1, ok _ (by simp [va_wsS]), ⟨hd.1, hd.2.1⟩, fun sig h => ?_, ok _ (by simp [va_wsS]), ok _ (by simp [va_wsS])⟩
  have h2 := hd.2.2
  rw [h] at h2
  exact (Option.some.inj h2).symm
theorem vx_callSW (X : Stand p l e R s m args below meth c T locs cells slots) (hexec : p.tables.exec = Jvm.exec) {own : String} {index : Nat} {y : MethodName} {bytes : ByteArray} {maxL : Nat} {ret : Option FieldType} {hh : List (Nat × Nat × Nat × Nat)}
    (hown : s.vm.findClass own = some m.cls) (hlink : (Cond.methodLink own index y).before args s = true) (hstat : (Cond.static y).before args s = true) (hinit : (Cond.initialized y.cls).before args s = true)
    (hcode : (Cond.codeWith y bytes maxL ret hh).before args s = true) (hy : y.cls ≠ "java/lang/invoke/MethodHandle" ∧ y.cls ≠ "java/lang/invoke/VarHandle")
    {W9 : Nat} {Pre : Pt → Array Value → Prop} {Post : Pt → Array Value → Option Value → Pt → Prop} (hK : Back l R p e below s args y 3 W9 Pre Post)
    {g : JFrame} (hg : g.method = m) (hsize : g.locals.size = c.maxLocals) {argsL rest : List Value} (hlen : ∀ sig, parseMethodDescriptor y.desc = some sig → argsL.length = sig.parameters.length)
    (hstack : g.stack = argsL.reverse ++ rest) (hW : 2 * g.monitorRoom + (rest.map fun v => v.category).sum ≤ W9) (hdg : decode c.code g.pc = .ok (.invokestatic index, 3))
    (hpre : ∀ vm₁, s.WarmedH vm₁ → Pre ⟨T.setVm vm₁, locs, cells, slots⟩ argsL.toArray) :
    ∃ (v : Option Value) (vm₁ : Vm) (B : Pt), s.WarmedH vm₁ ∧ Stand p l e R s m args below meth c B.U B.locs B.cells B.slots ∧ Post ⟨T.setVm vm₁, locs, cells, slots⟩ argsL.toArray v B ∧
      ∀ target, Steps p.tables e below (B.U.setTop { g with pc := g.pc + 3, stack := v.toList ++ rest }) target → Steps p.tables e below (T.setTop g) target := by
  obtain ⟨mk, methM, cM, hnamed, hmethM, -, -, -, -, -, -, hsigM⟩ := Cond.codeWith_spec hcode
  have hstatic : methM.isStatic = true := Cond.static_spec hnamed hmethM hstat
  obtain ⟨kP, hkP, -⟩ := className_of_methodNamed hnamed
  have hinitP : kP.init = .initialized := Cond.initialized_spec (findClass_of_methodNamed hnamed) hkP hinit
  obtain ⟨vm₁, X₁, hstep₁⟩ := X.invokestatic hexec hown hlink hnamed hmethM hstatic hkP hinitP hy (g := g) hg (argsL := argsL) (rest := rest) (hlen _ hsigM) hstack hdg
  obtain ⟨v, B, X', hpost, hsteps⟩ := hK m meth c ⟨T.setVm vm₁, locs, cells, slots⟩ { g with stack := rest } (.invokestatic index) mk argsL.toArray X₁ hg hsize hdg hW (X₁.named hnamed) (hpre vm₁ X₁.warmed)
  exact ⟨v, vm₁, B, X₁.warmed, X', hpost, fun target h => hstep₁ _ fun acts => by rw [doInvoke_state]; exact hsteps.trans h⟩
theorem vx_runSW {y : MethodName} {bytes cc : ByteArray} {maxL nL mc ms n index : Nat} {ret : Option FieldType} {hh : List (Nat × Nat × Nat × Nat)} {ws : List Cond} {rm : Room} {Pc : Array Value → State → Prop} {Qc : Array Value → State → Outcome → State → Prop} {free : Addr → Prop} {Ts : List Cond} {own : String} {As rest : List Value} {g : JFrame}
    (S : CallFix p m c cc nL s args Ts own) (hM : Met l y ws rm Pc Qc mc ms free) (cw : vx_CSW R s args own index y bytes maxL ret hh ws rm mc ms n) (hp : PreS s H Pc As)
    (hg : g.method = m) (hn : As.length = n) (hsize : g.locals.size = nL) (hstack : g.stack = As.reverse ++ rest) (hW : 2 * g.monitorRoom + (rest.map fun v => v.category).sum ≤ 8) (hdg : decode cc g.pc = .ok (.invokestatic index, 3)) (hf : cells + mc ≤ R.cells ∧ slots + ms ≤ R.slots) :
    va_Run p l e R s m args below meth c H locs cells slots mc ms g rest (Qc As.toArray) (free) := by
  obtain ⟨⟨hrc, hrs, hfr, hlo, hws, hcw⟩, hcode, hini, hy, hlen, hl, hstt⟩ := cw
  have hK : Back l R p e below s args y 3 8 (PreOf R mc ms Pc) (PostOf Qc mc ms free) := va_backW (hh := hh) (bytes := bytes) (maxL := maxL) (ret := ret) hM hp.1 hrc hrs hfr hlo hws hcw (fun a' U hW => word_at hW (Or.inl (by first | rfl | simp [Cond.onTables, Cond.keeps, Cond.steady])) hini)
  obtain ⟨hx, hb, hml, ho, -⟩ := S
  intro T hT X
  obtain ⟨v, vm₁, ⟨U', l2, c2, s2⟩, hW₁, X', ⟨g', mk, t, L, e1, e2, hq, h1, hL, h2, h3⟩, st⟩ := vx_callSW X hx (hh := hh) (bytes := bytes) (maxL := maxL) (ret := ret) ho hl hstt hini hcode hy hK hg (hsize.trans hml.symm) (argsL := As) (rest := rest) (fun sig h => hn.trans (hlen sig h)) hstack hW (by rw [hb]; exact hdg)
    (fun vm₁ hW₁ => ⟨hf.1, hf.2, hp.2 (T.setVm vm₁) hT hW₁⟩)
  dsimp only [Pt.U, Pt.locs, Pt.cells, Pt.slots] at X' e1 e2 h1 h2 h3 st
  subst h1; subst h2; subst h3
  exact ⟨v, (T.setVm vm₁).calling g' mk As.toArray, t, U', L, hT, X', hL, e1, e2, hq, st⟩
/-- a thing of a world lies in the heap -/
theorem vx_lt {D : va_G} {cl : List vw_C} {ws : va_W} {H1 : Heap} (h : va_P D cl ws H1) {k : Nat} {q : Nat × va_E} (hk : ws[k]? = some q) : q.1 < H1.size := (h k q hk).lt
end VXS
/-! ===== END ===== -/
/-! ===== BEGIN methods with a table of their own: called by a name, returning or throwing ===== -/
section VXH
/-! vx_backW, vx_callVX, vx_callSX, vx_callVW, vx_runVW, vx_runVX, vx_runSX, vx_ofWH follow the same proofs as their sisters above (Free/Laws.lean, Shelf42/LK1.lean); vx_outP calls Shelf42/NT130.lean (outThrough). -/
section
variable {l : Launch} {R : Room} {p : Program} {e : Env} {below : List Frame} {s : State} {sargs : Array Value} {y : MethodName} {len W9 : Nat}
theorem vx_backW {ws : List Cond} {rm : Room} {Pc : Array Value → State → Prop} {Qc : Array Value → State → Outcome → State → Prop} {XC : String → State → State → Prop} {mc ms : Nat} {free : Addr → Prop} {bytes : ByteArray} {maxL : Nat} {ret : Option FieldType} {hh : List (Nat × Nat × Nat × Nat)}
    (hM : vx_Met l y ws rm Pc Qc XC mc ms free) (hblind : FrameBlind Pc) (hrc : rm.cells = mc) (hrs : rm.slots = ms)
    (hframes : rm.frames + 1 ≤ R.frames) (hlocals : W9 + (maxL + 11) + rm.locals ≤ R.locals)
    (hws : ∀ w ∈ ws, ∀ a' U, s.WarmedH U.vm → w.before a' U = true) (hcode : Cond.codeWith y bytes maxL ret hh ∈ ws) (hinit : ∀ a' U, s.WarmedH U.vm → (Cond.initialized y.cls).before a' U = true) :
    vx_Back l R p e below s sargs y len W9 (PreOf R mc ms Pc) (PostOf Qc mc ms free) (vx_Post XC mc ms free) := by
  intro m meth c A g ig mk a X hg hsize hdg hW hn hp
  have h1 : (headSpec ws rm).pre.before a A.U = true := atoms_intro fun w hw => hws w hw _ _ X.warmed
  have h2 : (Cond.codeWith y bytes maxL ret hh).before a A.U = true := hws _ hcode _ _ X.warmed
  have h3 : (Cond.initialized y.cls).before a A.U = true := hinit _ _ X.warmed
  have h4 : A.cells + (headSpec ws rm).room.cells ≤ R.cells := by rw [show (headSpec ws rm).room.cells = mc from hrc]; exact hp.1
  have h5 : A.slots + (headSpec ws rm).room.slots ≤ R.slots := by rw [show (headSpec ws rm).room.slots = ms from hrs]; exact hp.2.1
  have hPc : Pc a (A.U.calling g mk a) := hblind _ _ _ _ hp.2.2
  obtain ⟨U, Ls, c0, s0⟩ := A
  dsimp only [Pt.U, Pt.locs, Pt.cells, Pt.slots] at h1 h2 h3 h4 h5 X hn hPc ⊢
  obtain ⟨m9, methY, cY, hn9, hmY, hcY, -, hlY, -⟩ := Cond.codeWith_spec h2
  cases Option.some.inj (hn9.symm.trans hn)
  obtain ⟨kY, hkY, -⟩ := className_of_methodNamed hn
  have hinitY : kY.init = .initialized := Cond.initialized_spec (findClass_of_methodNamed hn) hkY h3
  have h : At U g.method c below := by rw [hg]; exact X.here
  have hlocals9 : W9 + (maxL + 11) + (headSpec ws rm).room.locals ≤ R.locals := hlocals
  have happ : (headSpec ws rm).appliesLoose y e.platform (U.calling g mk a) = true :=
    Spec.appliesLoose_calling (g := g) h hdg hn hkY hinitY
      (X.room_calling (g := g) (R' := (headSpec ws rm).room) hsize hmY hcY hframes (by rw [hlY]; omega) h4 h5) h1
  obtain ⟨mid, hmid⟩ := h.above
  have hfr : (U.setTop g).frames = (.java g :: mid) ++ below := by rw [State.frames_setTop' g h.top, hmid]; rfl
  obtain ⟨o, s₂, hsteps, -, hend, hq⟩ := Steps.callFree hM p X.admits X.cas X.clock (acts := []) hfr happ hPc trivial
  have hq' : vx_Q Qc XC mc ms free a (U.calling g mk a) o s₂ := hq
  rw [State.frames_setTop' g h.top] at hend
  obtain ⟨g₀, hg0⟩ := Option.isSome_iff_exists.mp h.top
  obtain ⟨r, hr⟩ := State.topJava?_eq_some.mp hg0
  have hr' : (({ U with heap := s₂.heap, slotsUsed := s₂.slotsUsed } : State).setVm s₂.vm).frames = .java g₀ :: r := hr
  rcases hq' with ⟨hqc, L, hfe, hL⟩ | ⟨q, rfl, E, ce, L, hx, hce, hcv, hcl, hW₂, hsm, hL⟩
  · obtain ⟨⟨v, rfl⟩, hW₂, e2, q2, q3, q4, q5, q6⟩ := id hfe
    have e3 : s₂ = ({ (U.calling g mk a).setFrames s₂.frames with heap := s₂.heap, slotsUsed := s₂.slotsUsed } : State).setVm s₂.vm := by
      have : s₂ = ({ s₂ with vm := (U.calling g mk a).vm } : State).setVm s₂.vm := rfl
      rw [e2] at this
      exact this
    obtain ⟨c₂, i₂, len₂, hc₂, hd₂, hf₂⟩ := hend
    have hW' : U.WarmedH s₂.vm := hW₂
    have hcc : c₂ = c := by
      have h1 : s₂.code? g.method = U.code? g.method := by
        rw [State.code?_eq, State.code?_eq, hW'.alike.method?]
      exact Option.some.inj (hc₂.symm.trans (h1.trans h.code))
    subst hcc
    have hlen : len₂ = len := by rw [hdg] at hd₂; cases hd₂; rfl
    subst hlen
    have hs₂ : s₂ = (({ U with heap := s₂.heap, slotsUsed := s₂.slotsUsed } : State).setVm s₂.vm).setTop { g with pc := g.pc + len₂, stack := v.toList ++ g.stack } := by
      refine e3.trans ?_
      rw [hf₂, State.calling_eq h.top, State.setFrames_setFrames, State.setTop_of_frames _ hr', hr]
      rfl
    have hsame : U.sameButNew ({ U with heap := s₂.heap, slotsUsed := s₂.slotsUsed } : State) L mc ms := by
      refine ⟨?_, q2, q3, q4, q5, q6⟩
      obtain ⟨t, ht, -⟩ := State.frames_cons hr
      show ({ U with heap := s₂.heap, slotsUsed := s₂.slotsUsed } : State) = { U.setFrames U.frames with heap := s₂.heap, slotsUsed := s₂.slotsUsed }
      rw [State.setFrames_self ht]
    subst hg
    refine Or.inl ⟨v, ⟨(({ U with heap := s₂.heap, slotsUsed := s₂.slotsUsed } : State).setVm s₂.vm), Ls ++ L, c0 + mc, s0 + ms⟩,
      ⟨X.admits, X.cas, X.clock, X.frames, X.room, X.hears, X.method, X.code, (X.here.setHeapUsed s₂.heap s₂.slotsUsed).setVm hW'.alike, X.tail, State.WarmedH.trans X.warmed hW', X.limits, X.bytes, X.same.trans (hsame.setVm s.vm)⟩,
      ⟨g, mk, s₂, L, rfl, rfl, hqc, rfl, hL, rfl, rfl⟩, ?_⟩
    show Steps p.tables e below _ ((({ U with heap := s₂.heap, slotsUsed := s₂.slotsUsed } : State).setVm s₂.vm).setTop { g with pc := g.pc + len₂, stack := v.toList ++ g.stack })
    rw [← hs₂]
    exact hsteps
  · obtain ⟨e2, q2, q3, q4, q5, q6⟩ := id hsm
    have e3 : s₂ = ({ (U.calling g mk a).setFrames s₂.frames with heap := s₂.heap, slotsUsed := s₂.slotsUsed } : State).setVm s₂.vm := by
      have : s₂ = ({ s₂ with vm := (U.calling g mk a).vm } : State).setVm s₂.vm := rfl
      rw [e2] at this
      exact this
    have hf₂ : s₂.frames = .throwing q :: .java g :: U.frames.tail := hend
    have hW' : U.WarmedH s₂.vm := hW₂
    have hs₂ : s₂ = ((({ U with heap := s₂.heap, slotsUsed := s₂.slotsUsed } : State).setVm s₂.vm).setTop g).pushFrame (.throwing q) := by
      refine e3.trans ?_
      rw [hf₂, State.calling_eq h.top, State.setFrames_setFrames, State.pushFrame, State.frames_setTop _ hr', State.setTop_of_frames _ hr', State.setFrames_setFrames, hr]
      rfl
    have hsame : U.sameButNew ({ U with heap := s₂.heap, slotsUsed := s₂.slotsUsed } : State) L mc ms := by
      refine ⟨?_, q2, q3, q4, q5, q6⟩
      obtain ⟨t, ht, -⟩ := State.frames_cons hr
      show ({ U with heap := s₂.heap, slotsUsed := s₂.slotsUsed } : State) = { U.setFrames U.frames with heap := s₂.heap, slotsUsed := s₂.slotsUsed }
      rw [State.setFrames_self ht]
    subst hg
    refine Or.inr ⟨q, ⟨(({ U with heap := s₂.heap, slotsUsed := s₂.slotsUsed } : State).setVm s₂.vm), Ls ++ L, c0 + mc, s0 + ms⟩,
      ⟨X.admits, X.cas, X.clock, X.frames, X.room, X.hears, X.method, X.code, (X.here.setHeapUsed s₂.heap s₂.slotsUsed).setVm hW'.alike, X.tail, State.WarmedH.trans X.warmed hW', X.limits, X.bytes, X.same.trans (hsame.setVm s.vm)⟩,
      ⟨g, mk, s₂, L, E, ce, rfl, rfl, hx, hce, hcv, hcl, rfl, hL, rfl, rfl⟩, ?_⟩
    show Steps p.tables e below _ (((({ U with heap := s₂.heap, slotsUsed := s₂.slotsUsed } : State).setVm s₂.vm).setTop g).pushFrame (.throwing q))
    rw [← hs₂]
    exact hsteps
end
variable {p : Program} {l : Launch} {e : Env} {R : Room} {s : State} {m : MethodId} {args : Array Value} {below : List Frame} {meth : Method} {c : Code} {T : State} {H : Heap} {locs : List Loc} {cells slots : Nat}
theorem vx_callVX (X : Stand p l e R s m args below meth c T locs cells slots) (hexec : p.tables.exec = Jvm.exec) {own C : String} {index : Nat} {y : MethodName} {bytes : ByteArray} {maxL : Nat} {ret : Option FieldType} {hh : List (Nat × Nat × Nat × Nat)}
    (hown : s.vm.findClass own = some m.cls) (hlink : (Cond.methodLink own index y).before args s = true) (hinst : (Cond.instanceMethod y).before args s = true) (hsel : (Cond.selects C y y).before args s = true)
    (hcode : (Cond.codeWith y bytes maxL ret hh).before args s = true) (hy : y.cls ≠ "java/lang/invoke/MethodHandle" ∧ y.cls ≠ "java/lang/invoke/VarHandle")
    {W9 : Nat} {Pre : Pt → Array Value → Prop} {Post : Pt → Array Value → Option Value → Pt → Prop} {PostX : Pt → Array Value → Addr → Pt → Prop} (hK : vx_Back l R p e below s args y 3 W9 Pre Post PostX)
    {b : Addr} {cellB : Cell} (hcell : T.heap[b]? = some cellB) (hobj : cellB.vm.isStatics = false) (hcls : s.vm.findClass C = some cellB.cls)
    {g : JFrame} (hg : g.method = m) (hsize : g.locals.size = c.maxLocals) {argsL rest : List Value} (hlen : ∀ sig, parseMethodDescriptor y.desc = some sig → argsL.length = sig.parameters.length)
    (hstack : g.stack = argsL.reverse ++ .ref b :: rest) (hW : 2 * g.monitorRoom + (rest.map fun v => v.category).sum ≤ W9) (hdg : decode c.code g.pc = .ok (.invokevirtual index, 3))
    (hpre : ∀ vm₁, s.WarmedH vm₁ → Pre ⟨T.setVm vm₁, locs, cells, slots⟩ (Value.ref b :: argsL).toArray) :
    (∃ (v : Option Value) (vm₁ : Vm) (B : Pt), s.WarmedH vm₁ ∧ Stand p l e R s m args below meth c B.U B.locs B.cells B.slots ∧ Post ⟨T.setVm vm₁, locs, cells, slots⟩ (Value.ref b :: argsL).toArray v B ∧
      ∀ target, Steps p.tables e below (B.U.setTop { g with pc := g.pc + 3, stack := v.toList ++ rest }) target → Steps p.tables e below (T.setTop g) target) ∨
    (∃ (q : Addr) (vm₁ : Vm) (B : Pt), s.WarmedH vm₁ ∧ Stand p l e R s m args below meth c B.U B.locs B.cells B.slots ∧ PostX ⟨T.setVm vm₁, locs, cells, slots⟩ (Value.ref b :: argsL).toArray q B ∧
      Steps p.tables e below (T.setTop g) ((B.U.setTop { g with stack := rest }).pushFrame (.throwing q))) := by
  obtain ⟨mk, methM, hnamed, hmethM, hstM, habM⟩ := Cond.instanceMethod_spec hinst
  obtain ⟨m8, methM', cM, hn8, hmethM', -, -, -, -, -, -, hsigM⟩ := Cond.codeWith_spec hcode
  cases Option.some.inj (hn8.symm.trans hnamed)
  cases hmethM.symm.trans hmethM'
  obtain ⟨c2, r2, m2, q1, q2, q3, q4, kP, hkP, hkPi⟩ := Cond.selects_spec hsel
  cases hcls.symm.trans q1
  cases (State.methodFound?_of_named hnamed hy).symm.trans q2
  cases hnamed.symm.trans q3
  have hselP : selectMethod e.platform s.vm cellB.cls mk = .method mk := by rw [Launch.admits_selectMethod X.admits]; exact q4
  obtain ⟨vm₁, X₁, hstep₁⟩ := X.invokevirtual hexec hown hlink hnamed hmethM hstM hkP hkPi hy (a := b) (cell := cellB) hcell
    (fun z h => by rw [h] at hobj; cases hobj) hselP hmethM habM hkP hkPi (g := g) hg (argsL := argsL) (rest := rest) (hlen _ hsigM) hstack hdg
  rcases hK m meth c ⟨T.setVm vm₁, locs, cells, slots⟩ { g with stack := rest } (.invokevirtual index) mk (Value.ref b :: argsL).toArray X₁ hg hsize hdg hW (X₁.named hnamed) (hpre vm₁ X₁.warmed) with ⟨v, B, X', hpost, hsteps⟩ | ⟨q, B, X', hpost, hsteps⟩
  · exact Or.inl ⟨v, vm₁, B, X₁.warmed, X', hpost, fun target h => hstep₁ _ fun acts => by rw [doInvoke_state]; exact hsteps.trans h⟩
  · exact Or.inr ⟨q, vm₁, B, X₁.warmed, X', hpost, hstep₁ _ fun acts => by rw [doInvoke_state]; exact hsteps⟩
theorem vx_callSX (X : Stand p l e R s m args below meth c T locs cells slots) (hexec : p.tables.exec = Jvm.exec) {own : String} {index : Nat} {y : MethodName} {bytes : ByteArray} {maxL : Nat} {ret : Option FieldType} {hh : List (Nat × Nat × Nat × Nat)}
    (hown : s.vm.findClass own = some m.cls) (hlink : (Cond.methodLink own index y).before args s = true) (hstat : (Cond.static y).before args s = true) (hinit : (Cond.initialized y.cls).before args s = true)
    (hcode : (Cond.codeWith y bytes maxL ret hh).before args s = true) (hy : y.cls ≠ "java/lang/invoke/MethodHandle" ∧ y.cls ≠ "java/lang/invoke/VarHandle")
    {W9 : Nat} {Pre : Pt → Array Value → Prop} {Post : Pt → Array Value → Option Value → Pt → Prop} {PostX : Pt → Array Value → Addr → Pt → Prop} (hK : vx_Back l R p e below s args y 3 W9 Pre Post PostX)
    {g : JFrame} (hg : g.method = m) (hsize : g.locals.size = c.maxLocals) {argsL rest : List Value} (hlen : ∀ sig, parseMethodDescriptor y.desc = some sig → argsL.length = sig.parameters.length)
    (hstack : g.stack = argsL.reverse ++ rest) (hW : 2 * g.monitorRoom + (rest.map fun v => v.category).sum ≤ W9) (hdg : decode c.code g.pc = .ok (.invokestatic index, 3))
    (hpre : ∀ vm₁, s.WarmedH vm₁ → Pre ⟨T.setVm vm₁, locs, cells, slots⟩ argsL.toArray) :
    (∃ (v : Option Value) (vm₁ : Vm) (B : Pt), s.WarmedH vm₁ ∧ Stand p l e R s m args below meth c B.U B.locs B.cells B.slots ∧ Post ⟨T.setVm vm₁, locs, cells, slots⟩ argsL.toArray v B ∧
      ∀ target, Steps p.tables e below (B.U.setTop { g with pc := g.pc + 3, stack := v.toList ++ rest }) target → Steps p.tables e below (T.setTop g) target) ∨
    (∃ (q : Addr) (vm₁ : Vm) (B : Pt), s.WarmedH vm₁ ∧ Stand p l e R s m args below meth c B.U B.locs B.cells B.slots ∧ PostX ⟨T.setVm vm₁, locs, cells, slots⟩ argsL.toArray q B ∧
      Steps p.tables e below (T.setTop g) ((B.U.setTop { g with stack := rest }).pushFrame (.throwing q))) := by
  obtain ⟨mk, methM, cM, hnamed, hmethM, -, -, -, -, -, -, hsigM⟩ := Cond.codeWith_spec hcode
  have hstatic : methM.isStatic = true := Cond.static_spec hnamed hmethM hstat
  obtain ⟨kP, hkP, -⟩ := className_of_methodNamed hnamed
  have hinitP : kP.init = .initialized := Cond.initialized_spec (findClass_of_methodNamed hnamed) hkP hinit
  obtain ⟨vm₁, X₁, hstep₁⟩ := X.invokestatic hexec hown hlink hnamed hmethM hstatic hkP hinitP hy (g := g) hg (argsL := argsL) (rest := rest) (hlen _ hsigM) hstack hdg
  rcases hK m meth c ⟨T.setVm vm₁, locs, cells, slots⟩ { g with stack := rest } (.invokestatic index) mk argsL.toArray X₁ hg hsize hdg hW (X₁.named hnamed) (hpre vm₁ X₁.warmed) with ⟨v, B, X', hpost, hsteps⟩ | ⟨q, B, X', hpost, hsteps⟩
  · exact Or.inl ⟨v, vm₁, B, X₁.warmed, X', hpost, fun target h => hstep₁ _ fun acts => by rw [doInvoke_state]; exact hsteps.trans h⟩
  · exact Or.inr ⟨q, vm₁, B, X₁.warmed, X', hpost, hstep₁ _ fun acts => by rw [doInvoke_state]; exact hsteps⟩
theorem vx_callVW (X : Stand p l e R s m args below meth c T locs cells slots) (hexec : p.tables.exec = Jvm.exec) {own C : String} {index : Nat} {y : MethodName} {bytes : ByteArray} {maxL : Nat} {ret : Option FieldType} {hh : List (Nat × Nat × Nat × Nat)}
    (hown : s.vm.findClass own = some m.cls) (hlink : (Cond.methodLink own index y).before args s = true) (hinst : (Cond.instanceMethod y).before args s = true) (hsel : (Cond.selects C y y).before args s = true)
    (hcode : (Cond.codeWith y bytes maxL ret hh).before args s = true) (hy : y.cls ≠ "java/lang/invoke/MethodHandle" ∧ y.cls ≠ "java/lang/invoke/VarHandle")
    {W9 : Nat} {Pre : Pt → Array Value → Prop} {Post : Pt → Array Value → Option Value → Pt → Prop} (hK : Back l R p e below s args y 3 W9 Pre Post)
    {b : Addr} {cellB : Cell} (hcell : T.heap[b]? = some cellB) (hobj : cellB.vm.isStatics = false) (hcls : s.vm.findClass C = some cellB.cls)
    {g : JFrame} (hg : g.method = m) (hsize : g.locals.size = c.maxLocals) {argsL rest : List Value} (hlen : ∀ sig, parseMethodDescriptor y.desc = some sig → argsL.length = sig.parameters.length)
    (hstack : g.stack = argsL.reverse ++ .ref b :: rest) (hW : 2 * g.monitorRoom + (rest.map fun v => v.category).sum ≤ W9) (hdg : decode c.code g.pc = .ok (.invokevirtual index, 3))
    (hpre : ∀ vm₁, s.WarmedH vm₁ → Pre ⟨T.setVm vm₁, locs, cells, slots⟩ (Value.ref b :: argsL).toArray) :
    ∃ (v : Option Value) (vm₁ : Vm) (B : Pt), s.WarmedH vm₁ ∧ Stand p l e R s m args below meth c B.U B.locs B.cells B.slots ∧ Post ⟨T.setVm vm₁, locs, cells, slots⟩ (Value.ref b :: argsL).toArray v B ∧
      ∀ target, Steps p.tables e below (B.U.setTop { g with pc := g.pc + 3, stack := v.toList ++ rest }) target → Steps p.tables e below (T.setTop g) target := by
  obtain ⟨mk, methM, hnamed, hmethM, hstM, habM⟩ := Cond.instanceMethod_spec hinst
  obtain ⟨m8, methM', cM, hn8, hmethM', -, -, -, -, -, -, hsigM⟩ := Cond.codeWith_spec hcode
  cases Option.some.inj (hn8.symm.trans hnamed)
  cases hmethM.symm.trans hmethM'
  obtain ⟨c2, r2, m2, q1, q2, q3, q4, kP, hkP, hkPi⟩ := Cond.selects_spec hsel
  cases hcls.symm.trans q1
  cases (State.methodFound?_of_named hnamed hy).symm.trans q2
  cases hnamed.symm.trans q3
  have hselP : selectMethod e.platform s.vm cellB.cls mk = .method mk := by rw [Launch.admits_selectMethod X.admits]; exact q4
  obtain ⟨vm₁, X₁, hstep₁⟩ := X.invokevirtual hexec hown hlink hnamed hmethM hstM hkP hkPi hy (a := b) (cell := cellB) hcell
    (fun z h => by rw [h] at hobj; cases hobj) hselP hmethM habM hkP hkPi (g := g) hg (argsL := argsL) (rest := rest) (hlen _ hsigM) hstack hdg
  obtain ⟨v, B, X', hpost, hsteps⟩ := hK m meth c ⟨T.setVm vm₁, locs, cells, slots⟩ { g with stack := rest } (.invokevirtual index) mk (Value.ref b :: argsL).toArray X₁ hg hsize hdg hW (X₁.named hnamed) (hpre vm₁ X₁.warmed)
  exact ⟨v, vm₁, B, X₁.warmed, X', hpost, fun target h => hstep₁ _ fun acts => by rw [doInvoke_state]; exact hsteps.trans h⟩
abbrev vx_CVW (R : Room) (s : State) (args : Array Value) (own C : String) (index : Nat) (y : MethodName) (bytes : ByteArray) (maxL : Nat) (ret : Option FieldType) (hh : List (Nat × Nat × Nat × Nat)) (ws : List Cond) (rm : Room) (mc ms n : Nat) : Prop :=
  (rm.cells = mc ∧ rm.slots = ms ∧ rm.frames + 1 ≤ R.frames ∧ 8 + (maxL + 11) + rm.locals ≤ R.locals ∧ (∀ w ∈ ws, ∀ (a' : Array Value) (U : State), s.WarmedH U.vm → w.before a' U = true) ∧ Cond.codeWith y bytes maxL ret hh ∈ ws) ∧
  (Cond.codeWith y bytes maxL ret hh).before args s = true ∧ (Cond.initialized y.cls).before args s = true ∧ (y.cls ≠ "java/lang/invoke/MethodHandle" ∧ y.cls ≠ "java/lang/invoke/VarHandle") ∧
  (∀ sig, parseMethodDescriptor y.desc = some sig → n = sig.parameters.length) ∧ (Cond.methodLink own index y).before args s = true ∧ (Cond.instanceMethod y).before args s = true ∧ (Cond.selects C y y).before args s = true
theorem vx_cwVW {own C : String} {index maxL mc ms : Nat} {y : MethodName} {bytes : ByteArray} {ret : Option FieldType} {hh : List (Nat × Nat × Nat × Nat)} {Ts ws ws' : List Cond} {rm : Room} (n : Nat) (ht : ∀ w ∈ Ts, w.before args s = true) (hT : GoodIn Ts (wsV own index C y ws)) (hw : ws = Cond.codeWith y bytes maxL ret hh :: ws') (hrc : rm.cells = mc) (hrs : rm.slots = ms)
    (hd : y.cls = C ∧ y.cls ≠ "java/lang/invoke/MethodHandle" ∧ y.cls ≠ "java/lang/invoke/VarHandle" ∧ (parseMethodDescriptor y.desc).map (fun d => d.parameters.length) = some n) (hR : rm.frames + 1 ≤ R.frames ∧ 8 + (maxL + 11) + rm.locals ≤ R.locals) :
    vx_CVW R s args own C index y bytes maxL ret hh ws rm mc ms n := by
  obtain ⟨hC, hd⟩ := hd
  subst hC
  have ok : ∀ w ∈ wsV own index y.cls y ws, w.before args s = true := fun w h => ht w (hT w h).1
  have hG : GoodIn Ts ws := fun w h => hT w (by unfold wsV; exact List.mem_append_right _ h)
  have hc : Cond.codeWith y bytes maxL ret hh ∈ ws := by rw [hw]; exact List.mem_cons_self
  refine ⟨⟨hrc, hrs, hR.1, hR.2, pay_in ht hG, hc⟩, ht _ (hG _ hc).1, ok _ (by simp [wsV]), ⟨hd.1, hd.2.1⟩, fun sig h => ?_, ok _ (by simp [wsV]), ok _ (by simp [wsV]), ok _ (by simp [wsV])⟩
  have h2 := hd.2.2
  rw [h] at h2
  exact (Option.some.inj h2).symm
theorem vx_runVW {y : MethodName} {bytes cc : ByteArray} {maxL nL mc ms n index : Nat} {ret : Option FieldType} {hh : List (Nat × Nat × Nat × Nat)} {ws : List Cond} {rm : Room} {Pc : Array Value → State → Prop} {Qc : Array Value → State → Outcome → State → Prop} {free : Addr → Prop} {Ts : List Cond} {own C : String} {b : Addr} {As rest : List Value} {g : JFrame}
    (S : CallFix p m c cc nL s args Ts own) (hM : Met l y ws rm Pc Qc mc ms free) (cw : vx_CVW R s args own C index y bytes maxL ret hh ws rm mc ms n) (hp : PreV s H C b Pc As)
    (hg : g.method = m) (hn : As.length = n) (hsize : g.locals.size = nL) (hstack : g.stack = As.reverse ++ .ref b :: rest) (hW : 2 * g.monitorRoom + (rest.map fun v => v.category).sum ≤ 8) (hdg : decode cc g.pc = .ok (.invokevirtual index, 3)) (hf : cells + mc ≤ R.cells ∧ slots + ms ≤ R.slots) :
    va_Run p l e R s m args below meth c H locs cells slots mc ms g rest (Qc (Value.ref b :: As).toArray) free := by
  obtain ⟨⟨hrc, hrs, hfr, hlo, hws, hcw⟩, hcode, hini, hy, hlen, hl, hin, hse⟩ := cw
  have hK : Back l R p e below s args y 3 8 (PreOf R mc ms Pc) (PostOf Qc mc ms free) := va_backW (hh := hh) (bytes := bytes) (maxL := maxL) (ret := ret) hM hp.1 hrc hrs hfr hlo hws hcw (fun a' U hW => word_at hW (Or.inl (by first | rfl | simp [Cond.onTables, Cond.keeps, Cond.steady])) hini)
  obtain ⟨hx, hb, hml, ho, -⟩ := S
  obtain ⟨-, ⟨cellB, hcB, hoB, hclB⟩, hPc⟩ := hp
  intro T hT X
  obtain ⟨v, vm₁, ⟨U', l2, c2, s2⟩, hW₁, X', ⟨g', mk, t, L, e1, e2, hq, h1, hL, h2, h3⟩, st⟩ := vx_callVW X hx (C := C) (hh := hh) (bytes := bytes) (maxL := maxL) (ret := ret) ho hl hin hse hcode hy hK (by rw [hT]; exact hcB) hoB hclB hg (hsize.trans hml.symm) (argsL := As) (rest := rest) (fun sig h => hn.trans (hlen sig h)) hstack hW (by rw [hb]; exact hdg)
    (fun vm₁ hW₁ => ⟨hf.1, hf.2, hPc (T.setVm vm₁) hT hW₁⟩)
  dsimp only [Pt.U, Pt.locs, Pt.cells, Pt.slots] at X' e1 e2 h1 h2 h3 st
  subst h1; subst h2; subst h3
  exact ⟨v, (T.setVm vm₁).calling g' mk (Value.ref b :: As).toArray, t, U', L, hT, X', hL, e1, e2, hq, st⟩
section
variable {y : MethodName} {bytes cc : ByteArray} {maxL nL mc ms n index : Nat} {ret : Option FieldType} {ws : List Cond} {rm : Room} {Pc : Array Value → State → Prop} {Qc : Array Value → State → Outcome → State → Prop} {XC : String → State → State → Prop} {free : Addr → Prop} {Ts : List Cond} {own C : String} {b : Addr} {As rest : List Value} {g : JFrame}
theorem vx_runVX {hh : List (Nat × Nat × Nat × Nat)} (S : CallFix p m c cc nL s args Ts own) (hM : vx_Met l y ws rm Pc Qc XC mc ms free) (cw : vx_CVW R s args own C index y bytes maxL ret hh ws rm mc ms n) (hp : PreV s H C b Pc As)
    (hg : g.method = m) (hn : As.length = n) (hsize : g.locals.size = nL) (hstack : g.stack = As.reverse ++ .ref b :: rest) (hW : 2 * g.monitorRoom + (rest.map fun v => v.category).sum ≤ 8) (hdg : decode cc g.pc = .ok (.invokevirtual index, 3)) (hf : cells + mc ≤ R.cells ∧ slots + ms ≤ R.slots) :
    vx_Run p l e R s m args below meth c H locs cells slots mc ms g rest (Qc (Value.ref b :: As).toArray) XC free := by
  obtain ⟨⟨hrc, hrs, hfr, hlo, hws, hcw⟩, hcode, hini, hy, hlen, hl, hin, hse⟩ := cw
  have hK : vx_Back l R p e below s args y 3 8 (PreOf R mc ms Pc) (PostOf Qc mc ms free) (vx_Post XC mc ms free) := vx_backW (hh := hh) (bytes := bytes) (maxL := maxL) (ret := ret) hM hp.1 hrc hrs hfr hlo hws hcw (fun a' U hW => word_at hW (Or.inl (by first | rfl | simp [Cond.onTables, Cond.keeps, Cond.steady])) hini)
  obtain ⟨hx, hb, hml, ho, -⟩ := S
  obtain ⟨-, ⟨cellB, hcB, hoB, hclB⟩, hPc⟩ := hp
  intro T hT X
  rcases vx_callVX X hx (C := C) (hh := hh) (bytes := bytes) (maxL := maxL) (ret := ret) ho hl hin hse hcode hy hK (by rw [hT]; exact hcB) hoB hclB hg (hsize.trans hml.symm) (argsL := As) (rest := rest) (fun sig h => hn.trans (hlen sig h)) hstack hW (by rw [hb]; exact hdg)
    (fun vm₁ hW₁ => ⟨hf.1, hf.2, hPc (T.setVm vm₁) hT hW₁⟩) with ⟨v, vm₁, ⟨U', l2, c2, s2⟩, hW₁, X', ⟨g', mk, t, L, e1, e2, hq, h1, hL, h2, h3⟩, st⟩ | ⟨q, vm₁, ⟨U', l2, c2, s2⟩, hW₁, X', ⟨g', mk, t, L, E, ce, e1, e2, hq, hce, hcv, hcl, h1, hL, h2, h3⟩, st⟩
  · dsimp only [Pt.U, Pt.locs, Pt.cells, Pt.slots] at X' e1 e2 h1 h2 h3 st
    subst h1; subst h2; subst h3
    exact Or.inl ⟨v, (T.setVm vm₁).calling g' mk (Value.ref b :: As).toArray, t, U', L, hT, X', hL, e1, e2, hq, st⟩
  · dsimp only [Pt.U, Pt.locs, Pt.cells, Pt.slots] at X' e1 e2 h1 h2 h3 st hcl
    subst h1; subst h2; subst h3
    exact Or.inr ⟨q, (T.setVm vm₁).calling g' mk (Value.ref b :: As).toArray, t, U', L, E, ce, hT, X', hL, e1, e2, hq, hce, hcv, vx_cls hW₁ hcl, st⟩
theorem vx_runSX {hh : List (Nat × Nat × Nat × Nat)} (S : CallFix p m c cc nL s args Ts own) (hM : vx_Met l y ws rm Pc Qc XC mc ms free) (cw : vx_CSW R s args own index y bytes maxL ret hh ws rm mc ms n) (hp : PreS s H Pc As)
    (hg : g.method = m) (hn : As.length = n) (hsize : g.locals.size = nL) (hstack : g.stack = As.reverse ++ rest) (hW : 2 * g.monitorRoom + (rest.map fun v => v.category).sum ≤ 8) (hdg : decode cc g.pc = .ok (.invokestatic index, 3)) (hf : cells + mc ≤ R.cells ∧ slots + ms ≤ R.slots) :
    vx_Run p l e R s m args below meth c H locs cells slots mc ms g rest (Qc As.toArray) XC free := by
  obtain ⟨⟨hrc, hrs, hfr, hlo, hws, hcw⟩, hcode, hini, hy, hlen, hl, hstt⟩ := cw
  have hK : vx_Back l R p e below s args y 3 8 (PreOf R mc ms Pc) (PostOf Qc mc ms free) (vx_Post XC mc ms free) := vx_backW (hh := hh) (bytes := bytes) (maxL := maxL) (ret := ret) hM hp.1 hrc hrs hfr hlo hws hcw (fun a' U hW => word_at hW (Or.inl (by first | rfl | simp [Cond.onTables, Cond.keeps, Cond.steady])) hini)
  obtain ⟨hx, hb, hml, ho, -⟩ := S
  intro T hT X
  rcases vx_callSX X hx (hh := hh) (bytes := bytes) (maxL := maxL) (ret := ret) ho hl hstt hini hcode hy hK hg (hsize.trans hml.symm) (argsL := As) (rest := rest) (fun sig h => hn.trans (hlen sig h)) hstack hW (by rw [hb]; exact hdg)
    (fun vm₁ hW₁ => ⟨hf.1, hf.2, hp.2 (T.setVm vm₁) hT hW₁⟩) with ⟨v, vm₁, ⟨U', l2, c2, s2⟩, hW₁, X', ⟨g', mk, t, L, e1, e2, hq, h1, hL, h2, h3⟩, st⟩ | ⟨q, vm₁, ⟨U', l2, c2, s2⟩, hW₁, X', ⟨g', mk, t, L, E, ce, e1, e2, hq, hce, hcv, hcl, h1, hL, h2, h3⟩, st⟩
  · dsimp only [Pt.U, Pt.locs, Pt.cells, Pt.slots] at X' e1 e2 h1 h2 h3 st
    subst h1; subst h2; subst h3
    exact Or.inl ⟨v, (T.setVm vm₁).calling g' mk As.toArray, t, U', L, hT, X', hL, e1, e2, hq, st⟩
  · dsimp only [Pt.U, Pt.locs, Pt.cells, Pt.slots] at X' e1 e2 h1 h2 h3 st hcl
    subst h1; subst h2; subst h3
    exact Or.inr ⟨q, (T.setVm vm₁).calling g' mk As.toArray, t, U', L, E, ce, hT, X', hL, e1, e2, hq, hce, hcv, vx_cls hW₁ hcl, st⟩
end
end VXH
theorem vx_ofWH {l : Launch} {y : MethodName} {ws ws' : List Cond} {rm : Room} {Pc : Array Value → State → Prop} {Qc : Array Value → State → Outcome → State → Prop} {XC : String → State → State → Prop} {mc ms : Nat} {free : Addr → Prop} {cc : ByteArray} {maxL : Nat} {ret : Option FieldType} {hh : List (Nat × Nat × Nat × Nat)}
    (hy : plainName y.cls = true) (hw : ws = Cond.codeWith y cc maxL ret hh :: ws')
    (body : ∀ p e s m args below meth c s₁, BodyLoose p l y (headSpec ws rm) cc maxL ret e s m args below meth c s₁ → c.maxLocals = maxL → Pc args s →
      W p l e (headSpec ws rm).room s m args below meth c s.heap [] 0 0 (vx_MQ below Qc XC args s mc ms free) (entryFrame m args maxL)) : vx_Met l y ws rm Pc Qc XC mc ms free := by
  refine MetFree.of_bodyS (code := cc) (maxLocals := maxL) (ret := ret) hy ?_ ?_
  · intro args s m h hn
    obtain ⟨m9, meth, c, hn9, h1, h2, h3, h4, -, h5, h6, -⟩ := Cond.codeWith_spec (atoms_spec (ws := ws) h _ (by rw [hw]; exact List.mem_cons_self))
    cases hn.symm.trans hn9
    exact ⟨meth, c, h1, h2, h3, h4, h5, h6⟩
  · intro p e s m args below meth c s₁ B hml hP _
    have hh0 : s₁.heap = s.heap := by rw [B.state]; rfl
    obtain ⟨t, a1, o, b1, b2, b3⟩ := body p e s m args below meth c s₁ B hml hP s₁ hh0 (Stand.of_body B)
    exact ⟨t, o, a1, b1, b2, b3⟩
/-! ===== END ===== -/
end
section
/-! ===== BEGIN printed: names, fields, word lists, decode rows ===== -/
def RX0 : String := "FragmentLog$Blocks"
def TX0 : u_T := fun k => match k with
  | 0 => ("FragmentLog$Blocks", "bytes", "LFragmentLog$Row;", true)
  | _ => ("FragmentLog$Blocks", "size", "I", false)
def tyX0 : Nat → FieldType := fun k => match k with
  | 0 => .object "FragmentLog$Row"
  | _ => .int
abbrev wsX00 : List Cond := u_ws RX0 TX0 2
theorem nmX0 : ∀ a, a < 2 → ∀ b, b < 2 → a ≠ b → (TX0 a).2.1 ≠ (TX0 b).2.1 := by decide +kernel
theorem tyX0_ok : ∀ k, k < 2 → parseFieldDescriptor (TX0 k).2.2.1 = some (tyX0 k) := by decide +kernel
abbrev cX0_init : ByteArray := prog_2_method_1_code
def yX0_init : MethodName := ⟨RX0, "<init>", "()V"⟩
abbrev cX0_bytes : ByteArray := prog_2_method_2_code
def yX0_bytes : MethodName := ⟨RX0, "bytes", "()LFragmentLog$Row;"⟩
abbrev cX0_startAnew : ByteArray := prog_2_method_3_code
def yX0_startAnew : MethodName := ⟨RX0, "startAnew", "(I)V"⟩
abbrev cX0_startOfBlock : ByteArray := prog_2_method_4_code
def yX0_startOfBlock : MethodName := ⟨RX0, "startOfBlock", "(I)I"⟩
abbrev cX0_endOfBlock : ByteArray := prog_2_method_5_code
def yX0_endOfBlock : MethodName := ⟨RX0, "endOfBlock", "(I)I"⟩
abbrev cX0_isWhole : ByteArray := prog_2_method_6_code
def yX0_isWhole : MethodName := ⟨RX0, "isWhole", "(I)Z"⟩
abbrev cX0_leftInBlock : ByteArray := prog_2_method_7_code
def yX0_leftInBlock : MethodName := ⟨RX0, "leftInBlock", "(I)I"⟩
abbrev cX0_addRecord : ByteArray := prog_2_method_8_code
def yX0_addRecord : MethodName := ⟨RX0, "addRecord", "(LFragmentLog$Row;)Z"⟩
abbrev cX0_addPieces : ByteArray := prog_2_method_9_code
def yX0_addPieces : MethodName := ⟨RX0, "addPieces", "(LFragmentLog$Row;)Z"⟩
abbrev cX0_fillBlock : ByteArray := prog_2_method_10_code
def yX0_fillBlock : MethodName := ⟨RX0, "fillBlock", "()Z"⟩
abbrev cX0_roomInBlock : ByteArray := prog_2_method_11_code
def yX0_roomInBlock : MethodName := ⟨RX0, "roomInBlock", "()I"⟩
abbrev cX0_kindOf : ByteArray := prog_2_method_12_code
def yX0_kindOf : MethodName := ⟨RX0, "kindOf", "(ZZ)I"⟩
abbrev cX0_addFragment : ByteArray := prog_2_method_13_code
def yX0_addFragment : MethodName := ⟨RX0, "addFragment", "(ILFragmentLog$Row;II)Z"⟩
def RX1 : String := "FragmentLog$Drops"
def TX1 : u_T := fun k => match k with
  | 0 => ("FragmentLog$Drops", "which", "[I", true)
  | 1 => ("FragmentLog$Drops", "bytes", "[I", true)
  | 2 => ("FragmentLog$Drops", "many", "I", false)
  | _ => ("FragmentLog$Drops", "allBytes", "I", false)
def tyX1 : Nat → FieldType := fun k => match k with
  | 0 => .array .int
  | 1 => .array .int
  | 2 => .int
  | _ => .int
abbrev wsX10 : List Cond := u_ws RX1 TX1 4
theorem nmX1 : ∀ a, a < 4 → ∀ b, b < 4 → a ≠ b → (TX1 a).2.1 ≠ (TX1 b).2.1 := by decide +kernel
theorem tyX1_ok : ∀ k, k < 4 → parseFieldDescriptor (TX1 k).2.2.1 = some (tyX1 k) := by decide +kernel
abbrev cX1_init : ByteArray := prog_3_method_1_code
def yX1_init : MethodName := ⟨RX1, "<init>", "()V"⟩
abbrev cX1_forget : ByteArray := prog_3_method_2_code
def yX1_forget : MethodName := ⟨RX1, "forget", "()V"⟩
abbrev cX1_tell : ByteArray := prog_3_method_3_code
def yX1_tell : MethodName := ⟨RX1, "tell", "(II)V"⟩
abbrev cX1_many : ByteArray := prog_3_method_4_code
def yX1_many : MethodName := ⟨RX1, "many", "()I"⟩
abbrev cX1_allBytes : ByteArray := prog_3_method_5_code
def yX1_allBytes : MethodName := ⟨RX1, "allBytes", "()I"⟩
abbrev cX1_whichAt : ByteArray := prog_3_method_6_code
def yX1_whichAt : MethodName := ⟨RX1, "whichAt", "(I)I"⟩
abbrev cX1_bytesAt : ByteArray := prog_3_method_7_code
def yX1_bytesAt : MethodName := ⟨RX1, "bytesAt", "(I)I"⟩
abbrev cX1_isKept : ByteArray := prog_3_method_8_code
def yX1_isKept : MethodName := ⟨RX1, "isKept", "(I)Z"⟩
def RX2 : String := "FragmentLog$Reader"
def TX2 : u_T := fun k => match k with
  | 0 => ("FragmentLog$Reader", "blocks", "LFragmentLog$Blocks;", true)
  | 1 => ("FragmentLog$Reader", "drops", "LFragmentLog$Drops;", true)
  | 2 => ("FragmentLog$Reader", "record", "LFragmentLog$Row;", true)
  | 3 => ("FragmentLog$Reader", "recordPlace", "I", false)
  | 4 => ("FragmentLog$Reader", "hasFirst", "Z", false)
  | 5 => ("FragmentLog$Reader", "place", "I", false)
  | 6 => ("FragmentLog$Reader", "begun", "I", false)
  | 7 => ("FragmentLog$Reader", "lost", "Z", false)
  | 8 => ("FragmentLog$Reader", "fragmentPlace", "I", false)
  | _ => ("FragmentLog$Reader", "fragmentBytes", "I", false)
def tyX2 : Nat → FieldType := fun k => match k with
  | 0 => .object "FragmentLog$Blocks"
  | 1 => .object "FragmentLog$Drops"
  | 2 => .object "FragmentLog$Row"
  | 3 => .int
  | 4 => .boolean
  | 5 => .int
  | 6 => .int
  | 7 => .boolean
  | 8 => .int
  | _ => .int
abbrev wsX20 : List Cond := u_ws RX2 TX2 10
theorem nmX2 : ∀ a, a < 10 → ∀ b, b < 10 → a ≠ b → (TX2 a).2.1 ≠ (TX2 b).2.1 := by decide +kernel
theorem tyX2_ok : ∀ k, k < 10 → parseFieldDescriptor (TX2 k).2.2.1 = some (tyX2 k) := by decide +kernel
abbrev cX2_init : ByteArray := prog_4_method_1_code
def yX2_init : MethodName := ⟨RX2, "<init>", "(LFragmentLog$Blocks;)V"⟩
abbrev cX2_place : ByteArray := prog_4_method_2_code
def yX2_place : MethodName := ⟨RX2, "place", "()I"⟩
abbrev cX2_isLost : ByteArray := prog_4_method_3_code
def yX2_isLost : MethodName := ⟨RX2, "isLost", "()Z"⟩
abbrev cX2_drops : ByteArray := prog_4_method_4_code
def yX2_drops : MethodName := ⟨RX2, "drops", "()LFragmentLog$Drops;"⟩
abbrev cX2_record : ByteArray := prog_4_method_5_code
def yX2_record : MethodName := ⟨RX2, "record", "()LFragmentLog$Row;"⟩
abbrev cX2_recordPlace : ByteArray := prog_4_method_6_code
def yX2_recordPlace : MethodName := ⟨RX2, "recordPlace", "()I"⟩
abbrev cX2_beginAt : ByteArray := prog_4_method_7_code
def yX2_beginAt : MethodName := ⟨RX2, "beginAt", "(I)V"⟩
abbrev cX2_findRecord : ByteArray := prog_4_method_8_code
def yX2_findRecord : MethodName := ⟨RX2, "findRecord", "()Z"⟩
abbrev cX2_nextBit : ByteArray := prog_4_method_9_code
def yX2_nextBit : MethodName := ⟨RX2, "nextBit", "()I"⟩
abbrev cX2_isCheckRight : ByteArray := prog_4_method_10_code
def yX2_isCheckRight : MethodName := ⟨RX2, "isCheckRight", "(II)Z"⟩
abbrev cX2_breakBlock : ByteArray := prog_4_method_11_code
def yX2_breakBlock : MethodName := ⟨RX2, "breakBlock", "(II)I"⟩
abbrev cX2_tear : ByteArray := prog_4_method_12_code
def yX2_tear : MethodName := ⟨RX2, "tear", "()V"⟩
abbrev cX2_passesOver : ByteArray := prog_4_method_13_code
def yX2_passesOver : MethodName := ⟨RX2, "passesOver", "(I)Z"⟩
abbrev cX2_takeFragment : ByteArray := prog_4_method_14_code
def yX2_takeFragment : MethodName := ⟨RX2, "takeFragment", "(I)Z"⟩
abbrev cX2_startRecord : ByteArray := prog_4_method_15_code
def yX2_startRecord : MethodName := ⟨RX2, "startRecord", "()V"⟩
abbrev cX2_goOnWithRecord : ByteArray := prog_4_method_16_code
def yX2_goOnWithRecord : MethodName := ⟨RX2, "goOnWithRecord", "()Z"⟩
abbrev cX2_addFragmentBytes : ByteArray := prog_4_method_17_code
def yX2_addFragmentBytes : MethodName := ⟨RX2, "addFragmentBytes", "()V"⟩
abbrev cX2_dropRecord : ByteArray := prog_4_method_18_code
def yX2_dropRecord : MethodName := ⟨RX2, "dropRecord", "()V"⟩
def RX3 : String := "FragmentLog$Row"
def TX3 : u_T := fun k => match k with
  | 0 => ("FragmentLog$Row", "held", "[B", true)
  | _ => ("FragmentLog$Row", "many", "I", false)
def tyX3 : Nat → FieldType := fun k => match k with
  | 0 => .array .byte
  | _ => .int
abbrev wsX30 : List Cond := u_ws RX3 TX3 2
theorem nmX3 : ∀ a, a < 2 → ∀ b, b < 2 → a ≠ b → (TX3 a).2.1 ≠ (TX3 b).2.1 := by decide +kernel
theorem tyX3_ok : ∀ k, k < 2 → parseFieldDescriptor (TX3 k).2.2.1 = some (tyX3 k) := by decide +kernel
abbrev cX3_init : ByteArray := prog_5_method_1_code
def yX3_init : MethodName := ⟨RX3, "<init>", "(I)V"⟩
abbrev cX3_many : ByteArray := prog_5_method_2_code
def yX3_many : MethodName := ⟨RX3, "many", "()I"⟩
abbrev cX3_hasRoomFor : ByteArray := prog_5_method_3_code
def yX3_hasRoomFor : MethodName := ⟨RX3, "hasRoomFor", "(I)Z"⟩
abbrev cX3_has : ByteArray := prog_5_method_4_code
def yX3_has : MethodName := ⟨RX3, "has", "(I)Z"⟩
abbrev cX3_at : ByteArray := prog_5_method_5_code
def yX3_at : MethodName := ⟨RX3, "at", "(I)I"⟩
abbrev cX3_add : ByteArray := prog_5_method_6_code
def yX3_add : MethodName := ⟨RX3, "add", "(I)V"⟩
abbrev cX3_addLowestFirst : ByteArray := prog_5_method_7_code
def yX3_addLowestFirst : MethodName := ⟨RX3, "addLowestFirst", "(II)V"⟩
abbrev cX3_addPart : ByteArray := prog_5_method_8_code
def yX3_addPart : MethodName := ⟨RX3, "addPart", "(LFragmentLog$Row;II)V"⟩
abbrev cX3_numberLowestFirst : ByteArray := prog_5_method_9_code
def yX3_numberLowestFirst : MethodName := ⟨RX3, "numberLowestFirst", "(II)I"⟩
abbrev cX3_replace : ByteArray := prog_5_method_10_code
def yX3_replace : MethodName := ⟨RX3, "replace", "(II)V"⟩
abbrev cX3_shorten : ByteArray := prog_5_method_11_code
def yX3_shorten : MethodName := ⟨RX3, "shorten", "(I)V"⟩
def RX4 : String := "FragmentLog$Sum"
def TX4 : u_T := fun k => match k with
  | _ => ("", "", "", false)
def tyX4 : Nat → FieldType := fun k => match k with
  | _ => .int
abbrev wsX40 : List Cond := u_ws RX4 TX4 0
theorem nmX4 : ∀ a, a < 0 → ∀ b, b < 0 → a ≠ b → (TX4 a).2.1 ≠ (TX4 b).2.1 := by decide +kernel
theorem tyX4_ok : ∀ k, k < 0 → parseFieldDescriptor (TX4 k).2.2.1 = some (tyX4 k) := by decide +kernel
abbrev cX4_of : ByteArray := prog_6_method_2_code
def yX4_of : MethodName := ⟨RX4, "of", "(ILFragmentLog$Row;II)I"⟩
abbrev cX4_withByte : ByteArray := prog_6_method_3_code
def yX4_withByte : MethodName := ⟨RX4, "withByte", "(II)I"⟩
def RX5 : String := "FragmentLog"
def TX5 : u_T := fun k => match k with
  | 0 => ("FragmentLog", "buffer", "LFragmentLog$Row;", true)
  | 1 => ("FragmentLog", "blocks", "LFragmentLog$Blocks;", true)
  | _ => ("FragmentLog", "reader", "LFragmentLog$Reader;", true)
def tyX5 : Nat → FieldType := fun k => match k with
  | 0 => .object "FragmentLog$Row"
  | 1 => .object "FragmentLog$Blocks"
  | _ => .object "FragmentLog$Reader"
abbrev wsX50 : List Cond := u_ws RX5 TX5 3
theorem nmX5 : ∀ a, a < 3 → ∀ b, b < 3 → a ≠ b → (TX5 a).2.1 ≠ (TX5 b).2.1 := by decide +kernel
theorem tyX5_ok : ∀ k, k < 3 → parseFieldDescriptor (TX5 k).2.2.1 = some (tyX5 k) := by decide +kernel
abbrev cX5_init : ByteArray := prog_1_method_1_code
def yX5_init : MethodName := ⟨RX5, "<init>", "()V"⟩
abbrev cX5_clear : ByteArray := prog_1_method_2_code
def yX5_clear : MethodName := ⟨RX5, "clear", "(I)V"⟩
abbrev cX5_feed : ByteArray := prog_1_method_3_code
def yX5_feed : MethodName := ⟨RX5, "feed", "(IIIII)I"⟩
abbrev cX5_feedFrom : ByteArray := prog_1_method_4_code
def yX5_feedFrom : MethodName := ⟨RX5, "feedFrom", "(II)V"⟩
abbrev cX5_erase : ByteArray := prog_1_method_5_code
def yX5_erase : MethodName := ⟨RX5, "erase", "()I"⟩
abbrev cX5_check : ByteArray := prog_1_method_6_code
def yX5_check : MethodName := ⟨RX5, "check", "(I)I"⟩
abbrev cX5_append : ByteArray := prog_1_method_7_code
def yX5_append : MethodName := ⟨RX5, "append", "()I"⟩
abbrev cX5_raw : ByteArray := prog_1_method_8_code
def yX5_raw : MethodName := ⟨RX5, "raw", "(I)I"⟩
abbrev cX5_put : ByteArray := prog_1_method_9_code
def yX5_put : MethodName := ⟨RX5, "put", "(II)I"⟩
abbrev cX5_cut : ByteArray := prog_1_method_10_code
def yX5_cut : MethodName := ⟨RX5, "cut", "(I)I"⟩
abbrev cX5_begin : ByteArray := prog_1_method_11_code
def yX5_begin : MethodName := ⟨RX5, "begin", "(I)I"⟩
abbrev cX5_read : ByteArray := prog_1_method_12_code
def yX5_read : MethodName := ⟨RX5, "read", "()I"⟩
abbrev cX5_octet : ByteArray := prog_1_method_13_code
def yX5_octet : MethodName := ⟨RX5, "octet", "(I)I"⟩
abbrev cX5_first : ByteArray := prog_1_method_14_code
def yX5_first : MethodName := ⟨RX5, "first", "()I"⟩
abbrev cX5_count : ByteArray := prog_1_method_15_code
def yX5_count : MethodName := ⟨RX5, "count", "(I)I"⟩
abbrev cX5_told : ByteArray := prog_1_method_16_code
def yX5_told : MethodName := ⟨RX5, "told", "(II)I"⟩
abbrev cX5_log : ByteArray := prog_1_method_17_code
def yX5_log : MethodName := ⟨RX5, "log", "(I)I"⟩
abbrev cX5_isByte : ByteArray := prog_1_method_18_code
def yX5_isByte : MethodName := ⟨RX5, "isByte", "(I)Z"⟩
def RX6 : String := "FragmentLogModel"
def TX6 : u_T := fun k => match k with
  | 0 => ("FragmentLogModel", "fault", "I", false)
  | 1 => ("FragmentLogModel", "size", "I", false)
  | 2 => ("FragmentLogModel", "all", "I", false)
  | 3 => ("FragmentLogModel", "bytes", "[I", true)
  | 4 => ("FragmentLogModel", "bufferSize", "I", false)
  | 5 => ("FragmentLogModel", "buffer", "[I", true)
  | 6 => ("FragmentLogModel", "place", "I", false)
  | 7 => ("FragmentLogModel", "begun", "I", false)
  | 8 => ("FragmentLogModel", "isLost", "Z", false)
  | 9 => ("FragmentLogModel", "hasSize", "I", false)
  | 10 => ("FragmentLogModel", "hasFirst", "Z", false)
  | 11 => ("FragmentLogModel", "has", "[I", true)
  | 12 => ("FragmentLogModel", "hasFrom", "I", false)
  | 13 => ("FragmentLogModel", "recordSize", "I", false)
  | 14 => ("FragmentLogModel", "recordFrom", "I", false)
  | 15 => ("FragmentLogModel", "record", "[I", true)
  | 16 => ("FragmentLogModel", "told", "I", false)
  | 17 => ("FragmentLogModel", "toldBytes", "I", false)
  | 18 => ("FragmentLogModel", "toldWhich", "[I", true)
  | 19 => ("FragmentLogModel", "toldMany", "[I", true)
  | 20 => ("FragmentLogModel", "from", "I", false)
  | 21 => ("FragmentLogModel", "length", "I", false)
  | _ => ("FragmentLogModel", "hasBegun", "Z", false)
def tyX6 : Nat → FieldType := fun k => match k with
  | 0 => .int
  | 1 => .int
  | 2 => .int
  | 3 => .array .int
  | 4 => .int
  | 5 => .array .int
  | 6 => .int
  | 7 => .int
  | 8 => .boolean
  | 9 => .int
  | 10 => .boolean
  | 11 => .array .int
  | 12 => .int
  | 13 => .int
  | 14 => .int
  | 15 => .array .int
  | 16 => .int
  | 17 => .int
  | 18 => .array .int
  | 19 => .array .int
  | 20 => .int
  | 21 => .int
  | _ => .boolean
abbrev wsX60 : List Cond := u_ws RX6 TX6 23
theorem nmX6 : ∀ a, a < 23 → ∀ b, b < 23 → a ≠ b → (TX6 a).2.1 ≠ (TX6 b).2.1 := by decide +kernel
theorem tyX6_ok : ∀ k, k < 23 → parseFieldDescriptor (TX6 k).2.2.1 = some (tyX6 k) := by decide +kernel
abbrev cX6_init : ByteArray := prog_8_method_1_code
def yX6_init : MethodName := ⟨RX6, "<init>", "()V"⟩
abbrev cX6_thrown : ByteArray := prog_8_method_2_code
def yX6_thrown : MethodName := ⟨RX6, "thrown", "()I"⟩
abbrev cX6_refused : ByteArray := prog_8_method_3_code
def yX6_refused : MethodName := ⟨RX6, "refused", "(I)Z"⟩
abbrev cX6_isIn : ByteArray := prog_8_method_4_code
def yX6_isIn : MethodName := ⟨RX6, "isIn", "(III)Z"⟩
abbrev cX6_beginAt : ByteArray := prog_8_method_5_code
def yX6_beginAt : MethodName := ⟨RX6, "beginAt", "(I)V"⟩
abbrev cX6_clear : ByteArray := prog_8_method_6_code
def yX6_clear : MethodName := ⟨RX6, "clear", "(I)V"⟩
abbrev cX6_feed : ByteArray := prog_8_method_7_code
def yX6_feed : MethodName := ⟨RX6, "feed", "(IIIII)I"⟩
abbrev cX6_erase : ByteArray := prog_8_method_8_code
def yX6_erase : MethodName := ⟨RX6, "erase", "()I"⟩
abbrev cX6_more : ByteArray := prog_8_method_9_code
def yX6_more : MethodName := ⟨RX6, "more", "(II)I"⟩
abbrev cX6_masked : ByteArray := prog_8_method_10_code
def yX6_masked : MethodName := ⟨RX6, "masked", "(I)I"⟩
abbrev cX6_checkOf : ByteArray := prog_8_method_11_code
def yX6_checkOf : MethodName := ⟨RX6, "checkOf", "(III)I"⟩
abbrev cX6_check : ByteArray := prog_8_method_12_code
def yX6_check : MethodName := ⟨RX6, "check", "(I)I"⟩
abbrev cX6_put : ByteArray := prog_8_method_13_code
def yX6_put : MethodName := ⟨RX6, "put", "(I)V"⟩
abbrev cX6_putFragment : ByteArray := prog_8_method_14_code
def yX6_putFragment : MethodName := ⟨RX6, "putFragment", "(III)V"⟩
abbrev cX6_appendedSize : ByteArray := prog_8_method_15_code
def yX6_appendedSize : MethodName := ⟨RX6, "appendedSize", "()I"⟩
abbrev cX6_append : ByteArray := prog_8_method_16_code
def yX6_append : MethodName := ⟨RX6, "append", "()I"⟩
abbrev cX6_raw : ByteArray := prog_8_method_17_code
def yX6_raw : MethodName := ⟨RX6, "raw", "(I)I"⟩
abbrev cX6_put_ : ByteArray := prog_8_method_18_code
def yX6_put_ : MethodName := ⟨RX6, "put", "(II)I"⟩
abbrev cX6_cut : ByteArray := prog_8_method_19_code
def yX6_cut : MethodName := ⟨RX6, "cut", "(I)I"⟩
abbrev cX6_begin : ByteArray := prog_8_method_20_code
def yX6_begin : MethodName := ⟨RX6, "begin", "(I)I"⟩
abbrev cX6_tell : ByteArray := prog_8_method_21_code
def yX6_tell : MethodName := ⟨RX6, "tell", "(II)V"⟩
abbrev cX6_fragment : ByteArray := prog_8_method_22_code
def yX6_fragment : MethodName := ⟨RX6, "fragment", "()I"⟩
abbrev cX6_take : ByteArray := prog_8_method_23_code
def yX6_take : MethodName := ⟨RX6, "take", "()V"⟩
abbrev cX6_drop : ByteArray := prog_8_method_24_code
def yX6_drop : MethodName := ⟨RX6, "drop", "()V"⟩
abbrev cX6_start : ByteArray := prog_8_method_25_code
def yX6_start : MethodName := ⟨RX6, "start", "()V"⟩
abbrev cX6_finish : ByteArray := prog_8_method_26_code
def yX6_finish : MethodName := ⟨RX6, "finish", "()V"⟩
abbrev cX6_passOn : ByteArray := prog_8_method_27_code
def yX6_passOn : MethodName := ⟨RX6, "passOn", "(I)Z"⟩
abbrev cX6_read : ByteArray := prog_8_method_28_code
def yX6_read : MethodName := ⟨RX6, "read", "()I"⟩
abbrev cX6_octet : ByteArray := prog_8_method_29_code
def yX6_octet : MethodName := ⟨RX6, "octet", "(I)I"⟩
abbrev cX6_first : ByteArray := prog_8_method_30_code
def yX6_first : MethodName := ⟨RX6, "first", "()I"⟩
abbrev cX6_count : ByteArray := prog_8_method_31_code
def yX6_count : MethodName := ⟨RX6, "count", "(I)I"⟩
abbrev cX6_told : ByteArray := prog_8_method_32_code
def yX6_told : MethodName := ⟨RX6, "told", "(II)I"⟩
abbrev cX6_log : ByteArray := prog_8_method_33_code
def yX6_log : MethodName := ⟨RX6, "log", "(I)I"⟩
def RJ9 : String := "java/lang/Math"
def TJ9 : u_T := fun k => match k with
  | _ => ("", "", "", false)
def tyJ9 : Nat → FieldType := fun k => match k with
  | _ => .int
abbrev wsJ90 : List Cond := u_ws RJ9 TJ9 0
theorem nmJ9 : ∀ a, a < 0 → ∀ b, b < 0 → a ≠ b → (TJ9 a).2.1 ≠ (TJ9 b).2.1 := by decide +kernel
theorem tyJ9_ok : ∀ k, k < 0 → parseFieldDescriptor (TJ9 k).2.2.1 = some (tyJ9 k) := by decide +kernel
abbrev cJ9_min_7cf53 : ByteArray := prog_13_method_69_code
def yJ9_min_7cf53 : MethodName := ⟨RJ9, "min", "(II)I"⟩
def RJ0 : String := "java/lang/String"
def TJ0 : u_T := fun k => match k with
  | _ => ("", "", "", false)
def tyJ0 : Nat → FieldType := fun k => match k with
  | _ => .int
abbrev wsJ00 : List Cond := u_ws RJ0 TJ0 0
theorem nmJ0 : ∀ a, a < 0 → ∀ b, b < 0 → a ≠ b → (TJ0 a).2.1 ≠ (TJ0 b).2.1 := by decide +kernel
theorem tyJ0_ok : ∀ k, k < 0 → parseFieldDescriptor (TJ0 k).2.2.1 = some (tyJ0 k) := by decide +kernel
def RL : String := "FragmentLogLaw"
abbrev cL_clear : ByteArray := method_3_code
def yL_clear : MethodName := ⟨RL, "clear", "(LFragmentLog;I)I"⟩
abbrev cL_feed : ByteArray := method_4_code
def yL_feed : MethodName := ⟨RL, "feed", "(LFragmentLog;IIIII[J)I"⟩
abbrev cL_check : ByteArray := method_5_code
def yL_check : MethodName := ⟨RL, "check", "(LFragmentLog;I[J)I"⟩
abbrev cL_raw : ByteArray := method_6_code
def yL_raw : MethodName := ⟨RL, "raw", "(LFragmentLog;I[J)I"⟩
abbrev cL_put : ByteArray := method_7_code
def yL_put : MethodName := ⟨RL, "put", "(LFragmentLog;II[J)I"⟩
abbrev cL_cut : ByteArray := method_8_code
def yL_cut : MethodName := ⟨RL, "cut", "(LFragmentLog;I[J)I"⟩
abbrev cL_begin : ByteArray := method_9_code
def yL_begin : MethodName := ⟨RL, "begin", "(LFragmentLog;I[J)I"⟩
abbrev cL_count : ByteArray := method_10_code
def yL_count : MethodName := ⟨RL, "count", "(LFragmentLog;I[J)I"⟩
abbrev cL_told : ByteArray := method_11_code
def yL_told : MethodName := ⟨RL, "told", "(LFragmentLog;II[J)I"⟩
abbrev cL_law : ByteArray := code
def yL_law : MethodName := ⟨RL, "law", "([I)Z"⟩
def wsX3_init : List Cond := .code yX3_init cX3_init 2 none :: ([.methodLink RX3 3 objectInit, .instanceMethod objectInit, .code objectInit ⟨#[0xb1]⟩ 1 none, .arrayClass .byte, .fieldLink RX3 9 "FragmentLog$Row" "held" "[B", .fieldLink RX3 15 "FragmentLog$Row" "many" "I"] ++ wsX30)
def wsX0_init : List Cond := .code yX0_init cX0_init 1 none :: ([.methodLink RX0 3 objectInit, .instanceMethod objectInit, .code objectInit ⟨#[0xb1]⟩ 1 none, .classLink RX0 9 RX3, .instantiable RX3 2, .initialized RX3, .fieldLink RX0 14 "FragmentLog$Blocks" "bytes" "LFragmentLog$Row;", .fieldLink RX0 20 "FragmentLog$Blocks" "size" "I", .methodLink RX0 11 yX3_init, .instanceMethod yX3_init, .code yX3_init cX3_init 2 none, .methodLink RX3 3 objectInit, .arrayClass .byte, .fieldLink RX3 9 "FragmentLog$Row" "held" "[B", .fieldLink RX3 15 "FragmentLog$Row" "many" "I"] ++ wsX30 ++ wsX00)
def wsX0_bytes : List Cond := .code yX0_bytes cX0_bytes 1 (some (.object "FragmentLog$Row")) :: ([.fieldLink RX0 14 "FragmentLog$Blocks" "bytes" "LFragmentLog$Row;"] ++ wsX00)
def wsX3_shorten : List Cond := .code yX3_shorten cX3_shorten 2 none :: ([.fieldLink RX3 15 "FragmentLog$Row" "many" "I"] ++ wsX30)
def wsX0_startAnew : List Cond := .code yX0_startAnew cX0_startAnew 2 none :: ([.fieldLink RX0 14 "FragmentLog$Blocks" "bytes" "LFragmentLog$Row;", .fieldLink RX0 20 "FragmentLog$Blocks" "size" "I", .methodLink RX0 24 yX3_shorten, .instanceMethod yX3_shorten, .selects RX3 yX3_shorten yX3_shorten, .initialized RX3, .code yX3_shorten cX3_shorten 2 none, .fieldLink RX3 15 "FragmentLog$Row" "many" "I"] ++ wsX00 ++ wsX30)
def wsX0_startOfBlock : List Cond := .code yX0_startOfBlock cX0_startOfBlock 2 (some .int) :: ([.fieldLink RX0 20 "FragmentLog$Blocks" "size" "I"] ++ wsX00)
def wsX0_endOfBlock : List Cond := .code yX0_endOfBlock cX0_endOfBlock 2 (some .int) :: ([.fieldLink RX0 20 "FragmentLog$Blocks" "size" "I", .methodLink RX0 27 yX0_startOfBlock, .instanceMethod yX0_startOfBlock, .selects RX0 yX0_startOfBlock yX0_startOfBlock, .initialized RX0, .code yX0_startOfBlock cX0_startOfBlock 2 (some .int)] ++ wsX00)
def wsX3_many : List Cond := .code yX3_many cX3_many 1 (some .int) :: ([.fieldLink RX3 15 "FragmentLog$Row" "many" "I"] ++ wsX30)
def wsX0_isWhole : List Cond := .code yX0_isWhole cX0_isWhole 2 (some .boolean) :: ([.fieldLink RX0 14 "FragmentLog$Blocks" "bytes" "LFragmentLog$Row;", .methodLink RX0 31 yX0_endOfBlock, .instanceMethod yX0_endOfBlock, .selects RX0 yX0_endOfBlock yX0_endOfBlock, .initialized RX0, .code yX0_endOfBlock cX0_endOfBlock 2 (some .int), .fieldLink RX0 20 "FragmentLog$Blocks" "size" "I", .methodLink RX0 27 yX0_startOfBlock, .instanceMethod yX0_startOfBlock, .selects RX0 yX0_startOfBlock yX0_startOfBlock, .code yX0_startOfBlock cX0_startOfBlock 2 (some .int), .methodLink RX0 34 yX3_many, .instanceMethod yX3_many, .selects RX3 yX3_many yX3_many, .initialized RX3, .code yX3_many cX3_many 1 (some .int), .fieldLink RX3 15 "FragmentLog$Row" "many" "I"] ++ wsX00 ++ wsX30)
def wsX0_leftInBlock : List Cond := .code yX0_leftInBlock cX0_leftInBlock 2 (some .int) :: ([.fieldLink RX0 14 "FragmentLog$Blocks" "bytes" "LFragmentLog$Row;", .methodLink RX0 38 Lib.Math.min.name, .static Lib.Math.min.name, .initialized "java/lang/Math", .code Lib.Math.min.name Lib.Math.min.code 2 (some .int), .methodLink RX0 31 yX0_endOfBlock, .instanceMethod yX0_endOfBlock, .selects RX0 yX0_endOfBlock yX0_endOfBlock, .initialized RX0, .code yX0_endOfBlock cX0_endOfBlock 2 (some .int), .fieldLink RX0 20 "FragmentLog$Blocks" "size" "I", .methodLink RX0 27 yX0_startOfBlock, .instanceMethod yX0_startOfBlock, .selects RX0 yX0_startOfBlock yX0_startOfBlock, .code yX0_startOfBlock cX0_startOfBlock 2 (some .int), .methodLink RX0 34 yX3_many, .instanceMethod yX3_many, .selects RX3 yX3_many yX3_many, .initialized RX3, .code yX3_many cX3_many 1 (some .int), .fieldLink RX3 15 "FragmentLog$Row" "many" "I"] ++ wsX00 ++ wsX30)
def wsX0_roomInBlock : List Cond := .code yX0_roomInBlock cX0_roomInBlock 1 (some .int) :: ([.fieldLink RX0 14 "FragmentLog$Blocks" "bytes" "LFragmentLog$Row;", .methodLink RX0 34 yX3_many, .instanceMethod yX3_many, .selects RX3 yX3_many yX3_many, .initialized RX3, .code yX3_many cX3_many 1 (some .int), .fieldLink RX3 15 "FragmentLog$Row" "many" "I", .methodLink RX0 31 yX0_endOfBlock, .instanceMethod yX0_endOfBlock, .selects RX0 yX0_endOfBlock yX0_endOfBlock, .initialized RX0, .code yX0_endOfBlock cX0_endOfBlock 2 (some .int), .fieldLink RX0 20 "FragmentLog$Blocks" "size" "I", .methodLink RX0 27 yX0_startOfBlock, .instanceMethod yX0_startOfBlock, .selects RX0 yX0_startOfBlock yX0_startOfBlock, .code yX0_startOfBlock cX0_startOfBlock 2 (some .int)] ++ wsX00 ++ wsX30)
def wsX3_hasRoomFor : List Cond := .code yX3_hasRoomFor cX3_hasRoomFor 2 (some .boolean) :: ([.fieldLink RX3 9 "FragmentLog$Row" "held" "[B", .fieldLink RX3 15 "FragmentLog$Row" "many" "I"] ++ wsX30)
def wsX3_add : List Cond := .code yX3_add cX3_add 2 none :: ([.fieldLink RX3 15 "FragmentLog$Row" "many" "I", .fieldLink RX3 9 "FragmentLog$Row" "held" "[B"] ++ wsX30)
def wsX3_addLowestFirst : List Cond := .code yX3_addLowestFirst cX3_addLowestFirst 4 none :: ([.methodLink RX3 19 yX3_add, .instanceMethod yX3_add, .selects RX3 yX3_add yX3_add, .initialized RX3, .code yX3_add cX3_add 2 none, .fieldLink RX3 15 "FragmentLog$Row" "many" "I", .fieldLink RX3 9 "FragmentLog$Row" "held" "[B"] ++ wsX30)
def wsX0_fillBlock_r1 : List Cond := [Cond.fieldLink RX0 14 "FragmentLog$Blocks" "bytes" "LFragmentLog$Row;", Cond.methodLink RX0 52 yX0_roomInBlock, Cond.instanceMethod yX0_roomInBlock, Cond.selects RX0 yX0_roomInBlock yX0_roomInBlock, Cond.initialized RX0, Cond.code yX0_roomInBlock cX0_roomInBlock 1 (some .int), Cond.methodLink RX0 34 yX3_many, Cond.instanceMethod yX3_many, Cond.selects RX3 yX3_many yX3_many, Cond.initialized RX3, Cond.code yX3_many cX3_many 1 (some .int), Cond.fieldLink RX3 15 "FragmentLog$Row" "many" "I", Cond.methodLink RX0 31 yX0_endOfBlock, Cond.instanceMethod yX0_endOfBlock, Cond.selects RX0 yX0_endOfBlock yX0_endOfBlock, Cond.code yX0_endOfBlock cX0_endOfBlock 2 (some .int), Cond.fieldLink RX0 20 "FragmentLog$Blocks" "size" "I", Cond.methodLink RX0 27 yX0_startOfBlock, Cond.instanceMethod yX0_startOfBlock, Cond.selects RX0 yX0_startOfBlock yX0_startOfBlock, Cond.code yX0_startOfBlock cX0_startOfBlock 2 (some .int), Cond.methodLink RX0 63 yX3_hasRoomFor, Cond.instanceMethod yX3_hasRoomFor, Cond.selects RX3 yX3_hasRoomFor yX3_hasRoomFor]
def wsX0_fillBlock_r2 : List Cond := [Cond.code yX3_hasRoomFor cX3_hasRoomFor 2 (some .boolean), Cond.fieldLink RX3 9 "FragmentLog$Row" "held" "[B", Cond.methodLink RX0 67 yX3_addLowestFirst, Cond.instanceMethod yX3_addLowestFirst, Cond.selects RX3 yX3_addLowestFirst yX3_addLowestFirst, Cond.code yX3_addLowestFirst cX3_addLowestFirst 4 none, Cond.methodLink RX3 19 yX3_add, Cond.instanceMethod yX3_add, Cond.selects RX3 yX3_add yX3_add, Cond.code yX3_add cX3_add 2 none]
def wsX0_fillBlock : List Cond := .code yX0_fillBlock cX0_fillBlock 2 (some .boolean) :: ((wsX0_fillBlock_r1 ++ wsX0_fillBlock_r2) ++ wsX00 ++ wsX30)
def wsX0_kindOf : List Cond := .code yX0_kindOf cX0_kindOf 2 (some .int) :: ([])
def wsX4_withByte : List Cond := .code yX4_withByte cX4_withByte 3 (some .int) :: ([.fieldLink RX4 20 "FragmentLog$Sum" "REMAINDERS" "[I"])
def wsX3_at : List Cond := .code yX3_at cX3_at 2 (some .int) :: ([.fieldLink RX3 15 "FragmentLog$Row" "many" "I", .fieldLink RX3 9 "FragmentLog$Row" "held" "[B"] ++ wsX30)
def wsX4_of : List Cond := .code yX4_of cX4_of 6 (some .int) :: ([.constant RX4 19 (-1568478504), .methodLink RX4 7 yX4_withByte, .static yX4_withByte, .initialized RX4, .code yX4_withByte cX4_withByte 3 (some .int), .fieldLink RX4 20 "FragmentLog$Sum" "REMAINDERS" "[I", .methodLink RX4 13 yX3_at, .instanceMethod yX3_at, .selects RX3 yX3_at yX3_at, .initialized RX3, .code yX3_at cX3_at 2 (some .int), .fieldLink RX3 15 "FragmentLog$Row" "many" "I", .fieldLink RX3 9 "FragmentLog$Row" "held" "[B"] ++ wsX30)
def wsX3_addPart : List Cond := .code yX3_addPart cX3_addPart 5 none :: ([.methodLink RX3 23 yX3_at, .instanceMethod yX3_at, .selects RX3 yX3_at yX3_at, .initialized RX3, .code yX3_at cX3_at 2 (some .int), .fieldLink RX3 15 "FragmentLog$Row" "many" "I", .fieldLink RX3 9 "FragmentLog$Row" "held" "[B", .methodLink RX3 19 yX3_add, .instanceMethod yX3_add, .selects RX3 yX3_add yX3_add, .code yX3_add cX3_add 2 none] ++ wsX30)
def wsX0_addFragment_r1 : List Cond := [Cond.fieldLink RX0 14 "FragmentLog$Blocks" "bytes" "LFragmentLog$Row;", Cond.methodLink RX0 63 yX3_hasRoomFor, Cond.instanceMethod yX3_hasRoomFor, Cond.selects RX3 yX3_hasRoomFor yX3_hasRoomFor, Cond.initialized RX3, Cond.code yX3_hasRoomFor cX3_hasRoomFor 2 (some .boolean), Cond.fieldLink RX3 9 "FragmentLog$Row" "held" "[B", Cond.fieldLink RX3 15 "FragmentLog$Row" "many" "I", Cond.methodLink RX0 71 yX4_of, Cond.static yX4_of, Cond.initialized RX4, Cond.code yX4_of cX4_of 6 (some .int), Cond.constant RX4 19 (-1568478504), Cond.methodLink RX4 7 yX4_withByte, Cond.static yX4_withByte, Cond.code yX4_withByte cX4_withByte 3 (some .int), Cond.fieldLink RX4 20 "FragmentLog$Sum" "REMAINDERS" "[I", Cond.methodLink RX4 13 yX3_at, Cond.instanceMethod yX3_at, Cond.selects RX3 yX3_at yX3_at, Cond.code yX3_at cX3_at 2 (some .int), Cond.methodLink RX0 67 yX3_addLowestFirst, Cond.instanceMethod yX3_addLowestFirst, Cond.selects RX3 yX3_addLowestFirst yX3_addLowestFirst]
def wsX0_addFragment_r2 : List Cond := [Cond.code yX3_addLowestFirst cX3_addLowestFirst 4 none, Cond.methodLink RX3 19 yX3_add, Cond.instanceMethod yX3_add, Cond.selects RX3 yX3_add yX3_add, Cond.code yX3_add cX3_add 2 none, Cond.methodLink RX0 77 yX3_add, Cond.methodLink RX0 80 yX3_addPart, Cond.instanceMethod yX3_addPart, Cond.selects RX3 yX3_addPart yX3_addPart, Cond.code yX3_addPart cX3_addPart 5 none, Cond.methodLink RX3 23 yX3_at]
def wsX0_addFragment : List Cond := .code yX0_addFragment cX0_addFragment 5 (some .boolean) :: ((wsX0_addFragment_r1 ++ wsX0_addFragment_r2) ++ wsX00 ++ wsX30)
def wsX0_addPieces_r1 : List Cond := [Cond.methodLink RX0 38 Lib.Math.min.name, Cond.static Lib.Math.min.name, Cond.initialized "java/lang/Math", Cond.code Lib.Math.min.name Lib.Math.min.code 2 (some .int), Cond.methodLink RX0 48 yX0_fillBlock, Cond.instanceMethod yX0_fillBlock, Cond.selects RX0 yX0_fillBlock yX0_fillBlock, Cond.initialized RX0, Cond.code yX0_fillBlock cX0_fillBlock 2 (some .boolean), Cond.fieldLink RX0 14 "FragmentLog$Blocks" "bytes" "LFragmentLog$Row;", Cond.methodLink RX0 52 yX0_roomInBlock, Cond.instanceMethod yX0_roomInBlock, Cond.selects RX0 yX0_roomInBlock yX0_roomInBlock, Cond.code yX0_roomInBlock cX0_roomInBlock 1 (some .int), Cond.methodLink RX0 34 yX3_many, Cond.instanceMethod yX3_many, Cond.selects RX3 yX3_many yX3_many, Cond.initialized RX3, Cond.code yX3_many cX3_many 1 (some .int), Cond.fieldLink RX3 15 "FragmentLog$Row" "many" "I", Cond.methodLink RX0 31 yX0_endOfBlock, Cond.instanceMethod yX0_endOfBlock, Cond.selects RX0 yX0_endOfBlock yX0_endOfBlock, Cond.code yX0_endOfBlock cX0_endOfBlock 2 (some .int)]
def wsX0_addPieces_r2 : List Cond := [Cond.fieldLink RX0 20 "FragmentLog$Blocks" "size" "I", Cond.methodLink RX0 27 yX0_startOfBlock, Cond.instanceMethod yX0_startOfBlock, Cond.selects RX0 yX0_startOfBlock yX0_startOfBlock, Cond.code yX0_startOfBlock cX0_startOfBlock 2 (some .int), Cond.methodLink RX0 63 yX3_hasRoomFor, Cond.instanceMethod yX3_hasRoomFor, Cond.selects RX3 yX3_hasRoomFor yX3_hasRoomFor, Cond.code yX3_hasRoomFor cX3_hasRoomFor 2 (some .boolean), Cond.fieldLink RX3 9 "FragmentLog$Row" "held" "[B", Cond.methodLink RX0 67 yX3_addLowestFirst, Cond.instanceMethod yX3_addLowestFirst, Cond.selects RX3 yX3_addLowestFirst yX3_addLowestFirst, Cond.code yX3_addLowestFirst cX3_addLowestFirst 4 none, Cond.methodLink RX3 19 yX3_add, Cond.instanceMethod yX3_add, Cond.selects RX3 yX3_add yX3_add, Cond.code yX3_add cX3_add 2 none, Cond.methodLink RX0 55 yX0_kindOf, Cond.static yX0_kindOf, Cond.code yX0_kindOf cX0_kindOf 2 (some .int), Cond.methodLink RX0 59 yX0_addFragment, Cond.instanceMethod yX0_addFragment, Cond.selects RX0 yX0_addFragment yX0_addFragment]
def wsX0_addPieces_r3 : List Cond := [Cond.code yX0_addFragment cX0_addFragment 5 (some .boolean), Cond.methodLink RX0 71 yX4_of, Cond.static yX4_of, Cond.initialized RX4, Cond.code yX4_of cX4_of 6 (some .int), Cond.constant RX4 19 (-1568478504), Cond.methodLink RX4 7 yX4_withByte, Cond.static yX4_withByte, Cond.code yX4_withByte cX4_withByte 3 (some .int), Cond.fieldLink RX4 20 "FragmentLog$Sum" "REMAINDERS" "[I", Cond.methodLink RX4 13 yX3_at, Cond.instanceMethod yX3_at, Cond.selects RX3 yX3_at yX3_at, Cond.code yX3_at cX3_at 2 (some .int), Cond.methodLink RX0 77 yX3_add, Cond.methodLink RX0 80 yX3_addPart, Cond.instanceMethod yX3_addPart, Cond.selects RX3 yX3_addPart yX3_addPart, Cond.code yX3_addPart cX3_addPart 5 none, Cond.methodLink RX3 23 yX3_at]
def wsX0_addPieces : List Cond := .code yX0_addPieces cX0_addPieces 6 (some .boolean) :: ((wsX0_addPieces_r1 ++ (wsX0_addPieces_r2 ++ wsX0_addPieces_r3)) ++ wsX00 ++ wsX30)
def wsX0_addRecord_r1 : List Cond := [Cond.fieldLink RX0 14 "FragmentLog$Blocks" "bytes" "LFragmentLog$Row;", Cond.methodLink RX0 34 yX3_many, Cond.instanceMethod yX3_many, Cond.selects RX3 yX3_many yX3_many, Cond.initialized RX3, Cond.code yX3_many cX3_many 1 (some .int), Cond.fieldLink RX3 15 "FragmentLog$Row" "many" "I", Cond.methodLink RX0 44 yX0_addPieces, Cond.instanceMethod yX0_addPieces, Cond.selects RX0 yX0_addPieces yX0_addPieces, Cond.initialized RX0, Cond.code yX0_addPieces cX0_addPieces 6 (some .boolean), Cond.methodLink RX0 38 Lib.Math.min.name, Cond.static Lib.Math.min.name, Cond.initialized "java/lang/Math", Cond.code Lib.Math.min.name Lib.Math.min.code 2 (some .int), Cond.methodLink RX0 48 yX0_fillBlock, Cond.instanceMethod yX0_fillBlock, Cond.selects RX0 yX0_fillBlock yX0_fillBlock, Cond.code yX0_fillBlock cX0_fillBlock 2 (some .boolean), Cond.methodLink RX0 52 yX0_roomInBlock, Cond.instanceMethod yX0_roomInBlock, Cond.selects RX0 yX0_roomInBlock yX0_roomInBlock, Cond.code yX0_roomInBlock cX0_roomInBlock 1 (some .int)]
def wsX0_addRecord_r2 : List Cond := [Cond.methodLink RX0 31 yX0_endOfBlock, Cond.instanceMethod yX0_endOfBlock, Cond.selects RX0 yX0_endOfBlock yX0_endOfBlock, Cond.code yX0_endOfBlock cX0_endOfBlock 2 (some .int), Cond.fieldLink RX0 20 "FragmentLog$Blocks" "size" "I", Cond.methodLink RX0 27 yX0_startOfBlock, Cond.instanceMethod yX0_startOfBlock, Cond.selects RX0 yX0_startOfBlock yX0_startOfBlock, Cond.code yX0_startOfBlock cX0_startOfBlock 2 (some .int), Cond.methodLink RX0 63 yX3_hasRoomFor, Cond.instanceMethod yX3_hasRoomFor, Cond.selects RX3 yX3_hasRoomFor yX3_hasRoomFor, Cond.code yX3_hasRoomFor cX3_hasRoomFor 2 (some .boolean), Cond.fieldLink RX3 9 "FragmentLog$Row" "held" "[B", Cond.methodLink RX0 67 yX3_addLowestFirst, Cond.instanceMethod yX3_addLowestFirst, Cond.selects RX3 yX3_addLowestFirst yX3_addLowestFirst, Cond.code yX3_addLowestFirst cX3_addLowestFirst 4 none, Cond.methodLink RX3 19 yX3_add, Cond.instanceMethod yX3_add, Cond.selects RX3 yX3_add yX3_add, Cond.code yX3_add cX3_add 2 none, Cond.methodLink RX0 55 yX0_kindOf, Cond.static yX0_kindOf]
def wsX0_addRecord_r3 : List Cond := [Cond.code yX0_kindOf cX0_kindOf 2 (some .int), Cond.methodLink RX0 59 yX0_addFragment, Cond.instanceMethod yX0_addFragment, Cond.selects RX0 yX0_addFragment yX0_addFragment, Cond.code yX0_addFragment cX0_addFragment 5 (some .boolean), Cond.methodLink RX0 71 yX4_of, Cond.static yX4_of, Cond.initialized RX4, Cond.code yX4_of cX4_of 6 (some .int), Cond.constant RX4 19 (-1568478504), Cond.methodLink RX4 7 yX4_withByte, Cond.static yX4_withByte, Cond.code yX4_withByte cX4_withByte 3 (some .int), Cond.fieldLink RX4 20 "FragmentLog$Sum" "REMAINDERS" "[I", Cond.methodLink RX4 13 yX3_at, Cond.instanceMethod yX3_at, Cond.selects RX3 yX3_at yX3_at, Cond.code yX3_at cX3_at 2 (some .int), Cond.methodLink RX0 77 yX3_add, Cond.methodLink RX0 80 yX3_addPart, Cond.instanceMethod yX3_addPart, Cond.selects RX3 yX3_addPart yX3_addPart, Cond.code yX3_addPart cX3_addPart 5 none, Cond.methodLink RX3 23 yX3_at]
def wsX0_addRecord_r4 : List Cond := [Cond.methodLink RX0 24 yX3_shorten, Cond.instanceMethod yX3_shorten, Cond.selects RX3 yX3_shorten yX3_shorten, Cond.code yX3_shorten cX3_shorten 2 none]
def wsX0_addRecord : List Cond := .code yX0_addRecord cX0_addRecord 3 (some .boolean) :: ((wsX0_addRecord_r1 ++ (wsX0_addRecord_r2 ++ (wsX0_addRecord_r3 ++ wsX0_addRecord_r4))) ++ wsX00 ++ wsX30)
def wsX1_init : List Cond := .code yX1_init cX1_init 1 none :: ([.methodLink RX1 3 objectInit, .instanceMethod objectInit, .code objectInit ⟨#[0xb1]⟩ 1 none, .arrayClass .int, .fieldLink RX1 9 "FragmentLog$Drops" "which" "[I", .fieldLink RX1 15 "FragmentLog$Drops" "bytes" "[I", .fieldLink RX1 18 "FragmentLog$Drops" "many" "I", .fieldLink RX1 22 "FragmentLog$Drops" "allBytes" "I"] ++ wsX10)
def wsX1_forget : List Cond := .code yX1_forget cX1_forget 1 none :: ([.fieldLink RX1 18 "FragmentLog$Drops" "many" "I", .fieldLink RX1 22 "FragmentLog$Drops" "allBytes" "I"] ++ wsX10)
def wsX1_tell : List Cond := .code yX1_tell cX1_tell 3 none :: ([.fieldLink RX1 18 "FragmentLog$Drops" "many" "I", .fieldLink RX1 9 "FragmentLog$Drops" "which" "[I", .fieldLink RX1 15 "FragmentLog$Drops" "bytes" "[I", .fieldLink RX1 22 "FragmentLog$Drops" "allBytes" "I"] ++ wsX10)
def wsX1_many : List Cond := .code yX1_many cX1_many 1 (some .int) :: ([.fieldLink RX1 18 "FragmentLog$Drops" "many" "I"] ++ wsX10)
def wsX1_allBytes : List Cond := .code yX1_allBytes cX1_allBytes 1 (some .int) :: ([.fieldLink RX1 22 "FragmentLog$Drops" "allBytes" "I"] ++ wsX10)
def wsX1_isKept : List Cond := .code yX1_isKept cX1_isKept 2 (some .boolean) :: ([.fieldLink RX1 18 "FragmentLog$Drops" "many" "I"] ++ wsX10)
def wsX1_whichAt : List Cond := .code yX1_whichAt cX1_whichAt 2 (some .int) :: ([.fieldLink RX1 9 "FragmentLog$Drops" "which" "[I", .methodLink RX1 25 yX1_isKept, .instanceMethod yX1_isKept, .selects RX1 yX1_isKept yX1_isKept, .initialized RX1, .code yX1_isKept cX1_isKept 2 (some .boolean), .fieldLink RX1 18 "FragmentLog$Drops" "many" "I"] ++ wsX10)
def wsX1_bytesAt : List Cond := .code yX1_bytesAt cX1_bytesAt 2 (some .int) :: ([.fieldLink RX1 15 "FragmentLog$Drops" "bytes" "[I", .methodLink RX1 25 yX1_isKept, .instanceMethod yX1_isKept, .selects RX1 yX1_isKept yX1_isKept, .initialized RX1, .code yX1_isKept cX1_isKept 2 (some .boolean), .fieldLink RX1 18 "FragmentLog$Drops" "many" "I"] ++ wsX10)
def wsX2_init_r1 : List Cond := [Cond.methodLink RX2 3 objectInit, Cond.instanceMethod objectInit, Cond.code objectInit ⟨#[0xb1]⟩ 1 none, Cond.classLink RX2 9 RX1, Cond.instantiable RX1 4, Cond.initialized RX1, Cond.fieldLink RX2 12 "FragmentLog$Reader" "drops" "LFragmentLog$Drops;", Cond.classLink RX2 18 RX3, Cond.instantiable RX3 2, Cond.initialized RX3, Cond.fieldLink RX2 23 "FragmentLog$Reader" "record" "LFragmentLog$Row;", Cond.fieldLink RX2 27 "FragmentLog$Reader" "recordPlace" "I", Cond.fieldLink RX2 31 "FragmentLog$Reader" "hasFirst" "Z", Cond.fieldLink RX2 35 "FragmentLog$Reader" "place" "I", Cond.fieldLink RX2 38 "FragmentLog$Reader" "begun" "I", Cond.fieldLink RX2 41 "FragmentLog$Reader" "lost" "Z", Cond.fieldLink RX2 44 "FragmentLog$Reader" "fragmentPlace" "I", Cond.fieldLink RX2 47 "FragmentLog$Reader" "fragmentBytes" "I", Cond.fieldLink RX2 50 "FragmentLog$Reader" "blocks" "LFragmentLog$Blocks;", Cond.instanceMethod yX1_init, Cond.code yX1_init cX1_init 1 none, Cond.methodLink RX1 3 objectInit, Cond.arrayClass .int, Cond.fieldLink RX1 9 "FragmentLog$Drops" "which" "[I"]
def wsX2_init_r2 : List Cond := [Cond.fieldLink RX1 15 "FragmentLog$Drops" "bytes" "[I", Cond.fieldLink RX1 18 "FragmentLog$Drops" "many" "I", Cond.fieldLink RX1 22 "FragmentLog$Drops" "allBytes" "I", Cond.methodLink RX2 20 yX3_init, Cond.instanceMethod yX3_init, Cond.code yX3_init cX3_init 2 none, Cond.methodLink RX3 3 objectInit, Cond.arrayClass .byte, Cond.fieldLink RX3 9 "FragmentLog$Row" "held" "[B", Cond.fieldLink RX3 15 "FragmentLog$Row" "many" "I"]
def wsX2_init : List Cond := .code yX2_init cX2_init 2 none :: ((wsX2_init_r1 ++ wsX2_init_r2) ++ wsX10 ++ wsX20 ++ wsX30)
def wsX2_place : List Cond := .code yX2_place cX2_place 1 (some .int) :: ([.fieldLink RX2 35 "FragmentLog$Reader" "place" "I"] ++ wsX20)
def wsX2_isLost : List Cond := .code yX2_isLost cX2_isLost 1 (some .boolean) :: ([.fieldLink RX2 41 "FragmentLog$Reader" "lost" "Z"] ++ wsX20)
def wsX2_drops : List Cond := .code yX2_drops cX2_drops 1 (some (.object "FragmentLog$Drops")) :: ([.fieldLink RX2 12 "FragmentLog$Reader" "drops" "LFragmentLog$Drops;"] ++ wsX20)
def wsX2_record : List Cond := .code yX2_record cX2_record 1 (some (.object "FragmentLog$Row")) :: ([.fieldLink RX2 23 "FragmentLog$Reader" "record" "LFragmentLog$Row;"] ++ wsX20)
def wsX2_recordPlace : List Cond := .code yX2_recordPlace cX2_recordPlace 1 (some .int) :: ([.fieldLink RX2 27 "FragmentLog$Reader" "recordPlace" "I"] ++ wsX20)
def wsX2_beginAt : List Cond := .code yX2_beginAt cX2_beginAt 3 none :: ([.fieldLink RX2 50 "FragmentLog$Reader" "blocks" "LFragmentLog$Blocks;", .fieldLink RX2 35 "FragmentLog$Reader" "place" "I", .fieldLink RX2 38 "FragmentLog$Reader" "begun" "I", .fieldLink RX2 41 "FragmentLog$Reader" "lost" "Z", .fieldLink RX2 12 "FragmentLog$Reader" "drops" "LFragmentLog$Drops;", .methodLink RX2 54 yX0_endOfBlock, .instanceMethod yX0_endOfBlock, .selects RX0 yX0_endOfBlock yX0_endOfBlock, .initialized RX0, .code yX0_endOfBlock cX0_endOfBlock 2 (some .int), .fieldLink RX0 20 "FragmentLog$Blocks" "size" "I", .methodLink RX0 27 yX0_startOfBlock, .instanceMethod yX0_startOfBlock, .selects RX0 yX0_startOfBlock yX0_startOfBlock, .code yX0_startOfBlock cX0_startOfBlock 2 (some .int), .methodLink RX2 60 yX0_startOfBlock, .methodLink RX2 63 yX1_forget, .instanceMethod yX1_forget, .selects RX1 yX1_forget yX1_forget, .initialized RX1, .code yX1_forget cX1_forget 1 none, .fieldLink RX1 18 "FragmentLog$Drops" "many" "I", .fieldLink RX1 22 "FragmentLog$Drops" "allBytes" "I"] ++ wsX20 ++ wsX00 ++ wsX10)
def wsX2_dropRecord : List Cond := .code yX2_dropRecord cX2_dropRecord 1 none :: ([.fieldLink RX2 23 "FragmentLog$Reader" "record" "LFragmentLog$Row;", .fieldLink RX2 27 "FragmentLog$Reader" "recordPlace" "I", .fieldLink RX2 31 "FragmentLog$Reader" "hasFirst" "Z", .methodLink RX2 134 yX3_shorten, .instanceMethod yX3_shorten, .selects RX3 yX3_shorten yX3_shorten, .initialized RX3, .code yX3_shorten cX3_shorten 2 none, .fieldLink RX3 15 "FragmentLog$Row" "many" "I"] ++ wsX20 ++ wsX30)
def wsX3_numberLowestFirst : List Cond := .code yX3_numberLowestFirst cX3_numberLowestFirst 5 (some .int) :: ([.methodLink RX3 23 yX3_at, .instanceMethod yX3_at, .selects RX3 yX3_at yX3_at, .initialized RX3, .code yX3_at cX3_at 2 (some .int), .fieldLink RX3 15 "FragmentLog$Row" "many" "I", .fieldLink RX3 9 "FragmentLog$Row" "held" "[B"] ++ wsX30)
def wsX2_breakBlock : List Cond := .code yX2_breakBlock cX2_breakBlock 3 (some .int) :: ([.fieldLink RX2 12 "FragmentLog$Reader" "drops" "LFragmentLog$Drops;", .fieldLink RX2 35 "FragmentLog$Reader" "place" "I", .methodLink RX2 113 yX1_tell, .instanceMethod yX1_tell, .selects RX1 yX1_tell yX1_tell, .initialized RX1, .code yX1_tell cX1_tell 3 none, .fieldLink RX1 18 "FragmentLog$Drops" "many" "I", .fieldLink RX1 9 "FragmentLog$Drops" "which" "[I", .fieldLink RX1 15 "FragmentLog$Drops" "bytes" "[I", .fieldLink RX1 22 "FragmentLog$Drops" "allBytes" "I"] ++ wsX20 ++ wsX10)
def wsX2_isCheckRight_r1 : List Cond := [Cond.fieldLink RX2 50 "FragmentLog$Reader" "blocks" "LFragmentLog$Blocks;", Cond.fieldLink RX2 35 "FragmentLog$Reader" "place" "I", Cond.methodLink RX2 89 yX0_bytes, Cond.instanceMethod yX0_bytes, Cond.selects RX0 yX0_bytes yX0_bytes, Cond.initialized RX0, Cond.code yX0_bytes cX0_bytes 1 (some (.object "FragmentLog$Row")), Cond.fieldLink RX0 14 "FragmentLog$Blocks" "bytes" "LFragmentLog$Row;", Cond.methodLink RX2 93 yX3_numberLowestFirst, Cond.instanceMethod yX3_numberLowestFirst, Cond.selects RX3 yX3_numberLowestFirst yX3_numberLowestFirst, Cond.initialized RX3, Cond.code yX3_numberLowestFirst cX3_numberLowestFirst 5 (some .int), Cond.methodLink RX3 23 yX3_at, Cond.instanceMethod yX3_at, Cond.selects RX3 yX3_at yX3_at, Cond.code yX3_at cX3_at 2 (some .int), Cond.fieldLink RX3 15 "FragmentLog$Row" "many" "I", Cond.fieldLink RX3 9 "FragmentLog$Row" "held" "[B", Cond.methodLink RX2 107 yX4_of, Cond.static yX4_of, Cond.initialized RX4, Cond.code yX4_of cX4_of 6 (some .int), Cond.constant RX4 19 (-1568478504)]
def wsX2_isCheckRight_r2 : List Cond := [Cond.methodLink RX4 7 yX4_withByte, Cond.static yX4_withByte, Cond.code yX4_withByte cX4_withByte 3 (some .int), Cond.fieldLink RX4 20 "FragmentLog$Sum" "REMAINDERS" "[I", Cond.methodLink RX4 13 yX3_at]
def wsX2_isCheckRight : List Cond := .code yX2_isCheckRight cX2_isCheckRight 4 (some .boolean) :: ((wsX2_isCheckRight_r1 ++ wsX2_isCheckRight_r2) ++ wsX20 ++ wsX00 ++ wsX30)
def wsX2_nextBit_r1 : List Cond := [Cond.fieldLink RX2 50 "FragmentLog$Reader" "blocks" "LFragmentLog$Blocks;", Cond.fieldLink RX2 35 "FragmentLog$Reader" "place" "I", Cond.fieldLink RX2 44 "FragmentLog$Reader" "fragmentPlace" "I", Cond.fieldLink RX2 47 "FragmentLog$Reader" "fragmentBytes" "I", Cond.fieldLink RX2 38 "FragmentLog$Reader" "begun" "I", Cond.methodLink RX2 83 yX0_leftInBlock, Cond.instanceMethod yX0_leftInBlock, Cond.selects RX0 yX0_leftInBlock yX0_leftInBlock, Cond.initialized RX0, Cond.code yX0_leftInBlock cX0_leftInBlock 2 (some .int), Cond.fieldLink RX0 14 "FragmentLog$Blocks" "bytes" "LFragmentLog$Row;", Cond.methodLink RX0 38 Lib.Math.min.name, Cond.static Lib.Math.min.name, Cond.initialized "java/lang/Math", Cond.code Lib.Math.min.name Lib.Math.min.code 2 (some .int), Cond.methodLink RX0 31 yX0_endOfBlock, Cond.instanceMethod yX0_endOfBlock, Cond.selects RX0 yX0_endOfBlock yX0_endOfBlock, Cond.code yX0_endOfBlock cX0_endOfBlock 2 (some .int), Cond.fieldLink RX0 20 "FragmentLog$Blocks" "size" "I", Cond.methodLink RX0 27 yX0_startOfBlock, Cond.instanceMethod yX0_startOfBlock, Cond.selects RX0 yX0_startOfBlock yX0_startOfBlock, Cond.code yX0_startOfBlock cX0_startOfBlock 2 (some .int)]
def wsX2_nextBit_r2 : List Cond := [Cond.methodLink RX0 34 yX3_many, Cond.instanceMethod yX3_many, Cond.selects RX3 yX3_many yX3_many, Cond.initialized RX3, Cond.code yX3_many cX3_many 1 (some .int), Cond.fieldLink RX3 15 "FragmentLog$Row" "many" "I", Cond.methodLink RX2 86 yX0_isWhole, Cond.instanceMethod yX0_isWhole, Cond.selects RX0 yX0_isWhole yX0_isWhole, Cond.code yX0_isWhole cX0_isWhole 2 (some .boolean), Cond.methodLink RX2 54 yX0_endOfBlock, Cond.methodLink RX2 89 yX0_bytes, Cond.instanceMethod yX0_bytes, Cond.selects RX0 yX0_bytes yX0_bytes, Cond.code yX0_bytes cX0_bytes 1 (some (.object "FragmentLog$Row")), Cond.methodLink RX2 93 yX3_numberLowestFirst, Cond.instanceMethod yX3_numberLowestFirst, Cond.selects RX3 yX3_numberLowestFirst yX3_numberLowestFirst, Cond.code yX3_numberLowestFirst cX3_numberLowestFirst 5 (some .int), Cond.methodLink RX3 23 yX3_at, Cond.instanceMethod yX3_at, Cond.selects RX3 yX3_at yX3_at, Cond.code yX3_at cX3_at 2 (some .int), Cond.fieldLink RX3 9 "FragmentLog$Row" "held" "[B"]
def wsX2_nextBit_r3 : List Cond := [Cond.methodLink RX2 97 yX3_at, Cond.methodLink RX2 100 yX2_breakBlock, Cond.instanceMethod yX2_breakBlock, Cond.selects RX2 yX2_breakBlock yX2_breakBlock, Cond.initialized RX2, Cond.code yX2_breakBlock cX2_breakBlock 3 (some .int), Cond.fieldLink RX2 12 "FragmentLog$Reader" "drops" "LFragmentLog$Drops;", Cond.methodLink RX2 113 yX1_tell, Cond.instanceMethod yX1_tell, Cond.selects RX1 yX1_tell yX1_tell, Cond.initialized RX1, Cond.code yX1_tell cX1_tell 3 none, Cond.fieldLink RX1 18 "FragmentLog$Drops" "many" "I", Cond.fieldLink RX1 9 "FragmentLog$Drops" "which" "[I", Cond.fieldLink RX1 15 "FragmentLog$Drops" "bytes" "[I", Cond.fieldLink RX1 22 "FragmentLog$Drops" "allBytes" "I", Cond.methodLink RX2 103 yX2_isCheckRight, Cond.instanceMethod yX2_isCheckRight, Cond.selects RX2 yX2_isCheckRight yX2_isCheckRight, Cond.code yX2_isCheckRight cX2_isCheckRight 4 (some .boolean), Cond.methodLink RX2 107 yX4_of, Cond.static yX4_of, Cond.initialized RX4, Cond.code yX4_of cX4_of 6 (some .int)]
def wsX2_nextBit_r4 : List Cond := [Cond.constant RX4 19 (-1568478504), Cond.methodLink RX4 7 yX4_withByte, Cond.static yX4_withByte, Cond.code yX4_withByte cX4_withByte 3 (some .int), Cond.fieldLink RX4 20 "FragmentLog$Sum" "REMAINDERS" "[I", Cond.methodLink RX4 13 yX3_at]
def wsX2_nextBit : List Cond := .code yX2_nextBit cX2_nextBit 4 (some .int) :: ((wsX2_nextBit_r1 ++ (wsX2_nextBit_r2 ++ (wsX2_nextBit_r3 ++ wsX2_nextBit_r4))) ++ wsX20 ++ wsX00 ++ wsX30 ++ wsX10)
def wsX2_tear_r1 : List Cond := [Cond.fieldLink RX2 31 "FragmentLog$Reader" "hasFirst" "Z", Cond.fieldLink RX2 12 "FragmentLog$Reader" "drops" "LFragmentLog$Drops;", Cond.fieldLink RX2 23 "FragmentLog$Reader" "record" "LFragmentLog$Row;", Cond.methodLink RX2 117 yX3_many, Cond.instanceMethod yX3_many, Cond.selects RX3 yX3_many yX3_many, Cond.initialized RX3, Cond.code yX3_many cX3_many 1 (some .int), Cond.fieldLink RX3 15 "FragmentLog$Row" "many" "I", Cond.methodLink RX2 113 yX1_tell, Cond.instanceMethod yX1_tell, Cond.selects RX1 yX1_tell yX1_tell, Cond.initialized RX1, Cond.code yX1_tell cX1_tell 3 none, Cond.fieldLink RX1 18 "FragmentLog$Drops" "many" "I", Cond.fieldLink RX1 9 "FragmentLog$Drops" "which" "[I", Cond.fieldLink RX1 15 "FragmentLog$Drops" "bytes" "[I", Cond.fieldLink RX1 22 "FragmentLog$Drops" "allBytes" "I", Cond.methodLink RX2 66 yX2_dropRecord, Cond.instanceMethod yX2_dropRecord, Cond.selects RX2 yX2_dropRecord yX2_dropRecord, Cond.initialized RX2, Cond.code yX2_dropRecord cX2_dropRecord 1 none, Cond.fieldLink RX2 27 "FragmentLog$Reader" "recordPlace" "I"]
def wsX2_tear_r2 : List Cond := [Cond.methodLink RX2 134 yX3_shorten, Cond.instanceMethod yX3_shorten, Cond.selects RX3 yX3_shorten yX3_shorten, Cond.code yX3_shorten cX3_shorten 2 none]
def wsX2_tear : List Cond := .code yX2_tear cX2_tear 1 none :: ((wsX2_tear_r1 ++ wsX2_tear_r2) ++ wsX20 ++ wsX30 ++ wsX10)
def wsX2_passesOver : List Cond := .code yX2_passesOver cX2_passesOver 2 (some .boolean) :: ([.fieldLink RX2 41 "FragmentLog$Reader" "lost" "Z"] ++ wsX20)
def wsX2_addFragmentBytes_r1 : List Cond := [Cond.fieldLink RX2 23 "FragmentLog$Reader" "record" "LFragmentLog$Row;", Cond.fieldLink RX2 50 "FragmentLog$Reader" "blocks" "LFragmentLog$Blocks;", Cond.fieldLink RX2 44 "FragmentLog$Reader" "fragmentPlace" "I", Cond.fieldLink RX2 47 "FragmentLog$Reader" "fragmentBytes" "I", Cond.methodLink RX2 89 yX0_bytes, Cond.instanceMethod yX0_bytes, Cond.selects RX0 yX0_bytes yX0_bytes, Cond.initialized RX0, Cond.code yX0_bytes cX0_bytes 1 (some (.object "FragmentLog$Row")), Cond.fieldLink RX0 14 "FragmentLog$Blocks" "bytes" "LFragmentLog$Row;", Cond.methodLink RX2 130 yX3_addPart, Cond.instanceMethod yX3_addPart, Cond.selects RX3 yX3_addPart yX3_addPart, Cond.initialized RX3, Cond.code yX3_addPart cX3_addPart 5 none, Cond.methodLink RX3 23 yX3_at, Cond.instanceMethod yX3_at, Cond.selects RX3 yX3_at yX3_at, Cond.code yX3_at cX3_at 2 (some .int), Cond.fieldLink RX3 15 "FragmentLog$Row" "many" "I", Cond.fieldLink RX3 9 "FragmentLog$Row" "held" "[B", Cond.methodLink RX3 19 yX3_add, Cond.instanceMethod yX3_add, Cond.selects RX3 yX3_add yX3_add]
def wsX2_addFragmentBytes_r2 : List Cond := [Cond.code yX3_add cX3_add 2 none]
def wsX2_addFragmentBytes : List Cond := .code yX2_addFragmentBytes cX2_addFragmentBytes 1 none :: ((wsX2_addFragmentBytes_r1 ++ wsX2_addFragmentBytes_r2) ++ wsX20 ++ wsX00 ++ wsX30)
def wsX2_startRecord_r1 : List Cond := [Cond.fieldLink RX2 23 "FragmentLog$Reader" "record" "LFragmentLog$Row;", Cond.fieldLink RX2 12 "FragmentLog$Reader" "drops" "LFragmentLog$Drops;", Cond.fieldLink RX2 44 "FragmentLog$Reader" "fragmentPlace" "I", Cond.fieldLink RX2 27 "FragmentLog$Reader" "recordPlace" "I", Cond.fieldLink RX2 31 "FragmentLog$Reader" "hasFirst" "Z", Cond.methodLink RX2 117 yX3_many, Cond.instanceMethod yX3_many, Cond.selects RX3 yX3_many yX3_many, Cond.initialized RX3, Cond.code yX3_many cX3_many 1 (some .int), Cond.fieldLink RX3 15 "FragmentLog$Row" "many" "I", Cond.methodLink RX2 113 yX1_tell, Cond.instanceMethod yX1_tell, Cond.selects RX1 yX1_tell yX1_tell, Cond.initialized RX1, Cond.code yX1_tell cX1_tell 3 none, Cond.fieldLink RX1 18 "FragmentLog$Drops" "many" "I", Cond.fieldLink RX1 9 "FragmentLog$Drops" "which" "[I", Cond.fieldLink RX1 15 "FragmentLog$Drops" "bytes" "[I", Cond.fieldLink RX1 22 "FragmentLog$Drops" "allBytes" "I", Cond.methodLink RX2 66 yX2_dropRecord, Cond.instanceMethod yX2_dropRecord, Cond.selects RX2 yX2_dropRecord yX2_dropRecord, Cond.initialized RX2]
def wsX2_startRecord_r2 : List Cond := [Cond.code yX2_dropRecord cX2_dropRecord 1 none, Cond.methodLink RX2 134 yX3_shorten, Cond.instanceMethod yX3_shorten, Cond.selects RX3 yX3_shorten yX3_shorten, Cond.code yX3_shorten cX3_shorten 2 none, Cond.methodLink RX2 127 yX2_addFragmentBytes, Cond.instanceMethod yX2_addFragmentBytes, Cond.selects RX2 yX2_addFragmentBytes yX2_addFragmentBytes, Cond.code yX2_addFragmentBytes cX2_addFragmentBytes 1 none, Cond.fieldLink RX2 50 "FragmentLog$Reader" "blocks" "LFragmentLog$Blocks;", Cond.fieldLink RX2 47 "FragmentLog$Reader" "fragmentBytes" "I", Cond.methodLink RX2 89 yX0_bytes, Cond.instanceMethod yX0_bytes, Cond.selects RX0 yX0_bytes yX0_bytes, Cond.initialized RX0, Cond.code yX0_bytes cX0_bytes 1 (some (.object "FragmentLog$Row")), Cond.fieldLink RX0 14 "FragmentLog$Blocks" "bytes" "LFragmentLog$Row;", Cond.methodLink RX2 130 yX3_addPart, Cond.instanceMethod yX3_addPart, Cond.selects RX3 yX3_addPart yX3_addPart, Cond.code yX3_addPart cX3_addPart 5 none, Cond.methodLink RX3 23 yX3_at, Cond.instanceMethod yX3_at, Cond.selects RX3 yX3_at yX3_at]
def wsX2_startRecord_r3 : List Cond := [Cond.code yX3_at cX3_at 2 (some .int), Cond.fieldLink RX3 9 "FragmentLog$Row" "held" "[B", Cond.methodLink RX3 19 yX3_add, Cond.instanceMethod yX3_add, Cond.selects RX3 yX3_add yX3_add, Cond.code yX3_add cX3_add 2 none]
def wsX2_startRecord : List Cond := .code yX2_startRecord cX2_startRecord 1 none :: ((wsX2_startRecord_r1 ++ (wsX2_startRecord_r2 ++ wsX2_startRecord_r3)) ++ wsX20 ++ wsX30 ++ wsX10 ++ wsX00)
def wsX2_goOnWithRecord_r1 : List Cond := [Cond.fieldLink RX2 31 "FragmentLog$Reader" "hasFirst" "Z", Cond.fieldLink RX2 12 "FragmentLog$Reader" "drops" "LFragmentLog$Drops;", Cond.fieldLink RX2 47 "FragmentLog$Reader" "fragmentBytes" "I", Cond.methodLink RX2 113 yX1_tell, Cond.instanceMethod yX1_tell, Cond.selects RX1 yX1_tell yX1_tell, Cond.initialized RX1, Cond.code yX1_tell cX1_tell 3 none, Cond.fieldLink RX1 18 "FragmentLog$Drops" "many" "I", Cond.fieldLink RX1 9 "FragmentLog$Drops" "which" "[I", Cond.fieldLink RX1 15 "FragmentLog$Drops" "bytes" "[I", Cond.fieldLink RX1 22 "FragmentLog$Drops" "allBytes" "I", Cond.methodLink RX2 127 yX2_addFragmentBytes, Cond.instanceMethod yX2_addFragmentBytes, Cond.selects RX2 yX2_addFragmentBytes yX2_addFragmentBytes, Cond.initialized RX2, Cond.code yX2_addFragmentBytes cX2_addFragmentBytes 1 none, Cond.fieldLink RX2 23 "FragmentLog$Reader" "record" "LFragmentLog$Row;", Cond.fieldLink RX2 50 "FragmentLog$Reader" "blocks" "LFragmentLog$Blocks;", Cond.fieldLink RX2 44 "FragmentLog$Reader" "fragmentPlace" "I", Cond.methodLink RX2 89 yX0_bytes, Cond.instanceMethod yX0_bytes, Cond.selects RX0 yX0_bytes yX0_bytes, Cond.initialized RX0]
def wsX2_goOnWithRecord_r2 : List Cond := [Cond.code yX0_bytes cX0_bytes 1 (some (.object "FragmentLog$Row")), Cond.fieldLink RX0 14 "FragmentLog$Blocks" "bytes" "LFragmentLog$Row;", Cond.methodLink RX2 130 yX3_addPart, Cond.instanceMethod yX3_addPart, Cond.selects RX3 yX3_addPart yX3_addPart, Cond.initialized RX3, Cond.code yX3_addPart cX3_addPart 5 none, Cond.methodLink RX3 23 yX3_at, Cond.instanceMethod yX3_at, Cond.selects RX3 yX3_at yX3_at, Cond.code yX3_at cX3_at 2 (some .int), Cond.fieldLink RX3 15 "FragmentLog$Row" "many" "I", Cond.fieldLink RX3 9 "FragmentLog$Row" "held" "[B", Cond.methodLink RX3 19 yX3_add, Cond.instanceMethod yX3_add, Cond.selects RX3 yX3_add yX3_add, Cond.code yX3_add cX3_add 2 none]
def wsX2_goOnWithRecord : List Cond := .code yX2_goOnWithRecord cX2_goOnWithRecord 1 (some .boolean) :: ((wsX2_goOnWithRecord_r1 ++ wsX2_goOnWithRecord_r2) ++ wsX20 ++ wsX10 ++ wsX00 ++ wsX30)
def wsX2_takeFragment_r1 : List Cond := [Cond.fieldLink RX2 12 "FragmentLog$Reader" "drops" "LFragmentLog$Drops;", Cond.fieldLink RX2 47 "FragmentLog$Reader" "fragmentBytes" "I", Cond.fieldLink RX2 23 "FragmentLog$Reader" "record" "LFragmentLog$Row;", Cond.methodLink RX2 120 yX2_startRecord, Cond.instanceMethod yX2_startRecord, Cond.selects RX2 yX2_startRecord yX2_startRecord, Cond.initialized RX2, Cond.code yX2_startRecord cX2_startRecord 1 none, Cond.fieldLink RX2 44 "FragmentLog$Reader" "fragmentPlace" "I", Cond.fieldLink RX2 27 "FragmentLog$Reader" "recordPlace" "I", Cond.fieldLink RX2 31 "FragmentLog$Reader" "hasFirst" "Z", Cond.methodLink RX2 117 yX3_many, Cond.instanceMethod yX3_many, Cond.selects RX3 yX3_many yX3_many, Cond.initialized RX3, Cond.code yX3_many cX3_many 1 (some .int), Cond.fieldLink RX3 15 "FragmentLog$Row" "many" "I", Cond.methodLink RX2 113 yX1_tell, Cond.instanceMethod yX1_tell, Cond.selects RX1 yX1_tell yX1_tell, Cond.initialized RX1, Cond.code yX1_tell cX1_tell 3 none, Cond.fieldLink RX1 18 "FragmentLog$Drops" "many" "I", Cond.fieldLink RX1 9 "FragmentLog$Drops" "which" "[I"]
def wsX2_takeFragment_r2 : List Cond := [Cond.fieldLink RX1 15 "FragmentLog$Drops" "bytes" "[I", Cond.fieldLink RX1 22 "FragmentLog$Drops" "allBytes" "I", Cond.methodLink RX2 66 yX2_dropRecord, Cond.instanceMethod yX2_dropRecord, Cond.selects RX2 yX2_dropRecord yX2_dropRecord, Cond.code yX2_dropRecord cX2_dropRecord 1 none, Cond.methodLink RX2 134 yX3_shorten, Cond.instanceMethod yX3_shorten, Cond.selects RX3 yX3_shorten yX3_shorten, Cond.code yX3_shorten cX3_shorten 2 none, Cond.methodLink RX2 127 yX2_addFragmentBytes, Cond.instanceMethod yX2_addFragmentBytes, Cond.selects RX2 yX2_addFragmentBytes yX2_addFragmentBytes, Cond.code yX2_addFragmentBytes cX2_addFragmentBytes 1 none, Cond.fieldLink RX2 50 "FragmentLog$Reader" "blocks" "LFragmentLog$Blocks;", Cond.methodLink RX2 89 yX0_bytes, Cond.instanceMethod yX0_bytes, Cond.selects RX0 yX0_bytes yX0_bytes, Cond.initialized RX0, Cond.code yX0_bytes cX0_bytes 1 (some (.object "FragmentLog$Row")), Cond.fieldLink RX0 14 "FragmentLog$Blocks" "bytes" "LFragmentLog$Row;", Cond.methodLink RX2 130 yX3_addPart, Cond.instanceMethod yX3_addPart, Cond.selects RX3 yX3_addPart yX3_addPart]
def wsX2_takeFragment_r3 : List Cond := [Cond.code yX3_addPart cX3_addPart 5 none, Cond.methodLink RX3 23 yX3_at, Cond.instanceMethod yX3_at, Cond.selects RX3 yX3_at yX3_at, Cond.code yX3_at cX3_at 2 (some .int), Cond.fieldLink RX3 9 "FragmentLog$Row" "held" "[B", Cond.methodLink RX3 19 yX3_add, Cond.instanceMethod yX3_add, Cond.selects RX3 yX3_add yX3_add, Cond.code yX3_add cX3_add 2 none, Cond.methodLink RX2 123 yX2_goOnWithRecord, Cond.instanceMethod yX2_goOnWithRecord, Cond.selects RX2 yX2_goOnWithRecord yX2_goOnWithRecord, Cond.code yX2_goOnWithRecord cX2_goOnWithRecord 1 (some .boolean)]
def wsX2_takeFragment : List Cond := .code yX2_takeFragment cX2_takeFragment 2 (some .boolean) :: ((wsX2_takeFragment_r1 ++ (wsX2_takeFragment_r2 ++ wsX2_takeFragment_r3)) ++ wsX20 ++ wsX30 ++ wsX10 ++ wsX00)
def wsX2_findRecord_r1 : List Cond := [Cond.methodLink RX2 66 yX2_dropRecord, Cond.instanceMethod yX2_dropRecord, Cond.selects RX2 yX2_dropRecord yX2_dropRecord, Cond.initialized RX2, Cond.code yX2_dropRecord cX2_dropRecord 1 none, Cond.fieldLink RX2 23 "FragmentLog$Reader" "record" "LFragmentLog$Row;", Cond.fieldLink RX2 27 "FragmentLog$Reader" "recordPlace" "I", Cond.fieldLink RX2 31 "FragmentLog$Reader" "hasFirst" "Z", Cond.methodLink RX2 134 yX3_shorten, Cond.instanceMethod yX3_shorten, Cond.selects RX3 yX3_shorten yX3_shorten, Cond.initialized RX3, Cond.code yX3_shorten cX3_shorten 2 none, Cond.fieldLink RX3 15 "FragmentLog$Row" "many" "I", Cond.methodLink RX2 69 yX2_nextBit, Cond.instanceMethod yX2_nextBit, Cond.selects RX2 yX2_nextBit yX2_nextBit, Cond.code yX2_nextBit cX2_nextBit 4 (some .int), Cond.fieldLink RX2 50 "FragmentLog$Reader" "blocks" "LFragmentLog$Blocks;", Cond.fieldLink RX2 35 "FragmentLog$Reader" "place" "I", Cond.fieldLink RX2 44 "FragmentLog$Reader" "fragmentPlace" "I", Cond.fieldLink RX2 47 "FragmentLog$Reader" "fragmentBytes" "I", Cond.fieldLink RX2 38 "FragmentLog$Reader" "begun" "I", Cond.methodLink RX2 83 yX0_leftInBlock]
def wsX2_findRecord_r2 : List Cond := [Cond.instanceMethod yX0_leftInBlock, Cond.selects RX0 yX0_leftInBlock yX0_leftInBlock, Cond.initialized RX0, Cond.code yX0_leftInBlock cX0_leftInBlock 2 (some .int), Cond.fieldLink RX0 14 "FragmentLog$Blocks" "bytes" "LFragmentLog$Row;", Cond.methodLink RX0 38 Lib.Math.min.name, Cond.static Lib.Math.min.name, Cond.initialized "java/lang/Math", Cond.code Lib.Math.min.name Lib.Math.min.code 2 (some .int), Cond.methodLink RX0 31 yX0_endOfBlock, Cond.instanceMethod yX0_endOfBlock, Cond.selects RX0 yX0_endOfBlock yX0_endOfBlock, Cond.code yX0_endOfBlock cX0_endOfBlock 2 (some .int), Cond.fieldLink RX0 20 "FragmentLog$Blocks" "size" "I", Cond.methodLink RX0 27 yX0_startOfBlock, Cond.instanceMethod yX0_startOfBlock, Cond.selects RX0 yX0_startOfBlock yX0_startOfBlock, Cond.code yX0_startOfBlock cX0_startOfBlock 2 (some .int), Cond.methodLink RX0 34 yX3_many, Cond.instanceMethod yX3_many, Cond.selects RX3 yX3_many yX3_many, Cond.code yX3_many cX3_many 1 (some .int), Cond.methodLink RX2 86 yX0_isWhole, Cond.instanceMethod yX0_isWhole]
def wsX2_findRecord_r3 : List Cond := [Cond.selects RX0 yX0_isWhole yX0_isWhole, Cond.code yX0_isWhole cX0_isWhole 2 (some .boolean), Cond.methodLink RX2 54 yX0_endOfBlock, Cond.methodLink RX2 89 yX0_bytes, Cond.instanceMethod yX0_bytes, Cond.selects RX0 yX0_bytes yX0_bytes, Cond.code yX0_bytes cX0_bytes 1 (some (.object "FragmentLog$Row")), Cond.methodLink RX2 93 yX3_numberLowestFirst, Cond.instanceMethod yX3_numberLowestFirst, Cond.selects RX3 yX3_numberLowestFirst yX3_numberLowestFirst, Cond.code yX3_numberLowestFirst cX3_numberLowestFirst 5 (some .int), Cond.methodLink RX3 23 yX3_at, Cond.instanceMethod yX3_at, Cond.selects RX3 yX3_at yX3_at, Cond.code yX3_at cX3_at 2 (some .int), Cond.fieldLink RX3 9 "FragmentLog$Row" "held" "[B", Cond.methodLink RX2 97 yX3_at, Cond.methodLink RX2 100 yX2_breakBlock, Cond.instanceMethod yX2_breakBlock, Cond.selects RX2 yX2_breakBlock yX2_breakBlock, Cond.code yX2_breakBlock cX2_breakBlock 3 (some .int), Cond.fieldLink RX2 12 "FragmentLog$Reader" "drops" "LFragmentLog$Drops;", Cond.methodLink RX2 113 yX1_tell, Cond.instanceMethod yX1_tell]
def wsX2_findRecord_r4 : List Cond := [Cond.selects RX1 yX1_tell yX1_tell, Cond.initialized RX1, Cond.code yX1_tell cX1_tell 3 none, Cond.fieldLink RX1 18 "FragmentLog$Drops" "many" "I", Cond.fieldLink RX1 9 "FragmentLog$Drops" "which" "[I", Cond.fieldLink RX1 15 "FragmentLog$Drops" "bytes" "[I", Cond.fieldLink RX1 22 "FragmentLog$Drops" "allBytes" "I", Cond.methodLink RX2 103 yX2_isCheckRight, Cond.instanceMethod yX2_isCheckRight, Cond.selects RX2 yX2_isCheckRight yX2_isCheckRight, Cond.code yX2_isCheckRight cX2_isCheckRight 4 (some .boolean), Cond.methodLink RX2 107 yX4_of, Cond.static yX4_of, Cond.initialized RX4, Cond.code yX4_of cX4_of 6 (some .int), Cond.constant RX4 19 (-1568478504), Cond.methodLink RX4 7 yX4_withByte, Cond.static yX4_withByte, Cond.code yX4_withByte cX4_withByte 3 (some .int), Cond.fieldLink RX4 20 "FragmentLog$Sum" "REMAINDERS" "[I", Cond.methodLink RX4 13 yX3_at, Cond.methodLink RX2 73 yX2_tear, Cond.instanceMethod yX2_tear, Cond.selects RX2 yX2_tear yX2_tear]
def wsX2_findRecord_r5 : List Cond := [Cond.code yX2_tear cX2_tear 1 none, Cond.methodLink RX2 117 yX3_many, Cond.methodLink RX2 76 yX2_passesOver, Cond.instanceMethod yX2_passesOver, Cond.selects RX2 yX2_passesOver yX2_passesOver, Cond.code yX2_passesOver cX2_passesOver 2 (some .boolean), Cond.fieldLink RX2 41 "FragmentLog$Reader" "lost" "Z", Cond.methodLink RX2 80 yX2_takeFragment, Cond.instanceMethod yX2_takeFragment, Cond.selects RX2 yX2_takeFragment yX2_takeFragment, Cond.code yX2_takeFragment cX2_takeFragment 2 (some .boolean), Cond.methodLink RX2 120 yX2_startRecord, Cond.instanceMethod yX2_startRecord, Cond.selects RX2 yX2_startRecord yX2_startRecord, Cond.code yX2_startRecord cX2_startRecord 1 none, Cond.methodLink RX2 127 yX2_addFragmentBytes, Cond.instanceMethod yX2_addFragmentBytes, Cond.selects RX2 yX2_addFragmentBytes yX2_addFragmentBytes, Cond.code yX2_addFragmentBytes cX2_addFragmentBytes 1 none, Cond.methodLink RX2 130 yX3_addPart, Cond.instanceMethod yX3_addPart, Cond.selects RX3 yX3_addPart yX3_addPart, Cond.code yX3_addPart cX3_addPart 5 none, Cond.methodLink RX3 19 yX3_add]
def wsX2_findRecord_r6 : List Cond := [Cond.instanceMethod yX3_add, Cond.selects RX3 yX3_add yX3_add, Cond.code yX3_add cX3_add 2 none, Cond.methodLink RX2 123 yX2_goOnWithRecord, Cond.instanceMethod yX2_goOnWithRecord, Cond.selects RX2 yX2_goOnWithRecord yX2_goOnWithRecord, Cond.code yX2_goOnWithRecord cX2_goOnWithRecord 1 (some .boolean)]
def wsX2_findRecord : List Cond := .code yX2_findRecord cX2_findRecord 3 (some .boolean) :: ((wsX2_findRecord_r1 ++ (wsX2_findRecord_r2 ++ (wsX2_findRecord_r3 ++ (wsX2_findRecord_r4 ++ (wsX2_findRecord_r5 ++ wsX2_findRecord_r6))))) ++ wsX20 ++ wsX30 ++ wsX00 ++ wsX10)
def wsX3_has : List Cond := .code yX3_has cX3_has 2 (some .boolean) :: ([.fieldLink RX3 15 "FragmentLog$Row" "many" "I"] ++ wsX30)
def wsX3_replace : List Cond := .code yX3_replace cX3_replace 3 none :: ([.fieldLink RX3 9 "FragmentLog$Row" "held" "[B", .methodLink RX3 27 yX3_has, .instanceMethod yX3_has, .selects RX3 yX3_has yX3_has, .initialized RX3, .code yX3_has cX3_has 2 (some .boolean), .fieldLink RX3 15 "FragmentLog$Row" "many" "I"] ++ wsX30)
def wsX5_init_r1 : List Cond := [Cond.methodLink RX5 1 objectInit, Cond.instanceMethod objectInit, Cond.code objectInit ⟨#[0xb1]⟩ 1 none, Cond.classLink RX5 7 RX3, Cond.instantiable RX3 2, Cond.initialized RX3, Cond.fieldLink RX5 14 "FragmentLog" "buffer" "LFragmentLog$Row;", Cond.classLink RX5 18 RX0, Cond.instantiable RX0 2, Cond.initialized RX0, Cond.fieldLink RX5 21 "FragmentLog" "blocks" "LFragmentLog$Blocks;", Cond.classLink RX5 25 RX2, Cond.instantiable RX2 10, Cond.initialized RX2, Cond.fieldLink RX5 30 "FragmentLog" "reader" "LFragmentLog$Reader;", Cond.methodLink RX5 11 yX3_init, Cond.instanceMethod yX3_init, Cond.code yX3_init cX3_init 2 none, Cond.methodLink RX3 3 objectInit, Cond.arrayClass .byte, Cond.fieldLink RX3 9 "FragmentLog$Row" "held" "[B", Cond.fieldLink RX3 15 "FragmentLog$Row" "many" "I", Cond.instanceMethod yX0_init, Cond.code yX0_init cX0_init 1 none]
def wsX5_init_r2 : List Cond := [Cond.methodLink RX0 3 objectInit, Cond.classLink RX0 9 RX3, Cond.fieldLink RX0 14 "FragmentLog$Blocks" "bytes" "LFragmentLog$Row;", Cond.fieldLink RX0 20 "FragmentLog$Blocks" "size" "I", Cond.methodLink RX0 11 yX3_init, Cond.methodLink RX5 27 yX2_init, Cond.instanceMethod yX2_init, Cond.code yX2_init cX2_init 2 none, Cond.methodLink RX2 3 objectInit, Cond.classLink RX2 9 RX1, Cond.instantiable RX1 4, Cond.initialized RX1, Cond.fieldLink RX2 12 "FragmentLog$Reader" "drops" "LFragmentLog$Drops;", Cond.classLink RX2 18 RX3, Cond.fieldLink RX2 23 "FragmentLog$Reader" "record" "LFragmentLog$Row;", Cond.fieldLink RX2 27 "FragmentLog$Reader" "recordPlace" "I", Cond.fieldLink RX2 31 "FragmentLog$Reader" "hasFirst" "Z", Cond.fieldLink RX2 35 "FragmentLog$Reader" "place" "I", Cond.fieldLink RX2 38 "FragmentLog$Reader" "begun" "I", Cond.fieldLink RX2 41 "FragmentLog$Reader" "lost" "Z", Cond.fieldLink RX2 44 "FragmentLog$Reader" "fragmentPlace" "I", Cond.fieldLink RX2 47 "FragmentLog$Reader" "fragmentBytes" "I", Cond.fieldLink RX2 50 "FragmentLog$Reader" "blocks" "LFragmentLog$Blocks;", Cond.instanceMethod yX1_init]
def wsX5_init_r3 : List Cond := [Cond.code yX1_init cX1_init 1 none, Cond.methodLink RX1 3 objectInit, Cond.arrayClass .int, Cond.fieldLink RX1 9 "FragmentLog$Drops" "which" "[I", Cond.fieldLink RX1 15 "FragmentLog$Drops" "bytes" "[I", Cond.fieldLink RX1 18 "FragmentLog$Drops" "many" "I", Cond.fieldLink RX1 22 "FragmentLog$Drops" "allBytes" "I", Cond.methodLink RX2 20 yX3_init]
def wsX5_init : List Cond := .code yX5_init cX5_init 1 none :: ((wsX5_init_r1 ++ (wsX5_init_r2 ++ wsX5_init_r3)) ++ wsX30 ++ wsX50 ++ wsX00 ++ wsX20 ++ wsX10)
def wsX5_clear_r1 : List Cond := [Cond.classLink RX5 34 "java/lang/IllegalArgumentException", Cond.initialized "java/lang/IllegalArgumentException", Cond.fieldLink RX5 21 "FragmentLog" "blocks" "LFragmentLog$Blocks;", Cond.fieldLink RX5 30 "FragmentLog" "reader" "LFragmentLog$Reader;", Cond.methodLink RX5 41 yX0_startAnew, Cond.instanceMethod yX0_startAnew, Cond.selects RX0 yX0_startAnew yX0_startAnew, Cond.initialized RX0, Cond.code yX0_startAnew cX0_startAnew 2 none, Cond.fieldLink RX0 14 "FragmentLog$Blocks" "bytes" "LFragmentLog$Row;", Cond.fieldLink RX0 20 "FragmentLog$Blocks" "size" "I", Cond.methodLink RX0 24 yX3_shorten, Cond.instanceMethod yX3_shorten, Cond.selects RX3 yX3_shorten yX3_shorten, Cond.initialized RX3, Cond.code yX3_shorten cX3_shorten 2 none, Cond.fieldLink RX3 15 "FragmentLog$Row" "many" "I", Cond.methodLink RX5 44 yX2_beginAt, Cond.instanceMethod yX2_beginAt, Cond.selects RX2 yX2_beginAt yX2_beginAt, Cond.initialized RX2, Cond.code yX2_beginAt cX2_beginAt 3 none, Cond.fieldLink RX2 50 "FragmentLog$Reader" "blocks" "LFragmentLog$Blocks;", Cond.fieldLink RX2 35 "FragmentLog$Reader" "place" "I"]
def wsX5_clear_r2 : List Cond := [Cond.fieldLink RX2 38 "FragmentLog$Reader" "begun" "I", Cond.fieldLink RX2 41 "FragmentLog$Reader" "lost" "Z", Cond.fieldLink RX2 12 "FragmentLog$Reader" "drops" "LFragmentLog$Drops;", Cond.methodLink RX2 54 yX0_endOfBlock, Cond.instanceMethod yX0_endOfBlock, Cond.selects RX0 yX0_endOfBlock yX0_endOfBlock, Cond.code yX0_endOfBlock cX0_endOfBlock 2 (some .int), Cond.methodLink RX0 27 yX0_startOfBlock, Cond.instanceMethod yX0_startOfBlock, Cond.selects RX0 yX0_startOfBlock yX0_startOfBlock, Cond.code yX0_startOfBlock cX0_startOfBlock 2 (some .int), Cond.methodLink RX2 60 yX0_startOfBlock, Cond.methodLink RX2 63 yX1_forget, Cond.instanceMethod yX1_forget, Cond.selects RX1 yX1_forget yX1_forget, Cond.initialized RX1, Cond.code yX1_forget cX1_forget 1 none, Cond.fieldLink RX1 18 "FragmentLog$Drops" "many" "I", Cond.fieldLink RX1 22 "FragmentLog$Drops" "allBytes" "I"]
def wsX5_clear : List Cond := .code yX5_clear cX5_clear 2 none :: ((wsX5_clear_r1 ++ wsX5_clear_r2) ++ wsX50 ++ wsX00 ++ wsX30 ++ wsX20 ++ wsX10 ++ (vx_atS RX5 38 "java/lang/IllegalArgumentException" ["java/lang/RuntimeException", "java/lang/Exception"]).filter goodWord)
def wsX5_feedFrom : List Cond := .code yX5_feedFrom cX5_feedFrom 4 none :: ([.fieldLink RX5 14 "FragmentLog" "buffer" "LFragmentLog$Row;", .methodLink RX5 72 yX3_add, .instanceMethod yX3_add, .selects RX3 yX3_add yX3_add, .initialized RX3, .code yX3_add cX3_add 2 none, .fieldLink RX3 15 "FragmentLog$Row" "many" "I", .fieldLink RX3 9 "FragmentLog$Row" "held" "[B"] ++ wsX50 ++ wsX30)
def wsX5_feed_r1 : List Cond := [Cond.classLink RX5 34 "java/lang/IllegalArgumentException", Cond.initialized "java/lang/IllegalArgumentException", Cond.classLink RX5 53 "java/lang/IllegalStateException", Cond.initialized "java/lang/IllegalStateException", Cond.fieldLink RX5 14 "FragmentLog" "buffer" "LFragmentLog$Row;", Cond.methodLink RX5 58 Lib.Math.min.name, Cond.static Lib.Math.min.name, Cond.initialized "java/lang/Math", Cond.code Lib.Math.min.name Lib.Math.min.code 2 (some .int), Cond.methodLink RX5 49 yX3_hasRoomFor, Cond.instanceMethod yX3_hasRoomFor, Cond.selects RX3 yX3_hasRoomFor yX3_hasRoomFor, Cond.initialized RX3, Cond.code yX3_hasRoomFor cX3_hasRoomFor 2 (some .boolean), Cond.fieldLink RX3 9 "FragmentLog$Row" "held" "[B", Cond.fieldLink RX3 15 "FragmentLog$Row" "many" "I", Cond.methodLink RX5 64 yX5_feedFrom, Cond.instanceMethod yX5_feedFrom, Cond.selects RX5 yX5_feedFrom yX5_feedFrom, Cond.initialized RX5, Cond.code yX5_feedFrom cX5_feedFrom 4 none, Cond.methodLink RX5 72 yX3_add, Cond.instanceMethod yX3_add, Cond.selects RX3 yX3_add yX3_add]
def wsX5_feed_r2 : List Cond := [Cond.code yX3_add cX3_add 2 none, Cond.methodLink RX5 68 yX3_many, Cond.instanceMethod yX3_many, Cond.selects RX3 yX3_many yX3_many, Cond.code yX3_many cX3_many 1 (some .int)]
def wsX5_feed : List Cond := .code yX5_feed cX5_feed 6 (some .int) :: ((wsX5_feed_r1 ++ wsX5_feed_r2) ++ wsX50 ++ wsX30 ++ (vx_atS RX5 38 "java/lang/IllegalArgumentException" ["java/lang/RuntimeException", "java/lang/Exception"]).filter goodWord ++ (vx_atS RX5 57 "java/lang/IllegalStateException" ["java/lang/RuntimeException", "java/lang/Exception"]).filter goodWord)
def wsX5_erase : List Cond := .code yX5_erase cX5_erase 2 (some .int) :: ([.fieldLink RX5 14 "FragmentLog" "buffer" "LFragmentLog$Row;", .methodLink RX5 68 yX3_many, .instanceMethod yX3_many, .selects RX3 yX3_many yX3_many, .initialized RX3, .code yX3_many cX3_many 1 (some .int), .fieldLink RX3 15 "FragmentLog$Row" "many" "I", .methodLink RX5 75 yX3_shorten, .instanceMethod yX3_shorten, .selects RX3 yX3_shorten yX3_shorten, .code yX3_shorten cX3_shorten 2 none] ++ wsX50 ++ wsX30)
def wsX5_isByte : List Cond := .code yX5_isByte cX5_isByte 1 (some .boolean) :: ([])
def wsX5_check_r1 : List Cond := [Cond.classLink RX5 34 "java/lang/IllegalArgumentException", Cond.initialized "java/lang/IllegalArgumentException", Cond.fieldLink RX5 14 "FragmentLog" "buffer" "LFragmentLog$Row;", Cond.methodLink RX5 78 yX5_isByte, Cond.static yX5_isByte, Cond.initialized RX5, Cond.code yX5_isByte cX5_isByte 1 (some .boolean), Cond.methodLink RX5 68 yX3_many, Cond.instanceMethod yX3_many, Cond.selects RX3 yX3_many yX3_many, Cond.initialized RX3, Cond.code yX3_many cX3_many 1 (some .int), Cond.fieldLink RX3 15 "FragmentLog$Row" "many" "I", Cond.methodLink RX5 83 yX4_of, Cond.static yX4_of, Cond.initialized RX4, Cond.code yX4_of cX4_of 6 (some .int), Cond.constant RX4 19 (-1568478504), Cond.methodLink RX4 7 yX4_withByte, Cond.static yX4_withByte, Cond.code yX4_withByte cX4_withByte 3 (some .int), Cond.fieldLink RX4 20 "FragmentLog$Sum" "REMAINDERS" "[I", Cond.methodLink RX4 13 yX3_at, Cond.instanceMethod yX3_at]
def wsX5_check_r2 : List Cond := [Cond.selects RX3 yX3_at yX3_at, Cond.code yX3_at cX3_at 2 (some .int), Cond.fieldLink RX3 9 "FragmentLog$Row" "held" "[B"]
def wsX5_check : List Cond := .code yX5_check cX5_check 2 (some .int) :: ((wsX5_check_r1 ++ wsX5_check_r2) ++ wsX50 ++ wsX30 ++ (vx_atS RX5 38 "java/lang/IllegalArgumentException" ["java/lang/RuntimeException", "java/lang/Exception"]).filter goodWord)
def wsX5_append_r1 : List Cond := [Cond.fieldLink RX5 21 "FragmentLog" "blocks" "LFragmentLog$Blocks;", Cond.fieldLink RX5 14 "FragmentLog" "buffer" "LFragmentLog$Row;", Cond.methodLink RX5 89 yX0_addRecord, Cond.instanceMethod yX0_addRecord, Cond.selects RX0 yX0_addRecord yX0_addRecord, Cond.initialized RX0, Cond.code yX0_addRecord cX0_addRecord 3 (some .boolean), Cond.fieldLink RX0 14 "FragmentLog$Blocks" "bytes" "LFragmentLog$Row;", Cond.methodLink RX0 34 yX3_many, Cond.instanceMethod yX3_many, Cond.selects RX3 yX3_many yX3_many, Cond.initialized RX3, Cond.code yX3_many cX3_many 1 (some .int), Cond.fieldLink RX3 15 "FragmentLog$Row" "many" "I", Cond.methodLink RX0 44 yX0_addPieces, Cond.instanceMethod yX0_addPieces, Cond.selects RX0 yX0_addPieces yX0_addPieces, Cond.code yX0_addPieces cX0_addPieces 6 (some .boolean), Cond.methodLink RX0 38 Lib.Math.min.name, Cond.static Lib.Math.min.name, Cond.initialized "java/lang/Math", Cond.code Lib.Math.min.name Lib.Math.min.code 2 (some .int), Cond.methodLink RX0 48 yX0_fillBlock, Cond.instanceMethod yX0_fillBlock]
def wsX5_append_r2 : List Cond := [Cond.selects RX0 yX0_fillBlock yX0_fillBlock, Cond.code yX0_fillBlock cX0_fillBlock 2 (some .boolean), Cond.methodLink RX0 52 yX0_roomInBlock, Cond.instanceMethod yX0_roomInBlock, Cond.selects RX0 yX0_roomInBlock yX0_roomInBlock, Cond.code yX0_roomInBlock cX0_roomInBlock 1 (some .int), Cond.methodLink RX0 31 yX0_endOfBlock, Cond.instanceMethod yX0_endOfBlock, Cond.selects RX0 yX0_endOfBlock yX0_endOfBlock, Cond.code yX0_endOfBlock cX0_endOfBlock 2 (some .int), Cond.fieldLink RX0 20 "FragmentLog$Blocks" "size" "I", Cond.methodLink RX0 27 yX0_startOfBlock, Cond.instanceMethod yX0_startOfBlock, Cond.selects RX0 yX0_startOfBlock yX0_startOfBlock, Cond.code yX0_startOfBlock cX0_startOfBlock 2 (some .int), Cond.methodLink RX0 63 yX3_hasRoomFor, Cond.instanceMethod yX3_hasRoomFor, Cond.selects RX3 yX3_hasRoomFor yX3_hasRoomFor, Cond.code yX3_hasRoomFor cX3_hasRoomFor 2 (some .boolean), Cond.fieldLink RX3 9 "FragmentLog$Row" "held" "[B", Cond.methodLink RX0 67 yX3_addLowestFirst, Cond.instanceMethod yX3_addLowestFirst, Cond.selects RX3 yX3_addLowestFirst yX3_addLowestFirst, Cond.code yX3_addLowestFirst cX3_addLowestFirst 4 none]
def wsX5_append_r3 : List Cond := [Cond.methodLink RX3 19 yX3_add, Cond.instanceMethod yX3_add, Cond.selects RX3 yX3_add yX3_add, Cond.code yX3_add cX3_add 2 none, Cond.methodLink RX0 55 yX0_kindOf, Cond.static yX0_kindOf, Cond.code yX0_kindOf cX0_kindOf 2 (some .int), Cond.methodLink RX0 59 yX0_addFragment, Cond.instanceMethod yX0_addFragment, Cond.selects RX0 yX0_addFragment yX0_addFragment, Cond.code yX0_addFragment cX0_addFragment 5 (some .boolean), Cond.methodLink RX0 71 yX4_of, Cond.static yX4_of, Cond.initialized RX4, Cond.code yX4_of cX4_of 6 (some .int), Cond.constant RX4 19 (-1568478504), Cond.methodLink RX4 7 yX4_withByte, Cond.static yX4_withByte, Cond.code yX4_withByte cX4_withByte 3 (some .int), Cond.fieldLink RX4 20 "FragmentLog$Sum" "REMAINDERS" "[I", Cond.methodLink RX4 13 yX3_at, Cond.instanceMethod yX3_at, Cond.selects RX3 yX3_at yX3_at, Cond.code yX3_at cX3_at 2 (some .int)]
def wsX5_append_r4 : List Cond := [Cond.methodLink RX0 77 yX3_add, Cond.methodLink RX0 80 yX3_addPart, Cond.instanceMethod yX3_addPart, Cond.selects RX3 yX3_addPart yX3_addPart, Cond.code yX3_addPart cX3_addPart 5 none, Cond.methodLink RX3 23 yX3_at, Cond.methodLink RX0 24 yX3_shorten, Cond.instanceMethod yX3_shorten, Cond.selects RX3 yX3_shorten yX3_shorten, Cond.code yX3_shorten cX3_shorten 2 none, Cond.methodLink RX5 93 yX0_bytes, Cond.instanceMethod yX0_bytes, Cond.selects RX0 yX0_bytes yX0_bytes, Cond.code yX0_bytes cX0_bytes 1 (some (.object "FragmentLog$Row")), Cond.methodLink RX5 68 yX3_many]
def wsX5_append : List Cond := .code yX5_append cX5_append 1 (some .int) :: ((wsX5_append_r1 ++ (wsX5_append_r2 ++ (wsX5_append_r3 ++ wsX5_append_r4))) ++ wsX50 ++ wsX00 ++ wsX30)
def wsX5_raw_r1 : List Cond := [Cond.classLink RX5 34 "java/lang/IllegalArgumentException", Cond.initialized "java/lang/IllegalArgumentException", Cond.fieldLink RX5 21 "FragmentLog" "blocks" "LFragmentLog$Blocks;", Cond.fieldLink RX5 14 "FragmentLog" "buffer" "LFragmentLog$Row;", Cond.methodLink RX5 78 yX5_isByte, Cond.static yX5_isByte, Cond.initialized RX5, Cond.code yX5_isByte cX5_isByte 1 (some .boolean), Cond.methodLink RX5 68 yX3_many, Cond.instanceMethod yX3_many, Cond.selects RX3 yX3_many yX3_many, Cond.initialized RX3, Cond.code yX3_many cX3_many 1 (some .int), Cond.fieldLink RX3 15 "FragmentLog$Row" "many" "I", Cond.methodLink RX5 97 yX0_addFragment, Cond.instanceMethod yX0_addFragment, Cond.selects RX0 yX0_addFragment yX0_addFragment, Cond.initialized RX0, Cond.code yX0_addFragment cX0_addFragment 5 (some .boolean), Cond.fieldLink RX0 14 "FragmentLog$Blocks" "bytes" "LFragmentLog$Row;", Cond.methodLink RX0 63 yX3_hasRoomFor, Cond.instanceMethod yX3_hasRoomFor, Cond.selects RX3 yX3_hasRoomFor yX3_hasRoomFor, Cond.code yX3_hasRoomFor cX3_hasRoomFor 2 (some .boolean)]
def wsX5_raw_r2 : List Cond := [Cond.fieldLink RX3 9 "FragmentLog$Row" "held" "[B", Cond.methodLink RX0 71 yX4_of, Cond.static yX4_of, Cond.initialized RX4, Cond.code yX4_of cX4_of 6 (some .int), Cond.constant RX4 19 (-1568478504), Cond.methodLink RX4 7 yX4_withByte, Cond.static yX4_withByte, Cond.code yX4_withByte cX4_withByte 3 (some .int), Cond.fieldLink RX4 20 "FragmentLog$Sum" "REMAINDERS" "[I", Cond.methodLink RX4 13 yX3_at, Cond.instanceMethod yX3_at, Cond.selects RX3 yX3_at yX3_at, Cond.code yX3_at cX3_at 2 (some .int), Cond.methodLink RX0 67 yX3_addLowestFirst, Cond.instanceMethod yX3_addLowestFirst, Cond.selects RX3 yX3_addLowestFirst yX3_addLowestFirst, Cond.code yX3_addLowestFirst cX3_addLowestFirst 4 none, Cond.methodLink RX3 19 yX3_add, Cond.instanceMethod yX3_add, Cond.selects RX3 yX3_add yX3_add, Cond.code yX3_add cX3_add 2 none, Cond.methodLink RX0 77 yX3_add, Cond.methodLink RX0 80 yX3_addPart]
def wsX5_raw_r3 : List Cond := [Cond.instanceMethod yX3_addPart, Cond.selects RX3 yX3_addPart yX3_addPart, Cond.code yX3_addPart cX3_addPart 5 none, Cond.methodLink RX3 23 yX3_at, Cond.methodLink RX5 93 yX0_bytes, Cond.instanceMethod yX0_bytes, Cond.selects RX0 yX0_bytes yX0_bytes, Cond.code yX0_bytes cX0_bytes 1 (some (.object "FragmentLog$Row"))]
def wsX5_raw : List Cond := .code yX5_raw cX5_raw 2 (some .int) :: ((wsX5_raw_r1 ++ (wsX5_raw_r2 ++ wsX5_raw_r3)) ++ wsX50 ++ wsX30 ++ wsX00 ++ (vx_atS RX5 38 "java/lang/IllegalArgumentException" ["java/lang/RuntimeException", "java/lang/Exception"]).filter goodWord)
def wsX5_put_r1 : List Cond := [Cond.classLink RX5 104 "java/lang/IndexOutOfBoundsException", Cond.initialized "java/lang/IndexOutOfBoundsException", Cond.classLink RX5 34 "java/lang/IllegalArgumentException", Cond.initialized "java/lang/IllegalArgumentException", Cond.fieldLink RX5 21 "FragmentLog" "blocks" "LFragmentLog$Blocks;", Cond.methodLink RX5 93 yX0_bytes, Cond.instanceMethod yX0_bytes, Cond.selects RX0 yX0_bytes yX0_bytes, Cond.initialized RX0, Cond.code yX0_bytes cX0_bytes 1 (some (.object "FragmentLog$Row")), Cond.fieldLink RX0 14 "FragmentLog$Blocks" "bytes" "LFragmentLog$Row;", Cond.methodLink RX5 101 yX3_has, Cond.instanceMethod yX3_has, Cond.selects RX3 yX3_has yX3_has, Cond.initialized RX3, Cond.code yX3_has cX3_has 2 (some .boolean), Cond.fieldLink RX3 15 "FragmentLog$Row" "many" "I", Cond.methodLink RX5 78 yX5_isByte, Cond.static yX5_isByte, Cond.initialized RX5, Cond.code yX5_isByte cX5_isByte 1 (some .boolean), Cond.methodLink RX5 111 yX3_at, Cond.instanceMethod yX3_at, Cond.selects RX3 yX3_at yX3_at]
def wsX5_put_r2 : List Cond := [Cond.code yX3_at cX3_at 2 (some .int), Cond.fieldLink RX3 9 "FragmentLog$Row" "held" "[B", Cond.methodLink RX5 115 yX3_replace, Cond.instanceMethod yX3_replace, Cond.selects RX3 yX3_replace yX3_replace, Cond.code yX3_replace cX3_replace 3 none, Cond.methodLink RX3 27 yX3_has]
def wsX5_put : List Cond := .code yX5_put cX5_put 4 (some .int) :: ((wsX5_put_r1 ++ wsX5_put_r2) ++ wsX50 ++ wsX00 ++ wsX30 ++ (vx_atS RX5 108 "java/lang/IndexOutOfBoundsException" ["java/lang/RuntimeException", "java/lang/Exception"]).filter goodWord ++ (vx_atS RX5 38 "java/lang/IllegalArgumentException" ["java/lang/RuntimeException", "java/lang/Exception"]).filter goodWord)
def wsX5_cut_r1 : List Cond := [Cond.classLink RX5 34 "java/lang/IllegalArgumentException", Cond.initialized "java/lang/IllegalArgumentException", Cond.fieldLink RX5 21 "FragmentLog" "blocks" "LFragmentLog$Blocks;", Cond.fieldLink RX5 30 "FragmentLog" "reader" "LFragmentLog$Reader;", Cond.methodLink RX5 93 yX0_bytes, Cond.instanceMethod yX0_bytes, Cond.selects RX0 yX0_bytes yX0_bytes, Cond.initialized RX0, Cond.code yX0_bytes cX0_bytes 1 (some (.object "FragmentLog$Row")), Cond.fieldLink RX0 14 "FragmentLog$Blocks" "bytes" "LFragmentLog$Row;", Cond.methodLink RX5 68 yX3_many, Cond.instanceMethod yX3_many, Cond.selects RX3 yX3_many yX3_many, Cond.initialized RX3, Cond.code yX3_many cX3_many 1 (some .int), Cond.fieldLink RX3 15 "FragmentLog$Row" "many" "I", Cond.methodLink RX5 75 yX3_shorten, Cond.instanceMethod yX3_shorten, Cond.selects RX3 yX3_shorten yX3_shorten, Cond.code yX3_shorten cX3_shorten 2 none, Cond.methodLink RX5 44 yX2_beginAt, Cond.instanceMethod yX2_beginAt, Cond.selects RX2 yX2_beginAt yX2_beginAt, Cond.initialized RX2]
def wsX5_cut_r2 : List Cond := [Cond.code yX2_beginAt cX2_beginAt 3 none, Cond.fieldLink RX2 50 "FragmentLog$Reader" "blocks" "LFragmentLog$Blocks;", Cond.fieldLink RX2 35 "FragmentLog$Reader" "place" "I", Cond.fieldLink RX2 38 "FragmentLog$Reader" "begun" "I", Cond.fieldLink RX2 41 "FragmentLog$Reader" "lost" "Z", Cond.fieldLink RX2 12 "FragmentLog$Reader" "drops" "LFragmentLog$Drops;", Cond.methodLink RX2 54 yX0_endOfBlock, Cond.instanceMethod yX0_endOfBlock, Cond.selects RX0 yX0_endOfBlock yX0_endOfBlock, Cond.code yX0_endOfBlock cX0_endOfBlock 2 (some .int), Cond.fieldLink RX0 20 "FragmentLog$Blocks" "size" "I", Cond.methodLink RX0 27 yX0_startOfBlock, Cond.instanceMethod yX0_startOfBlock, Cond.selects RX0 yX0_startOfBlock yX0_startOfBlock, Cond.code yX0_startOfBlock cX0_startOfBlock 2 (some .int), Cond.methodLink RX2 60 yX0_startOfBlock, Cond.methodLink RX2 63 yX1_forget, Cond.instanceMethod yX1_forget, Cond.selects RX1 yX1_forget yX1_forget, Cond.initialized RX1, Cond.code yX1_forget cX1_forget 1 none, Cond.fieldLink RX1 18 "FragmentLog$Drops" "many" "I", Cond.fieldLink RX1 22 "FragmentLog$Drops" "allBytes" "I"]
def wsX5_cut : List Cond := .code yX5_cut cX5_cut 3 (some .int) :: ((wsX5_cut_r1 ++ wsX5_cut_r2) ++ wsX50 ++ wsX00 ++ wsX30 ++ wsX20 ++ wsX10 ++ (vx_atS RX5 38 "java/lang/IllegalArgumentException" ["java/lang/RuntimeException", "java/lang/Exception"]).filter goodWord)
def wsX5_begin_r1 : List Cond := [Cond.classLink RX5 34 "java/lang/IllegalArgumentException", Cond.initialized "java/lang/IllegalArgumentException", Cond.fieldLink RX5 30 "FragmentLog" "reader" "LFragmentLog$Reader;", Cond.methodLink RX5 44 yX2_beginAt, Cond.instanceMethod yX2_beginAt, Cond.selects RX2 yX2_beginAt yX2_beginAt, Cond.initialized RX2, Cond.code yX2_beginAt cX2_beginAt 3 none, Cond.fieldLink RX2 50 "FragmentLog$Reader" "blocks" "LFragmentLog$Blocks;", Cond.fieldLink RX2 35 "FragmentLog$Reader" "place" "I", Cond.fieldLink RX2 38 "FragmentLog$Reader" "begun" "I", Cond.fieldLink RX2 41 "FragmentLog$Reader" "lost" "Z", Cond.fieldLink RX2 12 "FragmentLog$Reader" "drops" "LFragmentLog$Drops;", Cond.methodLink RX2 54 yX0_endOfBlock, Cond.instanceMethod yX0_endOfBlock, Cond.selects RX0 yX0_endOfBlock yX0_endOfBlock, Cond.initialized RX0, Cond.code yX0_endOfBlock cX0_endOfBlock 2 (some .int), Cond.fieldLink RX0 20 "FragmentLog$Blocks" "size" "I", Cond.methodLink RX0 27 yX0_startOfBlock, Cond.instanceMethod yX0_startOfBlock, Cond.selects RX0 yX0_startOfBlock yX0_startOfBlock, Cond.code yX0_startOfBlock cX0_startOfBlock 2 (some .int), Cond.methodLink RX2 60 yX0_startOfBlock]
def wsX5_begin_r2 : List Cond := [Cond.methodLink RX2 63 yX1_forget, Cond.instanceMethod yX1_forget, Cond.selects RX1 yX1_forget yX1_forget, Cond.initialized RX1, Cond.code yX1_forget cX1_forget 1 none, Cond.fieldLink RX1 18 "FragmentLog$Drops" "many" "I", Cond.fieldLink RX1 22 "FragmentLog$Drops" "allBytes" "I", Cond.methodLink RX5 122 yX2_place, Cond.instanceMethod yX2_place, Cond.selects RX2 yX2_place yX2_place, Cond.code yX2_place cX2_place 1 (some .int)]
def wsX5_begin : List Cond := .code yX5_begin cX5_begin 2 (some .int) :: ((wsX5_begin_r1 ++ wsX5_begin_r2) ++ wsX50 ++ wsX20 ++ wsX00 ++ wsX10 ++ (vx_atS RX5 38 "java/lang/IllegalArgumentException" ["java/lang/RuntimeException", "java/lang/Exception"]).filter goodWord)
def wsX5_read_r1 : List Cond := [Cond.fieldLink RX5 30 "FragmentLog" "reader" "LFragmentLog$Reader;", Cond.methodLink RX5 125 yX2_findRecord, Cond.instanceMethod yX2_findRecord, Cond.selects RX2 yX2_findRecord yX2_findRecord, Cond.initialized RX2, Cond.code yX2_findRecord cX2_findRecord 3 (some .boolean), Cond.methodLink RX2 66 yX2_dropRecord, Cond.instanceMethod yX2_dropRecord, Cond.selects RX2 yX2_dropRecord yX2_dropRecord, Cond.code yX2_dropRecord cX2_dropRecord 1 none, Cond.fieldLink RX2 23 "FragmentLog$Reader" "record" "LFragmentLog$Row;", Cond.fieldLink RX2 27 "FragmentLog$Reader" "recordPlace" "I", Cond.fieldLink RX2 31 "FragmentLog$Reader" "hasFirst" "Z", Cond.methodLink RX2 134 yX3_shorten, Cond.instanceMethod yX3_shorten, Cond.selects RX3 yX3_shorten yX3_shorten, Cond.initialized RX3, Cond.code yX3_shorten cX3_shorten 2 none, Cond.fieldLink RX3 15 "FragmentLog$Row" "many" "I", Cond.methodLink RX2 69 yX2_nextBit, Cond.instanceMethod yX2_nextBit, Cond.selects RX2 yX2_nextBit yX2_nextBit, Cond.code yX2_nextBit cX2_nextBit 4 (some .int), Cond.fieldLink RX2 50 "FragmentLog$Reader" "blocks" "LFragmentLog$Blocks;"]
def wsX5_read_r2 : List Cond := [Cond.fieldLink RX2 35 "FragmentLog$Reader" "place" "I", Cond.fieldLink RX2 44 "FragmentLog$Reader" "fragmentPlace" "I", Cond.fieldLink RX2 47 "FragmentLog$Reader" "fragmentBytes" "I", Cond.fieldLink RX2 38 "FragmentLog$Reader" "begun" "I", Cond.methodLink RX2 83 yX0_leftInBlock, Cond.instanceMethod yX0_leftInBlock, Cond.selects RX0 yX0_leftInBlock yX0_leftInBlock, Cond.initialized RX0, Cond.code yX0_leftInBlock cX0_leftInBlock 2 (some .int), Cond.fieldLink RX0 14 "FragmentLog$Blocks" "bytes" "LFragmentLog$Row;", Cond.methodLink RX0 38 Lib.Math.min.name, Cond.static Lib.Math.min.name, Cond.initialized "java/lang/Math", Cond.code Lib.Math.min.name Lib.Math.min.code 2 (some .int), Cond.methodLink RX0 31 yX0_endOfBlock, Cond.instanceMethod yX0_endOfBlock, Cond.selects RX0 yX0_endOfBlock yX0_endOfBlock, Cond.code yX0_endOfBlock cX0_endOfBlock 2 (some .int), Cond.fieldLink RX0 20 "FragmentLog$Blocks" "size" "I", Cond.methodLink RX0 27 yX0_startOfBlock, Cond.instanceMethod yX0_startOfBlock, Cond.selects RX0 yX0_startOfBlock yX0_startOfBlock, Cond.code yX0_startOfBlock cX0_startOfBlock 2 (some .int), Cond.methodLink RX0 34 yX3_many]
def wsX5_read_r3 : List Cond := [Cond.instanceMethod yX3_many, Cond.selects RX3 yX3_many yX3_many, Cond.code yX3_many cX3_many 1 (some .int), Cond.methodLink RX2 86 yX0_isWhole, Cond.instanceMethod yX0_isWhole, Cond.selects RX0 yX0_isWhole yX0_isWhole, Cond.code yX0_isWhole cX0_isWhole 2 (some .boolean), Cond.methodLink RX2 54 yX0_endOfBlock, Cond.methodLink RX2 89 yX0_bytes, Cond.instanceMethod yX0_bytes, Cond.selects RX0 yX0_bytes yX0_bytes, Cond.code yX0_bytes cX0_bytes 1 (some (.object "FragmentLog$Row")), Cond.methodLink RX2 93 yX3_numberLowestFirst, Cond.instanceMethod yX3_numberLowestFirst, Cond.selects RX3 yX3_numberLowestFirst yX3_numberLowestFirst, Cond.code yX3_numberLowestFirst cX3_numberLowestFirst 5 (some .int), Cond.methodLink RX3 23 yX3_at, Cond.instanceMethod yX3_at, Cond.selects RX3 yX3_at yX3_at, Cond.code yX3_at cX3_at 2 (some .int), Cond.fieldLink RX3 9 "FragmentLog$Row" "held" "[B", Cond.methodLink RX2 97 yX3_at, Cond.methodLink RX2 100 yX2_breakBlock, Cond.instanceMethod yX2_breakBlock]
def wsX5_read_r4 : List Cond := [Cond.selects RX2 yX2_breakBlock yX2_breakBlock, Cond.code yX2_breakBlock cX2_breakBlock 3 (some .int), Cond.fieldLink RX2 12 "FragmentLog$Reader" "drops" "LFragmentLog$Drops;", Cond.methodLink RX2 113 yX1_tell, Cond.instanceMethod yX1_tell, Cond.selects RX1 yX1_tell yX1_tell, Cond.initialized RX1, Cond.code yX1_tell cX1_tell 3 none, Cond.fieldLink RX1 18 "FragmentLog$Drops" "many" "I", Cond.fieldLink RX1 9 "FragmentLog$Drops" "which" "[I", Cond.fieldLink RX1 15 "FragmentLog$Drops" "bytes" "[I", Cond.fieldLink RX1 22 "FragmentLog$Drops" "allBytes" "I", Cond.methodLink RX2 103 yX2_isCheckRight, Cond.instanceMethod yX2_isCheckRight, Cond.selects RX2 yX2_isCheckRight yX2_isCheckRight, Cond.code yX2_isCheckRight cX2_isCheckRight 4 (some .boolean), Cond.methodLink RX2 107 yX4_of, Cond.static yX4_of, Cond.initialized RX4, Cond.code yX4_of cX4_of 6 (some .int), Cond.constant RX4 19 (-1568478504), Cond.methodLink RX4 7 yX4_withByte, Cond.static yX4_withByte, Cond.code yX4_withByte cX4_withByte 3 (some .int)]
def wsX5_read_r5 : List Cond := [Cond.fieldLink RX4 20 "FragmentLog$Sum" "REMAINDERS" "[I", Cond.methodLink RX4 13 yX3_at, Cond.methodLink RX2 73 yX2_tear, Cond.instanceMethod yX2_tear, Cond.selects RX2 yX2_tear yX2_tear, Cond.code yX2_tear cX2_tear 1 none, Cond.methodLink RX2 117 yX3_many, Cond.methodLink RX2 76 yX2_passesOver, Cond.instanceMethod yX2_passesOver, Cond.selects RX2 yX2_passesOver yX2_passesOver, Cond.code yX2_passesOver cX2_passesOver 2 (some .boolean), Cond.fieldLink RX2 41 "FragmentLog$Reader" "lost" "Z", Cond.methodLink RX2 80 yX2_takeFragment, Cond.instanceMethod yX2_takeFragment, Cond.selects RX2 yX2_takeFragment yX2_takeFragment, Cond.code yX2_takeFragment cX2_takeFragment 2 (some .boolean), Cond.methodLink RX2 120 yX2_startRecord, Cond.instanceMethod yX2_startRecord, Cond.selects RX2 yX2_startRecord yX2_startRecord, Cond.code yX2_startRecord cX2_startRecord 1 none, Cond.methodLink RX2 127 yX2_addFragmentBytes, Cond.instanceMethod yX2_addFragmentBytes, Cond.selects RX2 yX2_addFragmentBytes yX2_addFragmentBytes, Cond.code yX2_addFragmentBytes cX2_addFragmentBytes 1 none]
def wsX5_read_r6 : List Cond := [Cond.methodLink RX2 130 yX3_addPart, Cond.instanceMethod yX3_addPart, Cond.selects RX3 yX3_addPart yX3_addPart, Cond.code yX3_addPart cX3_addPart 5 none, Cond.methodLink RX3 19 yX3_add, Cond.instanceMethod yX3_add, Cond.selects RX3 yX3_add yX3_add, Cond.code yX3_add cX3_add 2 none, Cond.methodLink RX2 123 yX2_goOnWithRecord, Cond.instanceMethod yX2_goOnWithRecord, Cond.selects RX2 yX2_goOnWithRecord yX2_goOnWithRecord, Cond.code yX2_goOnWithRecord cX2_goOnWithRecord 1 (some .boolean), Cond.methodLink RX5 129 yX2_record, Cond.instanceMethod yX2_record, Cond.selects RX2 yX2_record yX2_record, Cond.code yX2_record cX2_record 1 (some (.object "FragmentLog$Row")), Cond.methodLink RX5 68 yX3_many]
def wsX5_read : List Cond := .code yX5_read cX5_read 1 (some .int) :: ((wsX5_read_r1 ++ (wsX5_read_r2 ++ (wsX5_read_r3 ++ (wsX5_read_r4 ++ (wsX5_read_r5 ++ wsX5_read_r6))))) ++ wsX50 ++ wsX20 ++ wsX30 ++ wsX00 ++ wsX10)
def wsX5_octet : List Cond := .code yX5_octet cX5_octet 2 (some .int) :: ([.fieldLink RX5 30 "FragmentLog" "reader" "LFragmentLog$Reader;", .methodLink RX5 129 yX2_record, .instanceMethod yX2_record, .selects RX2 yX2_record yX2_record, .initialized RX2, .code yX2_record cX2_record 1 (some (.object "FragmentLog$Row")), .fieldLink RX2 23 "FragmentLog$Reader" "record" "LFragmentLog$Row;", .methodLink RX5 111 yX3_at, .instanceMethod yX3_at, .selects RX3 yX3_at yX3_at, .initialized RX3, .code yX3_at cX3_at 2 (some .int), .fieldLink RX3 15 "FragmentLog$Row" "many" "I", .fieldLink RX3 9 "FragmentLog$Row" "held" "[B"] ++ wsX50 ++ wsX20 ++ wsX30)
def wsX5_first : List Cond := .code yX5_first cX5_first 1 (some .int) :: ([.fieldLink RX5 30 "FragmentLog" "reader" "LFragmentLog$Reader;", .methodLink RX5 132 yX2_recordPlace, .instanceMethod yX2_recordPlace, .selects RX2 yX2_recordPlace yX2_recordPlace, .initialized RX2, .code yX2_recordPlace cX2_recordPlace 1 (some .int), .fieldLink RX2 27 "FragmentLog$Reader" "recordPlace" "I"] ++ wsX50 ++ wsX20)
def wsX5_count_r1 : List Cond := [Cond.classLink RX5 34 "java/lang/IllegalArgumentException", Cond.initialized "java/lang/IllegalArgumentException", Cond.fieldLink RX5 21 "FragmentLog" "blocks" "LFragmentLog$Blocks;", Cond.fieldLink RX5 30 "FragmentLog" "reader" "LFragmentLog$Reader;", Cond.fieldLink RX5 14 "FragmentLog" "buffer" "LFragmentLog$Row;", Cond.methodLink RX5 93 yX0_bytes, Cond.instanceMethod yX0_bytes, Cond.selects RX0 yX0_bytes yX0_bytes, Cond.initialized RX0, Cond.code yX0_bytes cX0_bytes 1 (some (.object "FragmentLog$Row")), Cond.fieldLink RX0 14 "FragmentLog$Blocks" "bytes" "LFragmentLog$Row;", Cond.methodLink RX5 68 yX3_many, Cond.instanceMethod yX3_many, Cond.selects RX3 yX3_many yX3_many, Cond.initialized RX3, Cond.code yX3_many cX3_many 1 (some .int), Cond.fieldLink RX3 15 "FragmentLog$Row" "many" "I", Cond.methodLink RX5 122 yX2_place, Cond.instanceMethod yX2_place, Cond.selects RX2 yX2_place yX2_place, Cond.initialized RX2, Cond.code yX2_place cX2_place 1 (some .int), Cond.fieldLink RX2 35 "FragmentLog$Reader" "place" "I", Cond.methodLink RX5 135 yX2_isLost]
def wsX5_count_r2 : List Cond := [Cond.instanceMethod yX2_isLost, Cond.selects RX2 yX2_isLost yX2_isLost, Cond.code yX2_isLost cX2_isLost 1 (some .boolean), Cond.fieldLink RX2 41 "FragmentLog$Reader" "lost" "Z", Cond.methodLink RX5 138 yX2_drops, Cond.instanceMethod yX2_drops, Cond.selects RX2 yX2_drops yX2_drops, Cond.code yX2_drops cX2_drops 1 (some (.object "FragmentLog$Drops")), Cond.fieldLink RX2 12 "FragmentLog$Reader" "drops" "LFragmentLog$Drops;", Cond.methodLink RX5 142 yX1_many, Cond.instanceMethod yX1_many, Cond.selects RX1 yX1_many yX1_many, Cond.initialized RX1, Cond.code yX1_many cX1_many 1 (some .int), Cond.fieldLink RX1 18 "FragmentLog$Drops" "many" "I", Cond.methodLink RX5 145 yX1_allBytes, Cond.instanceMethod yX1_allBytes, Cond.selects RX1 yX1_allBytes yX1_allBytes, Cond.code yX1_allBytes cX1_allBytes 1 (some .int), Cond.fieldLink RX1 22 "FragmentLog$Drops" "allBytes" "I"]
def wsX5_count : List Cond := .code yX5_count cX5_count 2 (some .int) :: ((wsX5_count_r1 ++ wsX5_count_r2) ++ wsX50 ++ wsX00 ++ wsX30 ++ wsX20 ++ wsX10 ++ (vx_atS RX5 38 "java/lang/IllegalArgumentException" ["java/lang/RuntimeException", "java/lang/Exception"]).filter goodWord)
def wsX5_told_r1 : List Cond := [Cond.classLink RX5 34 "java/lang/IllegalArgumentException", Cond.initialized "java/lang/IllegalArgumentException", Cond.fieldLink RX5 30 "FragmentLog" "reader" "LFragmentLog$Reader;", Cond.methodLink RX5 138 yX2_drops, Cond.instanceMethod yX2_drops, Cond.selects RX2 yX2_drops yX2_drops, Cond.initialized RX2, Cond.code yX2_drops cX2_drops 1 (some (.object "FragmentLog$Drops")), Cond.fieldLink RX2 12 "FragmentLog$Reader" "drops" "LFragmentLog$Drops;", Cond.methodLink RX5 152 yX1_whichAt, Cond.instanceMethod yX1_whichAt, Cond.selects RX1 yX1_whichAt yX1_whichAt, Cond.initialized RX1, Cond.code yX1_whichAt cX1_whichAt 2 (some .int), Cond.fieldLink RX1 9 "FragmentLog$Drops" "which" "[I", Cond.methodLink RX1 25 yX1_isKept, Cond.instanceMethod yX1_isKept, Cond.selects RX1 yX1_isKept yX1_isKept, Cond.code yX1_isKept cX1_isKept 2 (some .boolean), Cond.fieldLink RX1 18 "FragmentLog$Drops" "many" "I", Cond.methodLink RX5 155 yX1_bytesAt, Cond.instanceMethod yX1_bytesAt, Cond.selects RX1 yX1_bytesAt yX1_bytesAt, Cond.code yX1_bytesAt cX1_bytesAt 2 (some .int)]
def wsX5_told_r2 : List Cond := [Cond.fieldLink RX1 15 "FragmentLog$Drops" "bytes" "[I"]
def wsX5_told : List Cond := .code yX5_told cX5_told 3 (some .int) :: ((wsX5_told_r1 ++ wsX5_told_r2) ++ wsX50 ++ wsX20 ++ wsX10 ++ (vx_atS RX5 38 "java/lang/IllegalArgumentException" ["java/lang/RuntimeException", "java/lang/Exception"]).filter goodWord)
def wsX5_log : List Cond := .code yX5_log cX5_log 2 (some .int) :: ([.fieldLink RX5 21 "FragmentLog" "blocks" "LFragmentLog$Blocks;", .methodLink RX5 93 yX0_bytes, .instanceMethod yX0_bytes, .selects RX0 yX0_bytes yX0_bytes, .initialized RX0, .code yX0_bytes cX0_bytes 1 (some (.object "FragmentLog$Row")), .fieldLink RX0 14 "FragmentLog$Blocks" "bytes" "LFragmentLog$Row;", .methodLink RX5 111 yX3_at, .instanceMethod yX3_at, .selects RX3 yX3_at yX3_at, .initialized RX3, .code yX3_at cX3_at 2 (some .int), .fieldLink RX3 15 "FragmentLog$Row" "many" "I", .fieldLink RX3 9 "FragmentLog$Row" "held" "[B"] ++ wsX50 ++ wsX00 ++ wsX30)
def wsX6_init : List Cond := .code yX6_init cX6_init 1 none :: ([.methodLink RX6 1 objectInit, .instanceMethod objectInit, .code objectInit ⟨#[0xb1]⟩ 1 none, .fieldLink RX6 7 "FragmentLogModel" "size" "I", .arrayClass .int, .fieldLink RX6 13 "FragmentLogModel" "bytes" "[I", .fieldLink RX6 17 "FragmentLogModel" "buffer" "[I", .fieldLink RX6 20 "FragmentLogModel" "has" "[I", .fieldLink RX6 23 "FragmentLogModel" "recordSize" "I", .fieldLink RX6 26 "FragmentLogModel" "recordFrom" "I", .fieldLink RX6 29 "FragmentLogModel" "record" "[I", .fieldLink RX6 32 "FragmentLogModel" "toldWhich" "[I", .fieldLink RX6 35 "FragmentLogModel" "toldMany" "[I"] ++ wsX60)
def wsX6_thrown : List Cond := .code yX6_thrown cX6_thrown 1 (some .int) :: ([.fieldLink RX6 38 "FragmentLogModel" "fault" "I"] ++ wsX60)
def wsX6_refused : List Cond := .code yX6_refused cX6_refused 2 (some .boolean) :: ([.fieldLink RX6 38 "FragmentLogModel" "fault" "I"] ++ wsX60)
def wsX6_isIn : List Cond := .code yX6_isIn cX6_isIn 3 (some .boolean) :: ([])
def wsX6_beginAt : List Cond := .code yX6_beginAt cX6_beginAt 2 none :: ([.fieldLink RX6 41 "FragmentLogModel" "begun" "I", .fieldLink RX6 7 "FragmentLogModel" "size" "I", .fieldLink RX6 44 "FragmentLogModel" "place" "I", .fieldLink RX6 47 "FragmentLogModel" "isLost" "Z", .fieldLink RX6 51 "FragmentLogModel" "hasFirst" "Z", .fieldLink RX6 54 "FragmentLogModel" "hasSize" "I", .fieldLink RX6 57 "FragmentLogModel" "told" "I", .fieldLink RX6 60 "FragmentLogModel" "toldBytes" "I", .fieldLink RX6 23 "FragmentLogModel" "recordSize" "I", .fieldLink RX6 26 "FragmentLogModel" "recordFrom" "I"] ++ wsX60)
def wsX6_clear : List Cond := .code yX6_clear cX6_clear 2 none :: ([.fieldLink RX6 7 "FragmentLogModel" "size" "I", .fieldLink RX6 71 "FragmentLogModel" "all" "I", .methodLink RX6 63 yX6_isIn, .static yX6_isIn, .initialized RX6, .code yX6_isIn cX6_isIn 3 (some .boolean), .methodLink RX6 67 yX6_refused, .instanceMethod yX6_refused, .selects RX6 yX6_refused yX6_refused, .code yX6_refused cX6_refused 2 (some .boolean), .fieldLink RX6 38 "FragmentLogModel" "fault" "I", .methodLink RX6 74 yX6_beginAt, .instanceMethod yX6_beginAt, .selects RX6 yX6_beginAt yX6_beginAt, .code yX6_beginAt cX6_beginAt 2 none, .fieldLink RX6 41 "FragmentLogModel" "begun" "I", .fieldLink RX6 44 "FragmentLogModel" "place" "I", .fieldLink RX6 47 "FragmentLogModel" "isLost" "Z", .fieldLink RX6 51 "FragmentLogModel" "hasFirst" "Z", .fieldLink RX6 54 "FragmentLogModel" "hasSize" "I", .fieldLink RX6 57 "FragmentLogModel" "told" "I", .fieldLink RX6 60 "FragmentLogModel" "toldBytes" "I", .fieldLink RX6 23 "FragmentLogModel" "recordSize" "I", .fieldLink RX6 26 "FragmentLogModel" "recordFrom" "I"] ++ wsX60)
def wsX6_feed : List Cond := .code yX6_feed cX6_feed 8 (some .int) :: ([.fieldLink RX6 78 "FragmentLogModel" "bufferSize" "I", .fieldLink RX6 17 "FragmentLogModel" "buffer" "[I", .methodLink RX6 63 yX6_isIn, .static yX6_isIn, .initialized RX6, .code yX6_isIn cX6_isIn 3 (some .boolean), .methodLink RX6 67 yX6_refused, .instanceMethod yX6_refused, .selects RX6 yX6_refused yX6_refused, .code yX6_refused cX6_refused 2 (some .boolean), .fieldLink RX6 38 "FragmentLogModel" "fault" "I"] ++ wsX60)
def wsX6_erase : List Cond := .code yX6_erase cX6_erase 2 (some .int) :: ([.fieldLink RX6 38 "FragmentLogModel" "fault" "I", .fieldLink RX6 78 "FragmentLogModel" "bufferSize" "I"] ++ wsX60)
def wsX6_more : List Cond := .code yX6_more cX6_more 4 (some .int) :: ([.constant RX6 81 (-2097792136)])
def wsX6_masked : List Cond := .code yX6_masked cX6_masked 2 (some .int) :: ([.constant RX6 82 (-1568478504)])
def wsX6_checkOf : List Cond := .code yX6_checkOf cX6_checkOf 6 (some .int) :: ([.fieldLink RX6 17 "FragmentLogModel" "buffer" "[I", .methodLink RX6 83 yX6_more, .static yX6_more, .initialized RX6, .code yX6_more cX6_more 4 (some .int), .constant RX6 81 (-2097792136), .methodLink RX6 87 yX6_masked, .static yX6_masked, .code yX6_masked cX6_masked 2 (some .int), .constant RX6 82 (-1568478504)] ++ wsX60)
def wsX6_check : List Cond := .code yX6_check cX6_check 2 (some .int) :: ([.fieldLink RX6 78 "FragmentLogModel" "bufferSize" "I", .methodLink RX6 63 yX6_isIn, .static yX6_isIn, .initialized RX6, .code yX6_isIn cX6_isIn 3 (some .boolean), .methodLink RX6 67 yX6_refused, .instanceMethod yX6_refused, .selects RX6 yX6_refused yX6_refused, .code yX6_refused cX6_refused 2 (some .boolean), .fieldLink RX6 38 "FragmentLogModel" "fault" "I", .methodLink RX6 91 yX6_checkOf, .instanceMethod yX6_checkOf, .selects RX6 yX6_checkOf yX6_checkOf, .code yX6_checkOf cX6_checkOf 6 (some .int), .fieldLink RX6 17 "FragmentLogModel" "buffer" "[I", .methodLink RX6 83 yX6_more, .static yX6_more, .code yX6_more cX6_more 4 (some .int), .constant RX6 81 (-2097792136), .methodLink RX6 87 yX6_masked, .static yX6_masked, .code yX6_masked cX6_masked 2 (some .int), .constant RX6 82 (-1568478504)] ++ wsX60)
def wsX6_put : List Cond := .code yX6_put cX6_put 2 none :: ([.fieldLink RX6 13 "FragmentLogModel" "bytes" "[I", .fieldLink RX6 71 "FragmentLogModel" "all" "I"] ++ wsX60)
def wsX6_putFragment : List Cond := .code yX6_putFragment cX6_putFragment 6 none :: ([.fieldLink RX6 17 "FragmentLogModel" "buffer" "[I", .methodLink RX6 91 yX6_checkOf, .instanceMethod yX6_checkOf, .selects RX6 yX6_checkOf yX6_checkOf, .initialized RX6, .code yX6_checkOf cX6_checkOf 6 (some .int), .methodLink RX6 83 yX6_more, .static yX6_more, .code yX6_more cX6_more 4 (some .int), .constant RX6 81 (-2097792136), .methodLink RX6 87 yX6_masked, .static yX6_masked, .code yX6_masked cX6_masked 2 (some .int), .constant RX6 82 (-1568478504), .methodLink RX6 95 yX6_put, .instanceMethod yX6_put, .selects RX6 yX6_put yX6_put, .code yX6_put cX6_put 2 none, .fieldLink RX6 13 "FragmentLogModel" "bytes" "[I", .fieldLink RX6 71 "FragmentLogModel" "all" "I"] ++ wsX60)
def wsX6_appendedSize : List Cond := .code yX6_appendedSize cX6_appendedSize 6 (some .int) :: ([.fieldLink RX6 71 "FragmentLogModel" "all" "I", .fieldLink RX6 78 "FragmentLogModel" "bufferSize" "I", .fieldLink RX6 7 "FragmentLogModel" "size" "I"] ++ wsX60)
def wsX6_append_r1 : List Cond := [Cond.fieldLink RX6 38 "FragmentLogModel" "fault" "I", Cond.fieldLink RX6 7 "FragmentLogModel" "size" "I", Cond.fieldLink RX6 71 "FragmentLogModel" "all" "I", Cond.fieldLink RX6 78 "FragmentLogModel" "bufferSize" "I", Cond.fieldLink RX6 102 "FragmentLogModel" "hasBegun" "Z", Cond.methodLink RX6 98 yX6_appendedSize, Cond.instanceMethod yX6_appendedSize, Cond.selects RX6 yX6_appendedSize yX6_appendedSize, Cond.initialized RX6, Cond.code yX6_appendedSize cX6_appendedSize 6 (some .int), Cond.methodLink RX6 95 yX6_put, Cond.instanceMethod yX6_put, Cond.selects RX6 yX6_put yX6_put, Cond.code yX6_put cX6_put 2 none, Cond.fieldLink RX6 13 "FragmentLogModel" "bytes" "[I", Cond.methodLink RX6 105 yX6_putFragment, Cond.instanceMethod yX6_putFragment, Cond.selects RX6 yX6_putFragment yX6_putFragment, Cond.code yX6_putFragment cX6_putFragment 6 none, Cond.fieldLink RX6 17 "FragmentLogModel" "buffer" "[I", Cond.methodLink RX6 91 yX6_checkOf, Cond.instanceMethod yX6_checkOf, Cond.selects RX6 yX6_checkOf yX6_checkOf, Cond.code yX6_checkOf cX6_checkOf 6 (some .int)]
def wsX6_append_r2 : List Cond := [Cond.methodLink RX6 83 yX6_more, Cond.static yX6_more, Cond.code yX6_more cX6_more 4 (some .int), Cond.constant RX6 81 (-2097792136), Cond.methodLink RX6 87 yX6_masked, Cond.static yX6_masked, Cond.code yX6_masked cX6_masked 2 (some .int), Cond.constant RX6 82 (-1568478504)]
def wsX6_append : List Cond := .code yX6_append cX6_append 7 (some .int) :: ((wsX6_append_r1 ++ wsX6_append_r2) ++ wsX60)
def wsX6_raw_r1 : List Cond := [Cond.fieldLink RX6 71 "FragmentLogModel" "all" "I", Cond.fieldLink RX6 78 "FragmentLogModel" "bufferSize" "I", Cond.methodLink RX6 63 yX6_isIn, Cond.static yX6_isIn, Cond.initialized RX6, Cond.code yX6_isIn cX6_isIn 3 (some .boolean), Cond.methodLink RX6 67 yX6_refused, Cond.instanceMethod yX6_refused, Cond.selects RX6 yX6_refused yX6_refused, Cond.code yX6_refused cX6_refused 2 (some .boolean), Cond.fieldLink RX6 38 "FragmentLogModel" "fault" "I", Cond.methodLink RX6 105 yX6_putFragment, Cond.instanceMethod yX6_putFragment, Cond.selects RX6 yX6_putFragment yX6_putFragment, Cond.code yX6_putFragment cX6_putFragment 6 none, Cond.fieldLink RX6 17 "FragmentLogModel" "buffer" "[I", Cond.methodLink RX6 91 yX6_checkOf, Cond.instanceMethod yX6_checkOf, Cond.selects RX6 yX6_checkOf yX6_checkOf, Cond.code yX6_checkOf cX6_checkOf 6 (some .int), Cond.methodLink RX6 83 yX6_more, Cond.static yX6_more, Cond.code yX6_more cX6_more 4 (some .int), Cond.constant RX6 81 (-2097792136)]
def wsX6_raw_r2 : List Cond := [Cond.methodLink RX6 87 yX6_masked, Cond.static yX6_masked, Cond.code yX6_masked cX6_masked 2 (some .int), Cond.constant RX6 82 (-1568478504), Cond.methodLink RX6 95 yX6_put, Cond.instanceMethod yX6_put, Cond.selects RX6 yX6_put yX6_put, Cond.code yX6_put cX6_put 2 none, Cond.fieldLink RX6 13 "FragmentLogModel" "bytes" "[I"]
def wsX6_raw : List Cond := .code yX6_raw cX6_raw 2 (some .int) :: ((wsX6_raw_r1 ++ wsX6_raw_r2) ++ wsX60)
def wsX6_put_ : List Cond := .code yX6_put_ cX6_put_ 4 (some .int) :: ([.fieldLink RX6 71 "FragmentLogModel" "all" "I", .fieldLink RX6 13 "FragmentLogModel" "bytes" "[I", .methodLink RX6 63 yX6_isIn, .static yX6_isIn, .initialized RX6, .code yX6_isIn cX6_isIn 3 (some .boolean), .methodLink RX6 67 yX6_refused, .instanceMethod yX6_refused, .selects RX6 yX6_refused yX6_refused, .code yX6_refused cX6_refused 2 (some .boolean), .fieldLink RX6 38 "FragmentLogModel" "fault" "I"] ++ wsX60)
def wsX6_cut : List Cond := .code yX6_cut cX6_cut 3 (some .int) :: ([.fieldLink RX6 71 "FragmentLogModel" "all" "I", .methodLink RX6 63 yX6_isIn, .static yX6_isIn, .initialized RX6, .code yX6_isIn cX6_isIn 3 (some .boolean), .methodLink RX6 67 yX6_refused, .instanceMethod yX6_refused, .selects RX6 yX6_refused yX6_refused, .code yX6_refused cX6_refused 2 (some .boolean), .fieldLink RX6 38 "FragmentLogModel" "fault" "I", .methodLink RX6 74 yX6_beginAt, .instanceMethod yX6_beginAt, .selects RX6 yX6_beginAt yX6_beginAt, .code yX6_beginAt cX6_beginAt 2 none, .fieldLink RX6 41 "FragmentLogModel" "begun" "I", .fieldLink RX6 7 "FragmentLogModel" "size" "I", .fieldLink RX6 44 "FragmentLogModel" "place" "I", .fieldLink RX6 47 "FragmentLogModel" "isLost" "Z", .fieldLink RX6 51 "FragmentLogModel" "hasFirst" "Z", .fieldLink RX6 54 "FragmentLogModel" "hasSize" "I", .fieldLink RX6 57 "FragmentLogModel" "told" "I", .fieldLink RX6 60 "FragmentLogModel" "toldBytes" "I", .fieldLink RX6 23 "FragmentLogModel" "recordSize" "I", .fieldLink RX6 26 "FragmentLogModel" "recordFrom" "I"] ++ wsX60)
def wsX6_begin : List Cond := .code yX6_begin cX6_begin 2 (some .int) :: ([.fieldLink RX6 44 "FragmentLogModel" "place" "I", .methodLink RX6 63 yX6_isIn, .static yX6_isIn, .initialized RX6, .code yX6_isIn cX6_isIn 3 (some .boolean), .methodLink RX6 67 yX6_refused, .instanceMethod yX6_refused, .selects RX6 yX6_refused yX6_refused, .code yX6_refused cX6_refused 2 (some .boolean), .fieldLink RX6 38 "FragmentLogModel" "fault" "I", .methodLink RX6 74 yX6_beginAt, .instanceMethod yX6_beginAt, .selects RX6 yX6_beginAt yX6_beginAt, .code yX6_beginAt cX6_beginAt 2 none, .fieldLink RX6 41 "FragmentLogModel" "begun" "I", .fieldLink RX6 7 "FragmentLogModel" "size" "I", .fieldLink RX6 47 "FragmentLogModel" "isLost" "Z", .fieldLink RX6 51 "FragmentLogModel" "hasFirst" "Z", .fieldLink RX6 54 "FragmentLogModel" "hasSize" "I", .fieldLink RX6 57 "FragmentLogModel" "told" "I", .fieldLink RX6 60 "FragmentLogModel" "toldBytes" "I", .fieldLink RX6 23 "FragmentLogModel" "recordSize" "I", .fieldLink RX6 26 "FragmentLogModel" "recordFrom" "I"] ++ wsX60)
def wsX6_tell : List Cond := .code yX6_tell cX6_tell 3 none :: ([.fieldLink RX6 57 "FragmentLogModel" "told" "I", .fieldLink RX6 32 "FragmentLogModel" "toldWhich" "[I", .fieldLink RX6 35 "FragmentLogModel" "toldMany" "[I", .fieldLink RX6 60 "FragmentLogModel" "toldBytes" "I"] ++ wsX60)
def wsX6_fragment : List Cond := .code yX6_fragment cX6_fragment 7 (some .int) :: ([.fieldLink RX6 44 "FragmentLogModel" "place" "I", .fieldLink RX6 7 "FragmentLogModel" "size" "I", .fieldLink RX6 71 "FragmentLogModel" "all" "I", .fieldLink RX6 109 "FragmentLogModel" "from" "I", .fieldLink RX6 13 "FragmentLogModel" "bytes" "[I", .fieldLink RX6 112 "FragmentLogModel" "length" "I", .fieldLink RX6 41 "FragmentLogModel" "begun" "I", .methodLink RX6 115 yX6_tell, .instanceMethod yX6_tell, .selects RX6 yX6_tell yX6_tell, .initialized RX6, .code yX6_tell cX6_tell 3 none, .fieldLink RX6 57 "FragmentLogModel" "told" "I", .fieldLink RX6 32 "FragmentLogModel" "toldWhich" "[I", .fieldLink RX6 35 "FragmentLogModel" "toldMany" "[I", .fieldLink RX6 60 "FragmentLogModel" "toldBytes" "I", .methodLink RX6 83 yX6_more, .static yX6_more, .code yX6_more cX6_more 4 (some .int), .constant RX6 81 (-2097792136), .methodLink RX6 87 yX6_masked, .static yX6_masked, .code yX6_masked cX6_masked 2 (some .int), .constant RX6 82 (-1568478504)] ++ wsX60)
def wsX6_take : List Cond := .code yX6_take cX6_take 2 none :: ([.fieldLink RX6 112 "FragmentLogModel" "length" "I", .fieldLink RX6 20 "FragmentLogModel" "has" "[I", .fieldLink RX6 54 "FragmentLogModel" "hasSize" "I", .fieldLink RX6 13 "FragmentLogModel" "bytes" "[I", .fieldLink RX6 109 "FragmentLogModel" "from" "I"] ++ wsX60)
def wsX6_drop : List Cond := .code yX6_drop cX6_drop 1 none :: ([.fieldLink RX6 51 "FragmentLogModel" "hasFirst" "Z", .fieldLink RX6 54 "FragmentLogModel" "hasSize" "I"] ++ wsX60)
def wsX6_start : List Cond := .code yX6_start cX6_start 1 none :: ([.fieldLink RX6 51 "FragmentLogModel" "hasFirst" "Z", .fieldLink RX6 54 "FragmentLogModel" "hasSize" "I", .fieldLink RX6 109 "FragmentLogModel" "from" "I", .fieldLink RX6 122 "FragmentLogModel" "hasFrom" "I", .methodLink RX6 115 yX6_tell, .instanceMethod yX6_tell, .selects RX6 yX6_tell yX6_tell, .initialized RX6, .code yX6_tell cX6_tell 3 none, .fieldLink RX6 57 "FragmentLogModel" "told" "I", .fieldLink RX6 32 "FragmentLogModel" "toldWhich" "[I", .fieldLink RX6 35 "FragmentLogModel" "toldMany" "[I", .fieldLink RX6 60 "FragmentLogModel" "toldBytes" "I", .methodLink RX6 119 yX6_drop, .instanceMethod yX6_drop, .selects RX6 yX6_drop yX6_drop, .code yX6_drop cX6_drop 1 none, .methodLink RX6 125 yX6_take, .instanceMethod yX6_take, .selects RX6 yX6_take yX6_take, .code yX6_take cX6_take 2 none, .fieldLink RX6 112 "FragmentLogModel" "length" "I", .fieldLink RX6 20 "FragmentLogModel" "has" "[I", .fieldLink RX6 13 "FragmentLogModel" "bytes" "[I"] ++ wsX60)
def wsX6_finish : List Cond := .code yX6_finish cX6_finish 2 none :: ([.fieldLink RX6 54 "FragmentLogModel" "hasSize" "I", .fieldLink RX6 23 "FragmentLogModel" "recordSize" "I", .fieldLink RX6 122 "FragmentLogModel" "hasFrom" "I", .fieldLink RX6 26 "FragmentLogModel" "recordFrom" "I", .fieldLink RX6 29 "FragmentLogModel" "record" "[I", .fieldLink RX6 20 "FragmentLogModel" "has" "[I", .methodLink RX6 119 yX6_drop, .instanceMethod yX6_drop, .selects RX6 yX6_drop yX6_drop, .initialized RX6, .code yX6_drop cX6_drop 1 none, .fieldLink RX6 51 "FragmentLogModel" "hasFirst" "Z"] ++ wsX60)
def wsX6_passOn_r1 : List Cond := [Cond.fieldLink RX6 51 "FragmentLogModel" "hasFirst" "Z", Cond.fieldLink RX6 54 "FragmentLogModel" "hasSize" "I", Cond.fieldLink RX6 47 "FragmentLogModel" "isLost" "Z", Cond.fieldLink RX6 112 "FragmentLogModel" "length" "I", Cond.methodLink RX6 119 yX6_drop, Cond.instanceMethod yX6_drop, Cond.selects RX6 yX6_drop yX6_drop, Cond.initialized RX6, Cond.code yX6_drop cX6_drop 1 none, Cond.methodLink RX6 115 yX6_tell, Cond.instanceMethod yX6_tell, Cond.selects RX6 yX6_tell yX6_tell, Cond.code yX6_tell cX6_tell 3 none, Cond.fieldLink RX6 57 "FragmentLogModel" "told" "I", Cond.fieldLink RX6 32 "FragmentLogModel" "toldWhich" "[I", Cond.fieldLink RX6 35 "FragmentLogModel" "toldMany" "[I", Cond.fieldLink RX6 60 "FragmentLogModel" "toldBytes" "I", Cond.methodLink RX6 128 yX6_start, Cond.instanceMethod yX6_start, Cond.selects RX6 yX6_start yX6_start, Cond.code yX6_start cX6_start 1 none, Cond.fieldLink RX6 109 "FragmentLogModel" "from" "I", Cond.fieldLink RX6 122 "FragmentLogModel" "hasFrom" "I", Cond.methodLink RX6 125 yX6_take]
def wsX6_passOn_r2 : List Cond := [Cond.instanceMethod yX6_take, Cond.selects RX6 yX6_take yX6_take, Cond.code yX6_take cX6_take 2 none, Cond.fieldLink RX6 20 "FragmentLogModel" "has" "[I", Cond.fieldLink RX6 13 "FragmentLogModel" "bytes" "[I", Cond.methodLink RX6 131 yX6_finish, Cond.instanceMethod yX6_finish, Cond.selects RX6 yX6_finish yX6_finish, Cond.code yX6_finish cX6_finish 2 none, Cond.fieldLink RX6 23 "FragmentLogModel" "recordSize" "I", Cond.fieldLink RX6 26 "FragmentLogModel" "recordFrom" "I", Cond.fieldLink RX6 29 "FragmentLogModel" "record" "[I"]
def wsX6_passOn : List Cond := .code yX6_passOn cX6_passOn 2 (some .boolean) :: ((wsX6_passOn_r1 ++ wsX6_passOn_r2) ++ wsX60)
def wsX6_read_r1 : List Cond := [Cond.fieldLink RX6 38 "FragmentLogModel" "fault" "I", Cond.fieldLink RX6 23 "FragmentLogModel" "recordSize" "I", Cond.fieldLink RX6 26 "FragmentLogModel" "recordFrom" "I", Cond.methodLink RX6 134 yX6_fragment, Cond.instanceMethod yX6_fragment, Cond.selects RX6 yX6_fragment yX6_fragment, Cond.initialized RX6, Cond.code yX6_fragment cX6_fragment 7 (some .int), Cond.fieldLink RX6 44 "FragmentLogModel" "place" "I", Cond.fieldLink RX6 7 "FragmentLogModel" "size" "I", Cond.fieldLink RX6 71 "FragmentLogModel" "all" "I", Cond.fieldLink RX6 109 "FragmentLogModel" "from" "I", Cond.fieldLink RX6 13 "FragmentLogModel" "bytes" "[I", Cond.fieldLink RX6 112 "FragmentLogModel" "length" "I", Cond.fieldLink RX6 41 "FragmentLogModel" "begun" "I", Cond.methodLink RX6 115 yX6_tell, Cond.instanceMethod yX6_tell, Cond.selects RX6 yX6_tell yX6_tell, Cond.code yX6_tell cX6_tell 3 none, Cond.fieldLink RX6 57 "FragmentLogModel" "told" "I", Cond.fieldLink RX6 32 "FragmentLogModel" "toldWhich" "[I", Cond.fieldLink RX6 35 "FragmentLogModel" "toldMany" "[I", Cond.fieldLink RX6 60 "FragmentLogModel" "toldBytes" "I", Cond.methodLink RX6 83 yX6_more]
def wsX6_read_r2 : List Cond := [Cond.static yX6_more, Cond.code yX6_more cX6_more 4 (some .int), Cond.constant RX6 81 (-2097792136), Cond.methodLink RX6 87 yX6_masked, Cond.static yX6_masked, Cond.code yX6_masked cX6_masked 2 (some .int), Cond.constant RX6 82 (-1568478504), Cond.methodLink RX6 137 yX6_passOn, Cond.instanceMethod yX6_passOn, Cond.selects RX6 yX6_passOn yX6_passOn, Cond.code yX6_passOn cX6_passOn 2 (some .boolean), Cond.fieldLink RX6 51 "FragmentLogModel" "hasFirst" "Z", Cond.fieldLink RX6 54 "FragmentLogModel" "hasSize" "I", Cond.fieldLink RX6 47 "FragmentLogModel" "isLost" "Z", Cond.methodLink RX6 119 yX6_drop, Cond.instanceMethod yX6_drop, Cond.selects RX6 yX6_drop yX6_drop, Cond.code yX6_drop cX6_drop 1 none, Cond.methodLink RX6 128 yX6_start, Cond.instanceMethod yX6_start, Cond.selects RX6 yX6_start yX6_start, Cond.code yX6_start cX6_start 1 none, Cond.fieldLink RX6 122 "FragmentLogModel" "hasFrom" "I", Cond.methodLink RX6 125 yX6_take]
def wsX6_read_r3 : List Cond := [Cond.instanceMethod yX6_take, Cond.selects RX6 yX6_take yX6_take, Cond.code yX6_take cX6_take 2 none, Cond.fieldLink RX6 20 "FragmentLogModel" "has" "[I", Cond.methodLink RX6 131 yX6_finish, Cond.instanceMethod yX6_finish, Cond.selects RX6 yX6_finish yX6_finish, Cond.code yX6_finish cX6_finish 2 none, Cond.fieldLink RX6 29 "FragmentLogModel" "record" "[I"]
def wsX6_read : List Cond := .code yX6_read cX6_read 2 (some .int) :: ((wsX6_read_r1 ++ (wsX6_read_r2 ++ wsX6_read_r3)) ++ wsX60)
def wsX6_octet : List Cond := .code yX6_octet cX6_octet 2 (some .int) :: ([.fieldLink RX6 38 "FragmentLogModel" "fault" "I", .fieldLink RX6 23 "FragmentLogModel" "recordSize" "I", .fieldLink RX6 29 "FragmentLogModel" "record" "[I", .methodLink RX6 63 yX6_isIn, .static yX6_isIn, .initialized RX6, .code yX6_isIn cX6_isIn 3 (some .boolean)] ++ wsX60)
def wsX6_first : List Cond := .code yX6_first cX6_first 1 (some .int) :: ([.fieldLink RX6 38 "FragmentLogModel" "fault" "I", .fieldLink RX6 26 "FragmentLogModel" "recordFrom" "I"] ++ wsX60)
def wsX6_count : List Cond := .code yX6_count cX6_count 2 (some .int) :: ([.fieldLink RX6 71 "FragmentLogModel" "all" "I", .fieldLink RX6 44 "FragmentLogModel" "place" "I", .fieldLink RX6 47 "FragmentLogModel" "isLost" "Z", .fieldLink RX6 57 "FragmentLogModel" "told" "I", .fieldLink RX6 60 "FragmentLogModel" "toldBytes" "I", .fieldLink RX6 78 "FragmentLogModel" "bufferSize" "I", .methodLink RX6 63 yX6_isIn, .static yX6_isIn, .initialized RX6, .code yX6_isIn cX6_isIn 3 (some .boolean), .methodLink RX6 67 yX6_refused, .instanceMethod yX6_refused, .selects RX6 yX6_refused yX6_refused, .code yX6_refused cX6_refused 2 (some .boolean), .fieldLink RX6 38 "FragmentLogModel" "fault" "I"] ++ wsX60)
def wsX6_told : List Cond := .code yX6_told cX6_told 3 (some .int) :: ([.fieldLink RX6 57 "FragmentLogModel" "told" "I", .fieldLink RX6 32 "FragmentLogModel" "toldWhich" "[I", .fieldLink RX6 35 "FragmentLogModel" "toldMany" "[I", .methodLink RX6 63 yX6_isIn, .static yX6_isIn, .initialized RX6, .code yX6_isIn cX6_isIn 3 (some .boolean), .methodLink RX6 67 yX6_refused, .instanceMethod yX6_refused, .selects RX6 yX6_refused yX6_refused, .code yX6_refused cX6_refused 2 (some .boolean), .fieldLink RX6 38 "FragmentLogModel" "fault" "I"] ++ wsX60)
def wsX6_log : List Cond := .code yX6_log cX6_log 2 (some .int) :: ([.fieldLink RX6 38 "FragmentLogModel" "fault" "I", .fieldLink RX6 71 "FragmentLogModel" "all" "I", .fieldLink RX6 13 "FragmentLogModel" "bytes" "[I", .methodLink RX6 63 yX6_isIn, .static yX6_isIn, .initialized RX6, .code yX6_isIn cX6_isIn 3 (some .boolean)] ++ wsX60)
def wsJ9_min_7cf53 : List Cond := .code yJ9_min_7cf53 cJ9_min_7cf53 2 (some .int) :: ([])
def wsL_clear_r1 : List Cond := [Cond.classLink RL 13 "java/lang/IllegalArgumentException", Cond.methodLink RL 7 yX5_clear, Cond.instanceMethod yX5_clear, Cond.selects RX5 yX5_clear yX5_clear, Cond.initialized RX5, Cond.code yX5_clear cX5_clear 2 none, Cond.classLink RX5 34 "java/lang/IllegalArgumentException", Cond.initialized "java/lang/IllegalArgumentException", Cond.fieldLink RX5 21 "FragmentLog" "blocks" "LFragmentLog$Blocks;", Cond.fieldLink RX5 30 "FragmentLog" "reader" "LFragmentLog$Reader;", Cond.methodLink RX5 41 yX0_startAnew, Cond.instanceMethod yX0_startAnew, Cond.selects RX0 yX0_startAnew yX0_startAnew, Cond.initialized RX0, Cond.code yX0_startAnew cX0_startAnew 2 none, Cond.fieldLink RX0 14 "FragmentLog$Blocks" "bytes" "LFragmentLog$Row;", Cond.fieldLink RX0 20 "FragmentLog$Blocks" "size" "I", Cond.methodLink RX0 24 yX3_shorten, Cond.instanceMethod yX3_shorten, Cond.selects RX3 yX3_shorten yX3_shorten, Cond.initialized RX3, Cond.code yX3_shorten cX3_shorten 2 none, Cond.fieldLink RX3 15 "FragmentLog$Row" "many" "I", Cond.methodLink RX5 44 yX2_beginAt]
def wsL_clear_r2 : List Cond := [Cond.instanceMethod yX2_beginAt, Cond.selects RX2 yX2_beginAt yX2_beginAt, Cond.initialized RX2, Cond.code yX2_beginAt cX2_beginAt 3 none, Cond.fieldLink RX2 50 "FragmentLog$Reader" "blocks" "LFragmentLog$Blocks;", Cond.fieldLink RX2 35 "FragmentLog$Reader" "place" "I", Cond.fieldLink RX2 38 "FragmentLog$Reader" "begun" "I", Cond.fieldLink RX2 41 "FragmentLog$Reader" "lost" "Z", Cond.fieldLink RX2 12 "FragmentLog$Reader" "drops" "LFragmentLog$Drops;", Cond.methodLink RX2 54 yX0_endOfBlock, Cond.instanceMethod yX0_endOfBlock, Cond.selects RX0 yX0_endOfBlock yX0_endOfBlock, Cond.code yX0_endOfBlock cX0_endOfBlock 2 (some .int), Cond.methodLink RX0 27 yX0_startOfBlock, Cond.instanceMethod yX0_startOfBlock, Cond.selects RX0 yX0_startOfBlock yX0_startOfBlock, Cond.code yX0_startOfBlock cX0_startOfBlock 2 (some .int), Cond.methodLink RX2 60 yX0_startOfBlock, Cond.methodLink RX2 63 yX1_forget, Cond.instanceMethod yX1_forget, Cond.selects RX1 yX1_forget yX1_forget, Cond.initialized RX1, Cond.code yX1_forget cX1_forget 1 none, Cond.fieldLink RX1 18 "FragmentLog$Drops" "many" "I"]
def wsL_clear_r3 : List Cond := [Cond.fieldLink RX1 22 "FragmentLog$Drops" "allBytes" "I"]
def wsL_clear : List Cond := .codeWith yL_clear cL_clear 3 (some .int) [(0, 5, 8, 13)] :: ((wsL_clear_r1 ++ (wsL_clear_r2 ++ wsL_clear_r3)) ++ wsX50 ++ wsX00 ++ wsX30 ++ wsX20 ++ wsX10 ++ (vx_atS RX5 38 "java/lang/IllegalArgumentException" ["java/lang/RuntimeException", "java/lang/Exception"]).filter goodWord)
def wsL_feed_r1 : List Cond := [Cond.classLink RL 13 "java/lang/IllegalArgumentException", Cond.classLink RL 19 "java/lang/IllegalStateException", Cond.methodLink RL 15 yX5_feed, Cond.instanceMethod yX5_feed, Cond.selects RX5 yX5_feed yX5_feed, Cond.initialized RX5, Cond.code yX5_feed cX5_feed 6 (some .int), Cond.classLink RX5 34 "java/lang/IllegalArgumentException", Cond.initialized "java/lang/IllegalArgumentException", Cond.classLink RX5 53 "java/lang/IllegalStateException", Cond.initialized "java/lang/IllegalStateException", Cond.fieldLink RX5 14 "FragmentLog" "buffer" "LFragmentLog$Row;", Cond.methodLink RX5 58 Lib.Math.min.name, Cond.static Lib.Math.min.name, Cond.initialized "java/lang/Math", Cond.code Lib.Math.min.name Lib.Math.min.code 2 (some .int), Cond.methodLink RX5 49 yX3_hasRoomFor, Cond.instanceMethod yX3_hasRoomFor, Cond.selects RX3 yX3_hasRoomFor yX3_hasRoomFor, Cond.initialized RX3, Cond.code yX3_hasRoomFor cX3_hasRoomFor 2 (some .boolean), Cond.fieldLink RX3 9 "FragmentLog$Row" "held" "[B", Cond.fieldLink RX3 15 "FragmentLog$Row" "many" "I", Cond.methodLink RX5 64 yX5_feedFrom]
def wsL_feed_r2 : List Cond := [Cond.instanceMethod yX5_feedFrom, Cond.selects RX5 yX5_feedFrom yX5_feedFrom, Cond.code yX5_feedFrom cX5_feedFrom 4 none, Cond.methodLink RX5 72 yX3_add, Cond.instanceMethod yX3_add, Cond.selects RX3 yX3_add yX3_add, Cond.code yX3_add cX3_add 2 none, Cond.methodLink RX5 68 yX3_many, Cond.instanceMethod yX3_many, Cond.selects RX3 yX3_many yX3_many, Cond.code yX3_many cX3_many 1 (some .int)]
def wsL_feed : List Cond := .codeWith yL_feed cL_feed 8 (some .int) [(0, 16, 19, 13), (0, 16, 23, 19)] :: ((wsL_feed_r1 ++ wsL_feed_r2) ++ wsX50 ++ wsX30 ++ (vx_atS RX5 38 "java/lang/IllegalArgumentException" ["java/lang/RuntimeException", "java/lang/Exception"]).filter goodWord ++ (vx_atS RX5 57 "java/lang/IllegalStateException" ["java/lang/RuntimeException", "java/lang/Exception"]).filter goodWord)
def wsL_check_r1 : List Cond := [Cond.classLink RL 13 "java/lang/IllegalArgumentException", Cond.methodLink RL 21 yX5_check, Cond.instanceMethod yX5_check, Cond.selects RX5 yX5_check yX5_check, Cond.initialized RX5, Cond.code yX5_check cX5_check 2 (some .int), Cond.classLink RX5 34 "java/lang/IllegalArgumentException", Cond.initialized "java/lang/IllegalArgumentException", Cond.fieldLink RX5 14 "FragmentLog" "buffer" "LFragmentLog$Row;", Cond.methodLink RX5 78 yX5_isByte, Cond.static yX5_isByte, Cond.code yX5_isByte cX5_isByte 1 (some .boolean), Cond.methodLink RX5 68 yX3_many, Cond.instanceMethod yX3_many, Cond.selects RX3 yX3_many yX3_many, Cond.initialized RX3, Cond.code yX3_many cX3_many 1 (some .int), Cond.fieldLink RX3 15 "FragmentLog$Row" "many" "I", Cond.methodLink RX5 83 yX4_of, Cond.static yX4_of, Cond.initialized RX4, Cond.code yX4_of cX4_of 6 (some .int), Cond.constant RX4 19 (-1568478504), Cond.methodLink RX4 7 yX4_withByte]
def wsL_check_r2 : List Cond := [Cond.static yX4_withByte, Cond.code yX4_withByte cX4_withByte 3 (some .int), Cond.fieldLink RX4 20 "FragmentLog$Sum" "REMAINDERS" "[I", Cond.methodLink RX4 13 yX3_at, Cond.instanceMethod yX3_at, Cond.selects RX3 yX3_at yX3_at, Cond.code yX3_at cX3_at 2 (some .int), Cond.fieldLink RX3 9 "FragmentLog$Row" "held" "[B"]
def wsL_check : List Cond := .codeWith yL_check cL_check 4 (some .int) [(0, 9, 12, 13)] :: ((wsL_check_r1 ++ wsL_check_r2) ++ wsX50 ++ wsX30 ++ (vx_atS RX5 38 "java/lang/IllegalArgumentException" ["java/lang/RuntimeException", "java/lang/Exception"]).filter goodWord)
def wsL_raw_r1 : List Cond := [Cond.classLink RL 13 "java/lang/IllegalArgumentException", Cond.methodLink RL 25 yX5_raw, Cond.instanceMethod yX5_raw, Cond.selects RX5 yX5_raw yX5_raw, Cond.initialized RX5, Cond.code yX5_raw cX5_raw 2 (some .int), Cond.classLink RX5 34 "java/lang/IllegalArgumentException", Cond.initialized "java/lang/IllegalArgumentException", Cond.fieldLink RX5 21 "FragmentLog" "blocks" "LFragmentLog$Blocks;", Cond.fieldLink RX5 14 "FragmentLog" "buffer" "LFragmentLog$Row;", Cond.methodLink RX5 78 yX5_isByte, Cond.static yX5_isByte, Cond.code yX5_isByte cX5_isByte 1 (some .boolean), Cond.methodLink RX5 68 yX3_many, Cond.instanceMethod yX3_many, Cond.selects RX3 yX3_many yX3_many, Cond.initialized RX3, Cond.code yX3_many cX3_many 1 (some .int), Cond.fieldLink RX3 15 "FragmentLog$Row" "many" "I", Cond.methodLink RX5 97 yX0_addFragment, Cond.instanceMethod yX0_addFragment, Cond.selects RX0 yX0_addFragment yX0_addFragment, Cond.initialized RX0, Cond.code yX0_addFragment cX0_addFragment 5 (some .boolean)]
def wsL_raw_r2 : List Cond := [Cond.fieldLink RX0 14 "FragmentLog$Blocks" "bytes" "LFragmentLog$Row;", Cond.methodLink RX0 63 yX3_hasRoomFor, Cond.instanceMethod yX3_hasRoomFor, Cond.selects RX3 yX3_hasRoomFor yX3_hasRoomFor, Cond.code yX3_hasRoomFor cX3_hasRoomFor 2 (some .boolean), Cond.fieldLink RX3 9 "FragmentLog$Row" "held" "[B", Cond.methodLink RX0 71 yX4_of, Cond.static yX4_of, Cond.initialized RX4, Cond.code yX4_of cX4_of 6 (some .int), Cond.constant RX4 19 (-1568478504), Cond.methodLink RX4 7 yX4_withByte, Cond.static yX4_withByte, Cond.code yX4_withByte cX4_withByte 3 (some .int), Cond.fieldLink RX4 20 "FragmentLog$Sum" "REMAINDERS" "[I", Cond.methodLink RX4 13 yX3_at, Cond.instanceMethod yX3_at, Cond.selects RX3 yX3_at yX3_at, Cond.code yX3_at cX3_at 2 (some .int), Cond.methodLink RX0 67 yX3_addLowestFirst, Cond.instanceMethod yX3_addLowestFirst, Cond.selects RX3 yX3_addLowestFirst yX3_addLowestFirst, Cond.code yX3_addLowestFirst cX3_addLowestFirst 4 none, Cond.methodLink RX3 19 yX3_add]
def wsL_raw_r3 : List Cond := [Cond.instanceMethod yX3_add, Cond.selects RX3 yX3_add yX3_add, Cond.code yX3_add cX3_add 2 none, Cond.methodLink RX0 77 yX3_add, Cond.methodLink RX0 80 yX3_addPart, Cond.instanceMethod yX3_addPart, Cond.selects RX3 yX3_addPart yX3_addPart, Cond.code yX3_addPart cX3_addPart 5 none, Cond.methodLink RX3 23 yX3_at, Cond.methodLink RX5 93 yX0_bytes, Cond.instanceMethod yX0_bytes, Cond.selects RX0 yX0_bytes yX0_bytes, Cond.code yX0_bytes cX0_bytes 1 (some (.object "FragmentLog$Row"))]
def wsL_raw : List Cond := .codeWith yL_raw cL_raw 4 (some .int) [(0, 9, 12, 13)] :: ((wsL_raw_r1 ++ (wsL_raw_r2 ++ wsL_raw_r3)) ++ wsX50 ++ wsX30 ++ wsX00 ++ (vx_atS RX5 38 "java/lang/IllegalArgumentException" ["java/lang/RuntimeException", "java/lang/Exception"]).filter goodWord)
def wsL_put_r1 : List Cond := [Cond.classLink RL 32 "java/lang/IndexOutOfBoundsException", Cond.classLink RL 13 "java/lang/IllegalArgumentException", Cond.methodLink RL 28 yX5_put, Cond.instanceMethod yX5_put, Cond.selects RX5 yX5_put yX5_put, Cond.initialized RX5, Cond.code yX5_put cX5_put 4 (some .int), Cond.classLink RX5 104 "java/lang/IndexOutOfBoundsException", Cond.initialized "java/lang/IndexOutOfBoundsException", Cond.classLink RX5 34 "java/lang/IllegalArgumentException", Cond.initialized "java/lang/IllegalArgumentException", Cond.fieldLink RX5 21 "FragmentLog" "blocks" "LFragmentLog$Blocks;", Cond.methodLink RX5 93 yX0_bytes, Cond.instanceMethod yX0_bytes, Cond.selects RX0 yX0_bytes yX0_bytes, Cond.initialized RX0, Cond.code yX0_bytes cX0_bytes 1 (some (.object "FragmentLog$Row")), Cond.fieldLink RX0 14 "FragmentLog$Blocks" "bytes" "LFragmentLog$Row;", Cond.methodLink RX5 101 yX3_has, Cond.instanceMethod yX3_has, Cond.selects RX3 yX3_has yX3_has, Cond.initialized RX3, Cond.code yX3_has cX3_has 2 (some .boolean), Cond.fieldLink RX3 15 "FragmentLog$Row" "many" "I"]
def wsL_put_r2 : List Cond := [Cond.methodLink RX5 78 yX5_isByte, Cond.static yX5_isByte, Cond.code yX5_isByte cX5_isByte 1 (some .boolean), Cond.methodLink RX5 111 yX3_at, Cond.instanceMethod yX3_at, Cond.selects RX3 yX3_at yX3_at, Cond.code yX3_at cX3_at 2 (some .int), Cond.fieldLink RX3 9 "FragmentLog$Row" "held" "[B", Cond.methodLink RX5 115 yX3_replace, Cond.instanceMethod yX3_replace, Cond.selects RX3 yX3_replace yX3_replace, Cond.code yX3_replace cX3_replace 3 none, Cond.methodLink RX3 27 yX3_has]
def wsL_put : List Cond := .codeWith yL_put cL_put 5 (some .int) [(0, 10, 13, 32), (0, 10, 17, 13)] :: ((wsL_put_r1 ++ wsL_put_r2) ++ wsX50 ++ wsX00 ++ wsX30 ++ (vx_atS RX5 108 "java/lang/IndexOutOfBoundsException" ["java/lang/RuntimeException", "java/lang/Exception"]).filter goodWord ++ (vx_atS RX5 38 "java/lang/IllegalArgumentException" ["java/lang/RuntimeException", "java/lang/Exception"]).filter goodWord)
def wsL_cut_r1 : List Cond := [Cond.classLink RL 13 "java/lang/IllegalArgumentException", Cond.methodLink RL 34 yX5_cut, Cond.instanceMethod yX5_cut, Cond.selects RX5 yX5_cut yX5_cut, Cond.initialized RX5, Cond.code yX5_cut cX5_cut 3 (some .int), Cond.classLink RX5 34 "java/lang/IllegalArgumentException", Cond.initialized "java/lang/IllegalArgumentException", Cond.fieldLink RX5 21 "FragmentLog" "blocks" "LFragmentLog$Blocks;", Cond.fieldLink RX5 30 "FragmentLog" "reader" "LFragmentLog$Reader;", Cond.methodLink RX5 93 yX0_bytes, Cond.instanceMethod yX0_bytes, Cond.selects RX0 yX0_bytes yX0_bytes, Cond.initialized RX0, Cond.code yX0_bytes cX0_bytes 1 (some (.object "FragmentLog$Row")), Cond.fieldLink RX0 14 "FragmentLog$Blocks" "bytes" "LFragmentLog$Row;", Cond.methodLink RX5 68 yX3_many, Cond.instanceMethod yX3_many, Cond.selects RX3 yX3_many yX3_many, Cond.initialized RX3, Cond.code yX3_many cX3_many 1 (some .int), Cond.fieldLink RX3 15 "FragmentLog$Row" "many" "I", Cond.methodLink RX5 75 yX3_shorten, Cond.instanceMethod yX3_shorten]
def wsL_cut_r2 : List Cond := [Cond.selects RX3 yX3_shorten yX3_shorten, Cond.code yX3_shorten cX3_shorten 2 none, Cond.methodLink RX5 44 yX2_beginAt, Cond.instanceMethod yX2_beginAt, Cond.selects RX2 yX2_beginAt yX2_beginAt, Cond.initialized RX2, Cond.code yX2_beginAt cX2_beginAt 3 none, Cond.fieldLink RX2 50 "FragmentLog$Reader" "blocks" "LFragmentLog$Blocks;", Cond.fieldLink RX2 35 "FragmentLog$Reader" "place" "I", Cond.fieldLink RX2 38 "FragmentLog$Reader" "begun" "I", Cond.fieldLink RX2 41 "FragmentLog$Reader" "lost" "Z", Cond.fieldLink RX2 12 "FragmentLog$Reader" "drops" "LFragmentLog$Drops;", Cond.methodLink RX2 54 yX0_endOfBlock, Cond.instanceMethod yX0_endOfBlock, Cond.selects RX0 yX0_endOfBlock yX0_endOfBlock, Cond.code yX0_endOfBlock cX0_endOfBlock 2 (some .int), Cond.fieldLink RX0 20 "FragmentLog$Blocks" "size" "I", Cond.methodLink RX0 27 yX0_startOfBlock, Cond.instanceMethod yX0_startOfBlock, Cond.selects RX0 yX0_startOfBlock yX0_startOfBlock, Cond.code yX0_startOfBlock cX0_startOfBlock 2 (some .int), Cond.methodLink RX2 60 yX0_startOfBlock, Cond.methodLink RX2 63 yX1_forget, Cond.instanceMethod yX1_forget]
def wsL_cut_r3 : List Cond := [Cond.selects RX1 yX1_forget yX1_forget, Cond.initialized RX1, Cond.code yX1_forget cX1_forget 1 none, Cond.fieldLink RX1 18 "FragmentLog$Drops" "many" "I", Cond.fieldLink RX1 22 "FragmentLog$Drops" "allBytes" "I"]
def wsL_cut : List Cond := .codeWith yL_cut cL_cut 4 (some .int) [(0, 9, 12, 13)] :: ((wsL_cut_r1 ++ (wsL_cut_r2 ++ wsL_cut_r3)) ++ wsX50 ++ wsX00 ++ wsX30 ++ wsX20 ++ wsX10 ++ (vx_atS RX5 38 "java/lang/IllegalArgumentException" ["java/lang/RuntimeException", "java/lang/Exception"]).filter goodWord)
def wsL_begin_r1 : List Cond := [Cond.classLink RL 13 "java/lang/IllegalArgumentException", Cond.methodLink RL 37 yX5_begin, Cond.instanceMethod yX5_begin, Cond.selects RX5 yX5_begin yX5_begin, Cond.initialized RX5, Cond.code yX5_begin cX5_begin 2 (some .int), Cond.classLink RX5 34 "java/lang/IllegalArgumentException", Cond.initialized "java/lang/IllegalArgumentException", Cond.fieldLink RX5 30 "FragmentLog" "reader" "LFragmentLog$Reader;", Cond.methodLink RX5 44 yX2_beginAt, Cond.instanceMethod yX2_beginAt, Cond.selects RX2 yX2_beginAt yX2_beginAt, Cond.initialized RX2, Cond.code yX2_beginAt cX2_beginAt 3 none, Cond.fieldLink RX2 50 "FragmentLog$Reader" "blocks" "LFragmentLog$Blocks;", Cond.fieldLink RX2 35 "FragmentLog$Reader" "place" "I", Cond.fieldLink RX2 38 "FragmentLog$Reader" "begun" "I", Cond.fieldLink RX2 41 "FragmentLog$Reader" "lost" "Z", Cond.fieldLink RX2 12 "FragmentLog$Reader" "drops" "LFragmentLog$Drops;", Cond.methodLink RX2 54 yX0_endOfBlock, Cond.instanceMethod yX0_endOfBlock, Cond.selects RX0 yX0_endOfBlock yX0_endOfBlock, Cond.initialized RX0, Cond.code yX0_endOfBlock cX0_endOfBlock 2 (some .int)]
def wsL_begin_r2 : List Cond := [Cond.fieldLink RX0 20 "FragmentLog$Blocks" "size" "I", Cond.methodLink RX0 27 yX0_startOfBlock, Cond.instanceMethod yX0_startOfBlock, Cond.selects RX0 yX0_startOfBlock yX0_startOfBlock, Cond.code yX0_startOfBlock cX0_startOfBlock 2 (some .int), Cond.methodLink RX2 60 yX0_startOfBlock, Cond.methodLink RX2 63 yX1_forget, Cond.instanceMethod yX1_forget, Cond.selects RX1 yX1_forget yX1_forget, Cond.initialized RX1, Cond.code yX1_forget cX1_forget 1 none, Cond.fieldLink RX1 18 "FragmentLog$Drops" "many" "I", Cond.fieldLink RX1 22 "FragmentLog$Drops" "allBytes" "I", Cond.methodLink RX5 122 yX2_place, Cond.instanceMethod yX2_place, Cond.selects RX2 yX2_place yX2_place, Cond.code yX2_place cX2_place 1 (some .int)]
def wsL_begin : List Cond := .codeWith yL_begin cL_begin 4 (some .int) [(0, 9, 12, 13)] :: ((wsL_begin_r1 ++ wsL_begin_r2) ++ wsX50 ++ wsX20 ++ wsX00 ++ wsX10 ++ (vx_atS RX5 38 "java/lang/IllegalArgumentException" ["java/lang/RuntimeException", "java/lang/Exception"]).filter goodWord)
def wsL_count_r1 : List Cond := [Cond.classLink RL 13 "java/lang/IllegalArgumentException", Cond.methodLink RL 40 yX5_count, Cond.instanceMethod yX5_count, Cond.selects RX5 yX5_count yX5_count, Cond.initialized RX5, Cond.code yX5_count cX5_count 2 (some .int), Cond.classLink RX5 34 "java/lang/IllegalArgumentException", Cond.initialized "java/lang/IllegalArgumentException", Cond.fieldLink RX5 21 "FragmentLog" "blocks" "LFragmentLog$Blocks;", Cond.fieldLink RX5 30 "FragmentLog" "reader" "LFragmentLog$Reader;", Cond.fieldLink RX5 14 "FragmentLog" "buffer" "LFragmentLog$Row;", Cond.methodLink RX5 93 yX0_bytes, Cond.instanceMethod yX0_bytes, Cond.selects RX0 yX0_bytes yX0_bytes, Cond.initialized RX0, Cond.code yX0_bytes cX0_bytes 1 (some (.object "FragmentLog$Row")), Cond.fieldLink RX0 14 "FragmentLog$Blocks" "bytes" "LFragmentLog$Row;", Cond.methodLink RX5 68 yX3_many, Cond.instanceMethod yX3_many, Cond.selects RX3 yX3_many yX3_many, Cond.initialized RX3, Cond.code yX3_many cX3_many 1 (some .int), Cond.fieldLink RX3 15 "FragmentLog$Row" "many" "I", Cond.methodLink RX5 122 yX2_place]
def wsL_count_r2 : List Cond := [Cond.instanceMethod yX2_place, Cond.selects RX2 yX2_place yX2_place, Cond.initialized RX2, Cond.code yX2_place cX2_place 1 (some .int), Cond.fieldLink RX2 35 "FragmentLog$Reader" "place" "I", Cond.methodLink RX5 135 yX2_isLost, Cond.instanceMethod yX2_isLost, Cond.selects RX2 yX2_isLost yX2_isLost, Cond.code yX2_isLost cX2_isLost 1 (some .boolean), Cond.fieldLink RX2 41 "FragmentLog$Reader" "lost" "Z", Cond.methodLink RX5 138 yX2_drops, Cond.instanceMethod yX2_drops, Cond.selects RX2 yX2_drops yX2_drops, Cond.code yX2_drops cX2_drops 1 (some (.object "FragmentLog$Drops")), Cond.fieldLink RX2 12 "FragmentLog$Reader" "drops" "LFragmentLog$Drops;", Cond.methodLink RX5 142 yX1_many, Cond.instanceMethod yX1_many, Cond.selects RX1 yX1_many yX1_many, Cond.initialized RX1, Cond.code yX1_many cX1_many 1 (some .int), Cond.fieldLink RX1 18 "FragmentLog$Drops" "many" "I", Cond.methodLink RX5 145 yX1_allBytes, Cond.instanceMethod yX1_allBytes, Cond.selects RX1 yX1_allBytes yX1_allBytes]
def wsL_count_r3 : List Cond := [Cond.code yX1_allBytes cX1_allBytes 1 (some .int), Cond.fieldLink RX1 22 "FragmentLog$Drops" "allBytes" "I"]
def wsL_count : List Cond := .codeWith yL_count cL_count 4 (some .int) [(0, 9, 12, 13)] :: ((wsL_count_r1 ++ (wsL_count_r2 ++ wsL_count_r3)) ++ wsX50 ++ wsX00 ++ wsX30 ++ wsX20 ++ wsX10 ++ (vx_atS RX5 38 "java/lang/IllegalArgumentException" ["java/lang/RuntimeException", "java/lang/Exception"]).filter goodWord)
def wsL_told_r1 : List Cond := [Cond.classLink RL 13 "java/lang/IllegalArgumentException", Cond.methodLink RL 43 yX5_told, Cond.instanceMethod yX5_told, Cond.selects RX5 yX5_told yX5_told, Cond.initialized RX5, Cond.code yX5_told cX5_told 3 (some .int), Cond.classLink RX5 34 "java/lang/IllegalArgumentException", Cond.initialized "java/lang/IllegalArgumentException", Cond.fieldLink RX5 30 "FragmentLog" "reader" "LFragmentLog$Reader;", Cond.methodLink RX5 138 yX2_drops, Cond.instanceMethod yX2_drops, Cond.selects RX2 yX2_drops yX2_drops, Cond.initialized RX2, Cond.code yX2_drops cX2_drops 1 (some (.object "FragmentLog$Drops")), Cond.fieldLink RX2 12 "FragmentLog$Reader" "drops" "LFragmentLog$Drops;", Cond.methodLink RX5 152 yX1_whichAt, Cond.instanceMethod yX1_whichAt, Cond.selects RX1 yX1_whichAt yX1_whichAt, Cond.initialized RX1, Cond.code yX1_whichAt cX1_whichAt 2 (some .int), Cond.fieldLink RX1 9 "FragmentLog$Drops" "which" "[I", Cond.methodLink RX1 25 yX1_isKept, Cond.instanceMethod yX1_isKept, Cond.selects RX1 yX1_isKept yX1_isKept]
def wsL_told_r2 : List Cond := [Cond.code yX1_isKept cX1_isKept 2 (some .boolean), Cond.fieldLink RX1 18 "FragmentLog$Drops" "many" "I", Cond.methodLink RX5 155 yX1_bytesAt, Cond.instanceMethod yX1_bytesAt, Cond.selects RX1 yX1_bytesAt yX1_bytesAt, Cond.code yX1_bytesAt cX1_bytesAt 2 (some .int), Cond.fieldLink RX1 15 "FragmentLog$Drops" "bytes" "[I"]
def wsL_told : List Cond := .codeWith yL_told cL_told 5 (some .int) [(0, 10, 13, 13)] :: ((wsL_told_r1 ++ wsL_told_r2) ++ wsX50 ++ wsX20 ++ wsX10 ++ (vx_atS RX5 38 "java/lang/IllegalArgumentException" ["java/lang/RuntimeException", "java/lang/Exception"]).filter goodWord)
def wsL_law0_r1 : List Cond := [Cond.classLink RL 8 RX5, Cond.instantiable RX5 3, Cond.initialized RX5, Cond.classLink RL 47 RX6, Cond.instantiable RX6 23, Cond.initialized RX6, Cond.arrayClass .long, Cond.methodLink RL 46 yX5_init, Cond.instanceMethod yX5_init, Cond.code yX5_init cX5_init 1 none, Cond.methodLink RX5 1 objectInit, Cond.instanceMethod objectInit, Cond.code objectInit ⟨#[0xb1]⟩ 1 none, Cond.classLink RX5 7 RX3, Cond.instantiable RX3 2, Cond.initialized RX3, Cond.fieldLink RX5 14 "FragmentLog" "buffer" "LFragmentLog$Row;", Cond.classLink RX5 18 RX0, Cond.instantiable RX0 2, Cond.initialized RX0, Cond.fieldLink RX5 21 "FragmentLog" "blocks" "LFragmentLog$Blocks;", Cond.classLink RX5 25 RX2, Cond.instantiable RX2 10, Cond.initialized RX2]
def wsL_law0_r2 : List Cond := [Cond.fieldLink RX5 30 "FragmentLog" "reader" "LFragmentLog$Reader;", Cond.methodLink RX5 11 yX3_init, Cond.instanceMethod yX3_init, Cond.code yX3_init cX3_init 2 none, Cond.methodLink RX3 3 objectInit, Cond.arrayClass .byte, Cond.fieldLink RX3 9 "FragmentLog$Row" "held" "[B", Cond.fieldLink RX3 15 "FragmentLog$Row" "many" "I", Cond.instanceMethod yX0_init, Cond.code yX0_init cX0_init 1 none, Cond.methodLink RX0 3 objectInit, Cond.classLink RX0 9 RX3, Cond.fieldLink RX0 14 "FragmentLog$Blocks" "bytes" "LFragmentLog$Row;", Cond.fieldLink RX0 20 "FragmentLog$Blocks" "size" "I", Cond.methodLink RX0 11 yX3_init, Cond.methodLink RX5 27 yX2_init, Cond.instanceMethod yX2_init, Cond.code yX2_init cX2_init 2 none, Cond.methodLink RX2 3 objectInit, Cond.classLink RX2 9 RX1, Cond.instantiable RX1 4, Cond.initialized RX1, Cond.fieldLink RX2 12 "FragmentLog$Reader" "drops" "LFragmentLog$Drops;", Cond.classLink RX2 18 RX3]
def wsL_law0_r3 : List Cond := [Cond.fieldLink RX2 23 "FragmentLog$Reader" "record" "LFragmentLog$Row;", Cond.fieldLink RX2 27 "FragmentLog$Reader" "recordPlace" "I", Cond.fieldLink RX2 31 "FragmentLog$Reader" "hasFirst" "Z", Cond.fieldLink RX2 35 "FragmentLog$Reader" "place" "I", Cond.fieldLink RX2 38 "FragmentLog$Reader" "begun" "I", Cond.fieldLink RX2 41 "FragmentLog$Reader" "lost" "Z", Cond.fieldLink RX2 44 "FragmentLog$Reader" "fragmentPlace" "I", Cond.fieldLink RX2 47 "FragmentLog$Reader" "fragmentBytes" "I", Cond.fieldLink RX2 50 "FragmentLog$Reader" "blocks" "LFragmentLog$Blocks;", Cond.instanceMethod yX1_init, Cond.code yX1_init cX1_init 1 none, Cond.methodLink RX1 3 objectInit, Cond.arrayClass .int, Cond.fieldLink RX1 9 "FragmentLog$Drops" "which" "[I", Cond.fieldLink RX1 15 "FragmentLog$Drops" "bytes" "[I", Cond.fieldLink RX1 18 "FragmentLog$Drops" "many" "I", Cond.fieldLink RX1 22 "FragmentLog$Drops" "allBytes" "I", Cond.methodLink RX2 20 yX3_init, Cond.methodLink RL 49 yX6_init, Cond.instanceMethod yX6_init, Cond.code yX6_init cX6_init 1 none, Cond.methodLink RX6 1 objectInit, Cond.fieldLink RX6 7 "FragmentLogModel" "size" "I", Cond.fieldLink RX6 13 "FragmentLogModel" "bytes" "[I"]
def wsL_law0_r4 : List Cond := [Cond.fieldLink RX6 17 "FragmentLogModel" "buffer" "[I", Cond.fieldLink RX6 20 "FragmentLogModel" "has" "[I", Cond.fieldLink RX6 23 "FragmentLogModel" "recordSize" "I", Cond.fieldLink RX6 26 "FragmentLogModel" "recordFrom" "I", Cond.fieldLink RX6 29 "FragmentLogModel" "record" "[I", Cond.fieldLink RX6 32 "FragmentLogModel" "toldWhich" "[I", Cond.fieldLink RX6 35 "FragmentLogModel" "toldMany" "[I", Cond.methodLink RL 50 yL_clear, Cond.static yL_clear, Cond.initialized RL, Cond.codeWith yL_clear cL_clear 3 (some .int) [(0, 5, 8, 13)], Cond.classLink RL 13 "java/lang/IllegalArgumentException", Cond.methodLink RL 7 yX5_clear, Cond.instanceMethod yX5_clear, Cond.selects RX5 yX5_clear yX5_clear, Cond.code yX5_clear cX5_clear 2 none, Cond.classLink RX5 34 "java/lang/IllegalArgumentException", Cond.initialized "java/lang/IllegalArgumentException", Cond.methodLink RX5 41 yX0_startAnew, Cond.instanceMethod yX0_startAnew, Cond.selects RX0 yX0_startAnew yX0_startAnew, Cond.code yX0_startAnew cX0_startAnew 2 none, Cond.methodLink RX0 24 yX3_shorten, Cond.instanceMethod yX3_shorten]
def wsL_law0_r5 : List Cond := [Cond.selects RX3 yX3_shorten yX3_shorten, Cond.code yX3_shorten cX3_shorten 2 none, Cond.methodLink RX5 44 yX2_beginAt, Cond.instanceMethod yX2_beginAt, Cond.selects RX2 yX2_beginAt yX2_beginAt, Cond.code yX2_beginAt cX2_beginAt 3 none, Cond.methodLink RX2 54 yX0_endOfBlock, Cond.instanceMethod yX0_endOfBlock, Cond.selects RX0 yX0_endOfBlock yX0_endOfBlock, Cond.code yX0_endOfBlock cX0_endOfBlock 2 (some .int), Cond.methodLink RX0 27 yX0_startOfBlock, Cond.instanceMethod yX0_startOfBlock, Cond.selects RX0 yX0_startOfBlock yX0_startOfBlock, Cond.code yX0_startOfBlock cX0_startOfBlock 2 (some .int), Cond.methodLink RX2 60 yX0_startOfBlock, Cond.methodLink RX2 63 yX1_forget, Cond.instanceMethod yX1_forget, Cond.selects RX1 yX1_forget yX1_forget, Cond.code yX1_forget cX1_forget 1 none, Cond.methodLink RL 55 yX6_clear, Cond.instanceMethod yX6_clear, Cond.selects RX6 yX6_clear yX6_clear, Cond.code yX6_clear cX6_clear 2 none, Cond.fieldLink RX6 71 "FragmentLogModel" "all" "I"]
def wsL_law0_r6 : List Cond := [Cond.methodLink RX6 63 yX6_isIn, Cond.static yX6_isIn, Cond.code yX6_isIn cX6_isIn 3 (some .boolean), Cond.methodLink RX6 67 yX6_refused, Cond.instanceMethod yX6_refused, Cond.selects RX6 yX6_refused yX6_refused, Cond.code yX6_refused cX6_refused 2 (some .boolean), Cond.fieldLink RX6 38 "FragmentLogModel" "fault" "I", Cond.methodLink RX6 74 yX6_beginAt, Cond.instanceMethod yX6_beginAt, Cond.selects RX6 yX6_beginAt yX6_beginAt, Cond.code yX6_beginAt cX6_beginAt 2 none, Cond.fieldLink RX6 41 "FragmentLogModel" "begun" "I", Cond.fieldLink RX6 44 "FragmentLogModel" "place" "I", Cond.fieldLink RX6 47 "FragmentLogModel" "isLost" "Z", Cond.fieldLink RX6 51 "FragmentLogModel" "hasFirst" "Z", Cond.fieldLink RX6 54 "FragmentLogModel" "hasSize" "I", Cond.fieldLink RX6 57 "FragmentLogModel" "told" "I", Cond.fieldLink RX6 60 "FragmentLogModel" "toldBytes" "I", Cond.methodLink RL 56 yX6_thrown, Cond.instanceMethod yX6_thrown, Cond.selects RX6 yX6_thrown yX6_thrown, Cond.code yX6_thrown cX6_thrown 1 (some .int), Cond.methodLink RL 60 yL_feed]
def wsL_law0_r7 : List Cond := [Cond.static yL_feed, Cond.codeWith yL_feed cL_feed 8 (some .int) [(0, 16, 19, 13), (0, 16, 23, 19)], Cond.classLink RL 19 "java/lang/IllegalStateException", Cond.methodLink RL 15 yX5_feed, Cond.instanceMethod yX5_feed, Cond.selects RX5 yX5_feed yX5_feed, Cond.code yX5_feed cX5_feed 6 (some .int), Cond.classLink RX5 53 "java/lang/IllegalStateException", Cond.initialized "java/lang/IllegalStateException", Cond.methodLink RX5 58 Lib.Math.min.name, Cond.static Lib.Math.min.name, Cond.initialized "java/lang/Math", Cond.code Lib.Math.min.name Lib.Math.min.code 2 (some .int), Cond.methodLink RX5 49 yX3_hasRoomFor, Cond.instanceMethod yX3_hasRoomFor, Cond.selects RX3 yX3_hasRoomFor yX3_hasRoomFor, Cond.code yX3_hasRoomFor cX3_hasRoomFor 2 (some .boolean), Cond.methodLink RX5 64 yX5_feedFrom, Cond.instanceMethod yX5_feedFrom, Cond.selects RX5 yX5_feedFrom yX5_feedFrom, Cond.code yX5_feedFrom cX5_feedFrom 4 none, Cond.methodLink RX5 72 yX3_add, Cond.instanceMethod yX3_add, Cond.selects RX3 yX3_add yX3_add]
def wsL_law0_r8 : List Cond := [Cond.code yX3_add cX3_add 2 none, Cond.methodLink RX5 68 yX3_many, Cond.instanceMethod yX3_many, Cond.selects RX3 yX3_many yX3_many, Cond.code yX3_many cX3_many 1 (some .int), Cond.methodLink RL 63 yX6_feed, Cond.instanceMethod yX6_feed, Cond.selects RX6 yX6_feed yX6_feed, Cond.code yX6_feed cX6_feed 8 (some .int), Cond.fieldLink RX6 78 "FragmentLogModel" "bufferSize" "I", Cond.methodLink RL 64 yX5_erase, Cond.instanceMethod yX5_erase, Cond.selects RX5 yX5_erase yX5_erase, Cond.code yX5_erase cX5_erase 2 (some .int), Cond.methodLink RX5 75 yX3_shorten, Cond.methodLink RL 67 yX6_erase, Cond.instanceMethod yX6_erase, Cond.selects RX6 yX6_erase yX6_erase, Cond.code yX6_erase cX6_erase 2 (some .int), Cond.methodLink RL 68 yL_check, Cond.static yL_check, Cond.codeWith yL_check cL_check 4 (some .int) [(0, 9, 12, 13)], Cond.methodLink RL 21 yX5_check, Cond.instanceMethod yX5_check]
def wsL_law0_r9 : List Cond := [Cond.selects RX5 yX5_check yX5_check, Cond.code yX5_check cX5_check 2 (some .int), Cond.methodLink RX5 78 yX5_isByte, Cond.static yX5_isByte, Cond.code yX5_isByte cX5_isByte 1 (some .boolean), Cond.methodLink RX5 83 yX4_of, Cond.static yX4_of, Cond.initialized RX4, Cond.code yX4_of cX4_of 6 (some .int), Cond.constant RX4 19 (-1568478504), Cond.methodLink RX4 7 yX4_withByte, Cond.static yX4_withByte, Cond.code yX4_withByte cX4_withByte 3 (some .int), Cond.fieldLink RX4 20 "FragmentLog$Sum" "REMAINDERS" "[I", Cond.methodLink RX4 13 yX3_at, Cond.instanceMethod yX3_at, Cond.selects RX3 yX3_at yX3_at, Cond.code yX3_at cX3_at 2 (some .int), Cond.methodLink RL 71 yX6_check, Cond.instanceMethod yX6_check, Cond.selects RX6 yX6_check yX6_check, Cond.code yX6_check cX6_check 2 (some .int), Cond.methodLink RX6 91 yX6_checkOf, Cond.instanceMethod yX6_checkOf]
def wsL_law0_r10 : List Cond := [Cond.selects RX6 yX6_checkOf yX6_checkOf, Cond.code yX6_checkOf cX6_checkOf 6 (some .int), Cond.methodLink RX6 83 yX6_more, Cond.static yX6_more, Cond.code yX6_more cX6_more 4 (some .int), Cond.constant RX6 81 (-2097792136), Cond.methodLink RX6 87 yX6_masked, Cond.static yX6_masked, Cond.code yX6_masked cX6_masked 2 (some .int), Cond.constant RX6 82 (-1568478504), Cond.methodLink RL 72 yX5_append, Cond.instanceMethod yX5_append, Cond.selects RX5 yX5_append yX5_append, Cond.code yX5_append cX5_append 1 (some .int), Cond.methodLink RX5 89 yX0_addRecord, Cond.instanceMethod yX0_addRecord, Cond.selects RX0 yX0_addRecord yX0_addRecord, Cond.code yX0_addRecord cX0_addRecord 3 (some .boolean), Cond.methodLink RX0 34 yX3_many, Cond.methodLink RX0 44 yX0_addPieces, Cond.instanceMethod yX0_addPieces, Cond.selects RX0 yX0_addPieces yX0_addPieces, Cond.code yX0_addPieces cX0_addPieces 6 (some .boolean), Cond.methodLink RX0 38 Lib.Math.min.name]
def wsL_law0_r11 : List Cond := [Cond.methodLink RX0 48 yX0_fillBlock, Cond.instanceMethod yX0_fillBlock, Cond.selects RX0 yX0_fillBlock yX0_fillBlock, Cond.code yX0_fillBlock cX0_fillBlock 2 (some .boolean), Cond.methodLink RX0 52 yX0_roomInBlock, Cond.instanceMethod yX0_roomInBlock, Cond.selects RX0 yX0_roomInBlock yX0_roomInBlock, Cond.code yX0_roomInBlock cX0_roomInBlock 1 (some .int), Cond.methodLink RX0 31 yX0_endOfBlock, Cond.methodLink RX0 63 yX3_hasRoomFor, Cond.methodLink RX0 67 yX3_addLowestFirst, Cond.instanceMethod yX3_addLowestFirst, Cond.selects RX3 yX3_addLowestFirst yX3_addLowestFirst, Cond.code yX3_addLowestFirst cX3_addLowestFirst 4 none, Cond.methodLink RX3 19 yX3_add, Cond.methodLink RX0 55 yX0_kindOf, Cond.static yX0_kindOf, Cond.code yX0_kindOf cX0_kindOf 2 (some .int), Cond.methodLink RX0 59 yX0_addFragment, Cond.instanceMethod yX0_addFragment, Cond.selects RX0 yX0_addFragment yX0_addFragment, Cond.code yX0_addFragment cX0_addFragment 5 (some .boolean), Cond.methodLink RX0 71 yX4_of, Cond.methodLink RX0 77 yX3_add]
def wsL_law0_r12 : List Cond := [Cond.methodLink RX0 80 yX3_addPart, Cond.instanceMethod yX3_addPart, Cond.selects RX3 yX3_addPart yX3_addPart, Cond.code yX3_addPart cX3_addPart 5 none, Cond.methodLink RX3 23 yX3_at, Cond.methodLink RX5 93 yX0_bytes, Cond.instanceMethod yX0_bytes, Cond.selects RX0 yX0_bytes yX0_bytes, Cond.code yX0_bytes cX0_bytes 1 (some (.object "FragmentLog$Row")), Cond.methodLink RL 75 yX6_append, Cond.instanceMethod yX6_append, Cond.selects RX6 yX6_append yX6_append, Cond.code yX6_append cX6_append 7 (some .int), Cond.fieldLink RX6 102 "FragmentLogModel" "hasBegun" "Z", Cond.methodLink RX6 98 yX6_appendedSize, Cond.instanceMethod yX6_appendedSize, Cond.selects RX6 yX6_appendedSize yX6_appendedSize, Cond.code yX6_appendedSize cX6_appendedSize 6 (some .int), Cond.methodLink RX6 95 yX6_put, Cond.instanceMethod yX6_put, Cond.selects RX6 yX6_put yX6_put, Cond.code yX6_put cX6_put 2 none, Cond.methodLink RX6 105 yX6_putFragment, Cond.instanceMethod yX6_putFragment]
def wsL_law0_r13 : List Cond := [Cond.selects RX6 yX6_putFragment yX6_putFragment, Cond.code yX6_putFragment cX6_putFragment 6 none, Cond.methodLink RL 76 yL_raw, Cond.static yL_raw, Cond.codeWith yL_raw cL_raw 4 (some .int) [(0, 9, 12, 13)], Cond.methodLink RL 25 yX5_raw, Cond.instanceMethod yX5_raw, Cond.selects RX5 yX5_raw yX5_raw, Cond.code yX5_raw cX5_raw 2 (some .int), Cond.methodLink RX5 97 yX0_addFragment, Cond.methodLink RL 78 yX6_raw, Cond.instanceMethod yX6_raw, Cond.selects RX6 yX6_raw yX6_raw, Cond.code yX6_raw cX6_raw 2 (some .int), Cond.methodLink RL 79 yL_put, Cond.static yL_put, Cond.codeWith yL_put cL_put 5 (some .int) [(0, 10, 13, 32), (0, 10, 17, 13)], Cond.classLink RL 32 "java/lang/IndexOutOfBoundsException", Cond.methodLink RL 28 yX5_put, Cond.instanceMethod yX5_put, Cond.selects RX5 yX5_put yX5_put, Cond.code yX5_put cX5_put 4 (some .int), Cond.classLink RX5 104 "java/lang/IndexOutOfBoundsException", Cond.initialized "java/lang/IndexOutOfBoundsException"]
def wsL_law0_r14 : List Cond := [Cond.methodLink RX5 101 yX3_has, Cond.instanceMethod yX3_has, Cond.selects RX3 yX3_has yX3_has, Cond.code yX3_has cX3_has 2 (some .boolean), Cond.methodLink RX5 111 yX3_at, Cond.methodLink RX5 115 yX3_replace, Cond.instanceMethod yX3_replace, Cond.selects RX3 yX3_replace yX3_replace, Cond.code yX3_replace cX3_replace 3 none, Cond.methodLink RX3 27 yX3_has, Cond.methodLink RL 82 yX6_put_, Cond.instanceMethod yX6_put_, Cond.selects RX6 yX6_put_ yX6_put_, Cond.code yX6_put_ cX6_put_ 4 (some .int), Cond.methodLink RL 83 yL_cut, Cond.static yL_cut, Cond.codeWith yL_cut cL_cut 4 (some .int) [(0, 9, 12, 13)], Cond.methodLink RL 34 yX5_cut, Cond.instanceMethod yX5_cut, Cond.selects RX5 yX5_cut yX5_cut, Cond.code yX5_cut cX5_cut 3 (some .int), Cond.methodLink RL 85 yX6_cut, Cond.instanceMethod yX6_cut, Cond.selects RX6 yX6_cut yX6_cut]
def wsL_law0_r15 : List Cond := [Cond.code yX6_cut cX6_cut 3 (some .int), Cond.methodLink RL 86 yL_begin, Cond.static yL_begin, Cond.codeWith yL_begin cL_begin 4 (some .int) [(0, 9, 12, 13)], Cond.methodLink RL 37 yX5_begin, Cond.instanceMethod yX5_begin, Cond.selects RX5 yX5_begin yX5_begin, Cond.code yX5_begin cX5_begin 2 (some .int), Cond.methodLink RX5 122 yX2_place, Cond.instanceMethod yX2_place, Cond.selects RX2 yX2_place yX2_place, Cond.code yX2_place cX2_place 1 (some .int), Cond.methodLink RL 88 yX6_begin, Cond.instanceMethod yX6_begin, Cond.selects RX6 yX6_begin yX6_begin, Cond.code yX6_begin cX6_begin 2 (some .int), Cond.methodLink RL 89 yX5_read, Cond.instanceMethod yX5_read, Cond.selects RX5 yX5_read yX5_read, Cond.code yX5_read cX5_read 1 (some .int), Cond.methodLink RX5 125 yX2_findRecord, Cond.instanceMethod yX2_findRecord, Cond.selects RX2 yX2_findRecord yX2_findRecord, Cond.code yX2_findRecord cX2_findRecord 3 (some .boolean)]
def wsL_law0_r16 : List Cond := [Cond.methodLink RX2 66 yX2_dropRecord, Cond.instanceMethod yX2_dropRecord, Cond.selects RX2 yX2_dropRecord yX2_dropRecord, Cond.code yX2_dropRecord cX2_dropRecord 1 none, Cond.methodLink RX2 134 yX3_shorten, Cond.methodLink RX2 69 yX2_nextBit, Cond.instanceMethod yX2_nextBit, Cond.selects RX2 yX2_nextBit yX2_nextBit, Cond.code yX2_nextBit cX2_nextBit 4 (some .int), Cond.methodLink RX2 83 yX0_leftInBlock, Cond.instanceMethod yX0_leftInBlock, Cond.selects RX0 yX0_leftInBlock yX0_leftInBlock, Cond.code yX0_leftInBlock cX0_leftInBlock 2 (some .int), Cond.methodLink RX2 86 yX0_isWhole, Cond.instanceMethod yX0_isWhole, Cond.selects RX0 yX0_isWhole yX0_isWhole, Cond.code yX0_isWhole cX0_isWhole 2 (some .boolean), Cond.methodLink RX2 89 yX0_bytes, Cond.methodLink RX2 93 yX3_numberLowestFirst, Cond.instanceMethod yX3_numberLowestFirst, Cond.selects RX3 yX3_numberLowestFirst yX3_numberLowestFirst, Cond.code yX3_numberLowestFirst cX3_numberLowestFirst 5 (some .int), Cond.methodLink RX2 97 yX3_at, Cond.methodLink RX2 100 yX2_breakBlock]
def wsL_law0_r17 : List Cond := [Cond.instanceMethod yX2_breakBlock, Cond.selects RX2 yX2_breakBlock yX2_breakBlock, Cond.code yX2_breakBlock cX2_breakBlock 3 (some .int), Cond.methodLink RX2 113 yX1_tell, Cond.instanceMethod yX1_tell, Cond.selects RX1 yX1_tell yX1_tell, Cond.code yX1_tell cX1_tell 3 none, Cond.methodLink RX2 103 yX2_isCheckRight, Cond.instanceMethod yX2_isCheckRight, Cond.selects RX2 yX2_isCheckRight yX2_isCheckRight, Cond.code yX2_isCheckRight cX2_isCheckRight 4 (some .boolean), Cond.methodLink RX2 107 yX4_of, Cond.methodLink RX2 73 yX2_tear, Cond.instanceMethod yX2_tear, Cond.selects RX2 yX2_tear yX2_tear, Cond.code yX2_tear cX2_tear 1 none, Cond.methodLink RX2 117 yX3_many, Cond.methodLink RX2 76 yX2_passesOver, Cond.instanceMethod yX2_passesOver, Cond.selects RX2 yX2_passesOver yX2_passesOver, Cond.code yX2_passesOver cX2_passesOver 2 (some .boolean), Cond.methodLink RX2 80 yX2_takeFragment, Cond.instanceMethod yX2_takeFragment, Cond.selects RX2 yX2_takeFragment yX2_takeFragment]
def wsL_law0_r18 : List Cond := [Cond.code yX2_takeFragment cX2_takeFragment 2 (some .boolean), Cond.methodLink RX2 120 yX2_startRecord, Cond.instanceMethod yX2_startRecord, Cond.selects RX2 yX2_startRecord yX2_startRecord, Cond.code yX2_startRecord cX2_startRecord 1 none, Cond.methodLink RX2 127 yX2_addFragmentBytes, Cond.instanceMethod yX2_addFragmentBytes, Cond.selects RX2 yX2_addFragmentBytes yX2_addFragmentBytes, Cond.code yX2_addFragmentBytes cX2_addFragmentBytes 1 none, Cond.methodLink RX2 130 yX3_addPart, Cond.methodLink RX2 123 yX2_goOnWithRecord, Cond.instanceMethod yX2_goOnWithRecord, Cond.selects RX2 yX2_goOnWithRecord yX2_goOnWithRecord, Cond.code yX2_goOnWithRecord cX2_goOnWithRecord 1 (some .boolean), Cond.methodLink RX5 129 yX2_record, Cond.instanceMethod yX2_record, Cond.selects RX2 yX2_record yX2_record, Cond.code yX2_record cX2_record 1 (some (.object "FragmentLog$Row")), Cond.methodLink RL 92 yX6_read, Cond.instanceMethod yX6_read, Cond.selects RX6 yX6_read yX6_read, Cond.code yX6_read cX6_read 2 (some .int), Cond.methodLink RX6 134 yX6_fragment, Cond.instanceMethod yX6_fragment]
def wsL_law0_r19 : List Cond := [Cond.selects RX6 yX6_fragment yX6_fragment, Cond.code yX6_fragment cX6_fragment 7 (some .int), Cond.fieldLink RX6 109 "FragmentLogModel" "from" "I", Cond.fieldLink RX6 112 "FragmentLogModel" "length" "I", Cond.methodLink RX6 115 yX6_tell, Cond.instanceMethod yX6_tell, Cond.selects RX6 yX6_tell yX6_tell, Cond.code yX6_tell cX6_tell 3 none, Cond.methodLink RX6 137 yX6_passOn, Cond.instanceMethod yX6_passOn, Cond.selects RX6 yX6_passOn yX6_passOn, Cond.code yX6_passOn cX6_passOn 2 (some .boolean), Cond.methodLink RX6 119 yX6_drop, Cond.instanceMethod yX6_drop, Cond.selects RX6 yX6_drop yX6_drop, Cond.code yX6_drop cX6_drop 1 none, Cond.methodLink RX6 128 yX6_start, Cond.instanceMethod yX6_start, Cond.selects RX6 yX6_start yX6_start, Cond.code yX6_start cX6_start 1 none, Cond.fieldLink RX6 122 "FragmentLogModel" "hasFrom" "I", Cond.methodLink RX6 125 yX6_take, Cond.instanceMethod yX6_take, Cond.selects RX6 yX6_take yX6_take]
def wsL_law0_r20 : List Cond := [Cond.code yX6_take cX6_take 2 none, Cond.methodLink RX6 131 yX6_finish, Cond.instanceMethod yX6_finish, Cond.selects RX6 yX6_finish yX6_finish, Cond.code yX6_finish cX6_finish 2 none, Cond.methodLink RL 93 yX5_octet, Cond.instanceMethod yX5_octet, Cond.selects RX5 yX5_octet yX5_octet, Cond.code yX5_octet cX5_octet 2 (some .int), Cond.methodLink RL 96 yX6_octet, Cond.instanceMethod yX6_octet, Cond.selects RX6 yX6_octet yX6_octet, Cond.code yX6_octet cX6_octet 2 (some .int), Cond.methodLink RL 97 yX5_first, Cond.instanceMethod yX5_first, Cond.selects RX5 yX5_first yX5_first, Cond.code yX5_first cX5_first 1 (some .int), Cond.methodLink RX5 132 yX2_recordPlace, Cond.instanceMethod yX2_recordPlace, Cond.selects RX2 yX2_recordPlace yX2_recordPlace, Cond.code yX2_recordPlace cX2_recordPlace 1 (some .int), Cond.methodLink RL 100 yX6_first, Cond.instanceMethod yX6_first, Cond.selects RX6 yX6_first yX6_first]
def wsL_law0_r21 : List Cond := [Cond.code yX6_first cX6_first 1 (some .int), Cond.methodLink RL 101 yL_count, Cond.static yL_count, Cond.codeWith yL_count cL_count 4 (some .int) [(0, 9, 12, 13)], Cond.methodLink RL 40 yX5_count, Cond.instanceMethod yX5_count, Cond.selects RX5 yX5_count yX5_count, Cond.code yX5_count cX5_count 2 (some .int), Cond.methodLink RX5 135 yX2_isLost, Cond.instanceMethod yX2_isLost, Cond.selects RX2 yX2_isLost yX2_isLost, Cond.code yX2_isLost cX2_isLost 1 (some .boolean), Cond.methodLink RX5 138 yX2_drops, Cond.instanceMethod yX2_drops, Cond.selects RX2 yX2_drops yX2_drops, Cond.code yX2_drops cX2_drops 1 (some (.object "FragmentLog$Drops")), Cond.methodLink RX5 142 yX1_many, Cond.instanceMethod yX1_many, Cond.selects RX1 yX1_many yX1_many, Cond.code yX1_many cX1_many 1 (some .int), Cond.methodLink RX5 145 yX1_allBytes, Cond.instanceMethod yX1_allBytes, Cond.selects RX1 yX1_allBytes yX1_allBytes, Cond.code yX1_allBytes cX1_allBytes 1 (some .int)]
def wsL_law0_r22 : List Cond := [Cond.methodLink RL 103 yX6_count, Cond.instanceMethod yX6_count, Cond.selects RX6 yX6_count yX6_count, Cond.code yX6_count cX6_count 2 (some .int), Cond.methodLink RL 104 yL_told, Cond.static yL_told, Cond.codeWith yL_told cL_told 5 (some .int) [(0, 10, 13, 13)], Cond.methodLink RL 43 yX5_told, Cond.instanceMethod yX5_told, Cond.selects RX5 yX5_told yX5_told, Cond.code yX5_told cX5_told 3 (some .int), Cond.methodLink RX5 152 yX1_whichAt, Cond.instanceMethod yX1_whichAt, Cond.selects RX1 yX1_whichAt yX1_whichAt, Cond.code yX1_whichAt cX1_whichAt 2 (some .int), Cond.methodLink RX1 25 yX1_isKept, Cond.instanceMethod yX1_isKept, Cond.selects RX1 yX1_isKept yX1_isKept, Cond.code yX1_isKept cX1_isKept 2 (some .boolean), Cond.methodLink RX5 155 yX1_bytesAt, Cond.instanceMethod yX1_bytesAt, Cond.selects RX1 yX1_bytesAt yX1_bytesAt, Cond.code yX1_bytesAt cX1_bytesAt 2 (some .int), Cond.methodLink RL 106 yX6_told]
def wsL_law0_r23 : List Cond := [Cond.instanceMethod yX6_told, Cond.selects RX6 yX6_told yX6_told, Cond.code yX6_told cX6_told 3 (some .int), Cond.methodLink RL 107 yX5_log, Cond.instanceMethod yX5_log, Cond.selects RX5 yX5_log yX5_log, Cond.code yX5_log cX5_log 2 (some .int), Cond.methodLink RL 110 yX6_log, Cond.instanceMethod yX6_log, Cond.selects RX6 yX6_log yX6_log, Cond.code yX6_log cX6_log 2 (some .int)]
def wsL_law0 : List Cond := (wsL_law0_r1 ++ (wsL_law0_r2 ++ (wsL_law0_r3 ++ (wsL_law0_r4 ++ (wsL_law0_r5 ++ (wsL_law0_r6 ++ (wsL_law0_r7 ++ (wsL_law0_r8 ++ (wsL_law0_r9 ++ (wsL_law0_r10 ++ (wsL_law0_r11 ++ (wsL_law0_r12 ++ (wsL_law0_r13 ++ (wsL_law0_r14 ++ (wsL_law0_r15 ++ (wsL_law0_r16 ++ (wsL_law0_r17 ++ (wsL_law0_r18 ++ (wsL_law0_r19 ++ (wsL_law0_r20 ++ (wsL_law0_r21 ++ (wsL_law0_r22 ++ wsL_law0_r23)))))))))))))))))))))) ++ wsX50 ++ wsX60 ++ wsX30 ++ wsX00 ++ wsX20 ++ wsX10 ++ ([] : List Cond)
def wsL_law : List Cond := wsL_law0 ++ (vx_atS RX5 38 "java/lang/IllegalArgumentException" ["java/lang/RuntimeException", "java/lang/Exception"]).filter goodWord ++ (vx_atS RX5 57 "java/lang/IllegalStateException" ["java/lang/RuntimeException", "java/lang/Exception"]).filter goodWord ++ (vx_atS RX5 108 "java/lang/IndexOutOfBoundsException" ["java/lang/RuntimeException", "java/lang/Exception"]).filter goodWord
abbrev vwCl : List vw_C := [(RX0, TX0, 2), (RX1, TX1, 4), (RX2, TX2, 10), (RX3, TX3, 2), (RX5, TX5, 3), (RX6, TX6, 23)]
end
section
set_option maxRecDepth 20000 in
theorem i_wsL_law0_r1 : GoodIn lw_tbl wsL_law0_r1 := goodIn_p _ [48, 51] (by decide +kernel) (by decide +kernel)
set_option maxRecDepth 20000 in
theorem i_wsL_law0_r2 : GoodIn lw_tbl wsL_law0_r2 := goodIn_p _ [56, 70, 85] (by decide +kernel) (by decide +kernel)
set_option maxRecDepth 20000 in
theorem i_wsL_law0_r3 : GoodIn lw_tbl wsL_law0_r3 := goodIn_p _ [91, 571] (by decide +kernel) (by decide +kernel)
set_option maxRecDepth 20000 in
theorem i_wsL_law0_r4 : GoodIn lw_tbl wsL_law0_r4 := goodIn_p _ [336, 407] (by decide +kernel) (by decide +kernel)
set_option maxRecDepth 20000 in
theorem i_wsL_law0_r5 : GoodIn lw_tbl wsL_law0_r5 := goodIn_p _ [161, 411, 186, 190, 416, 650] (by decide +kernel) (by decide +kernel)
set_option maxRecDepth 20000 in
theorem i_wsL_law0_r6 : GoodIn lw_tbl wsL_law0_r6 := goodIn_p _ [653, 657, 661, 646] (by decide +kernel) (by decide +kernel)
set_option maxRecDepth 20000 in
theorem i_wsL_law0_r7 : GoodIn lw_tbl wsL_law0_r7 := goodIn_p _ [424, 205, 194, 447] (by decide +kernel) (by decide +kernel)
set_option maxRecDepth 20000 in
theorem i_wsL_law0_r8 : GoodIn lw_tbl wsL_law0_r8 := goodIn_p _ [202, 157, 665, 153, 669] (by decide +kernel) (by decide +kernel)
end
section
set_option maxRecDepth 20000 in
theorem i_wsL_law0_r9 : GoodIn lw_tbl wsL_law0_r9 := goodIn_p _ [455, 458, 215, 218, 224, 673] (by decide +kernel) (by decide +kernel)
set_option maxRecDepth 20000 in
theorem i_wsL_law0_r10 : GoodIn lw_tbl wsL_law0_r10 := goodIn_p _ [677, 680, 684, 165, 169, 174] (by decide +kernel) (by decide +kernel)
set_option maxRecDepth 20000 in
theorem i_wsL_law0_r11 : GoodIn lw_tbl wsL_law0_r11 := goodIn_p _ [178, 182, 198, 208, 212] (by decide +kernel) (by decide +kernel)
set_option maxRecDepth 20000 in
theorem i_wsL_law0_r12 : GoodIn lw_tbl wsL_law0_r12 := goodIn_p _ [230, 236, 689, 693, 697] (by decide +kernel) (by decide +kernel)
set_option maxRecDepth 20000 in
theorem i_wsL_law0_r13 : GoodIn lw_tbl wsL_law0_r13 := goodIn_p _ [701, 467, 705, 476] (by decide +kernel) (by decide +kernel)
set_option maxRecDepth 20000 in
theorem i_wsL_law0_r14 : GoodIn lw_tbl wsL_law0_r14 := goodIn_p _ [480, 501, 709, 509] (by decide +kernel) (by decide +kernel)
set_option maxRecDepth 20000 in
theorem i_wsL_law0_r15 : GoodIn lw_tbl wsL_law0_r15 := goodIn_p _ [713, 517, 522, 717, 240, 244] (by decide +kernel) (by decide +kernel)
set_option maxRecDepth 20000 in
theorem i_wsL_law0_r16 : GoodIn lw_tbl wsL_law0_r16 := goodIn_p _ [248, 253, 257, 261, 267] (by decide +kernel) (by decide +kernel)
end
section
set_option maxRecDepth 20000 in
theorem i_wsL_law0_r17 : GoodIn lw_tbl wsL_law0_r17 := goodIn_p _ [272, 276, 280, 285, 290] (by decide +kernel) (by decide +kernel)
set_option maxRecDepth 20000 in
theorem i_wsL_law0_r18 : GoodIn lw_tbl wsL_law0_r18 := goodIn_p _ [294, 298, 302, 307, 311, 721] (by decide +kernel) (by decide +kernel)
set_option maxRecDepth 20000 in
theorem i_wsL_law0_r19 : GoodIn lw_tbl wsL_law0_r19 := goodIn_p _ [725, 729, 733, 737, 741] (by decide +kernel) (by decide +kernel)
set_option maxRecDepth 20000 in
theorem i_wsL_law0_r20 : GoodIn lw_tbl wsL_law0_r20 := goodIn_p _ [745, 749, 315, 753, 320, 324] (by decide +kernel) (by decide +kernel)
set_option maxRecDepth 20000 in
theorem i_wsL_law0_r21 : GoodIn lw_tbl wsL_law0_r21 := goodIn_p _ [757, 529, 533, 537, 541, 545] (by decide +kernel) (by decide +kernel)
set_option maxRecDepth 20000 in
theorem i_wsL_law0_r22 : GoodIn lw_tbl wsL_law0_r22 := goodIn_p _ [761, 553, 558, 562, 566] (by decide +kernel) (by decide +kernel)
set_option maxRecDepth 20000 in
theorem i_wsL_law0_r23 : GoodIn lw_tbl wsL_law0_r23 := goodIn_p _ [765, 328, 769] (by decide +kernel) (by decide +kernel)
set_option maxRecDepth 20000 in
theorem i_wsX50 : GoodIn lw_tbl wsX50 := goodIn_p _ [] (by decide +kernel) (by decide +kernel)
end
section
set_option maxRecDepth 20000 in
theorem i_wsX60 : GoodIn lw_tbl wsX60 := goodIn_p _ [] (by decide +kernel) (by decide +kernel)
set_option maxRecDepth 20000 in
theorem i_wsX30 : GoodIn lw_tbl wsX30 := goodIn_p _ [] (by decide +kernel) (by decide +kernel)
set_option maxRecDepth 20000 in
theorem i_wsX00 : GoodIn lw_tbl wsX00 := goodIn_p _ [] (by decide +kernel) (by decide +kernel)
set_option maxRecDepth 20000 in
theorem i_wsX20 : GoodIn lw_tbl wsX20 := goodIn_p _ [] (by decide +kernel) (by decide +kernel)
set_option maxRecDepth 20000 in
theorem i_wsX10 : GoodIn lw_tbl wsX10 := goodIn_p _ [] (by decide +kernel) (by decide +kernel)
end
section
theorem wsL_law_in0 : ∀ w ∈ wsL_law0, w ∈ lw_tbl := fun w h => (List.mem_append.mp h).elim (fun h => (List.mem_append.mp h).elim (fun h => (List.mem_append.mp h).elim (fun h => (List.mem_append.mp h).elim (fun h => (List.mem_append.mp h).elim (fun h => (List.mem_append.mp h).elim (fun h => (List.mem_append.mp h).elim (fun h => (List.mem_append.mp h).elim (fun h => (i_wsL_law0_r1 w h).1) (fun h => (List.mem_append.mp h).elim (fun h => (i_wsL_law0_r2 w h).1) (fun h => (List.mem_append.mp h).elim (fun h => (i_wsL_law0_r3 w h).1) (fun h => (List.mem_append.mp h).elim (fun h => (i_wsL_law0_r4 w h).1) (fun h => (List.mem_append.mp h).elim (fun h => (i_wsL_law0_r5 w h).1) (fun h => (List.mem_append.mp h).elim (fun h => (i_wsL_law0_r6 w h).1) (fun h => (List.mem_append.mp h).elim (fun h => (i_wsL_law0_r7 w h).1) (fun h => (List.mem_append.mp h).elim (fun h => (i_wsL_law0_r8 w h).1) (fun h => (List.mem_append.mp h).elim (fun h => (i_wsL_law0_r9 w h).1) (fun h => (List.mem_append.mp h).elim (fun h => (i_wsL_law0_r10 w h).1) (fun h => (List.mem_append.mp h).elim (fun h => (i_wsL_law0_r11 w h).1) (fun h => (List.mem_append.mp h).elim (fun h => (i_wsL_law0_r12 w h).1) (fun h => (List.mem_append.mp h).elim (fun h => (i_wsL_law0_r13 w h).1) (fun h => (List.mem_append.mp h).elim (fun h => (i_wsL_law0_r14 w h).1) (fun h => (List.mem_append.mp h).elim (fun h => (i_wsL_law0_r15 w h).1) (fun h => (List.mem_append.mp h).elim (fun h => (i_wsL_law0_r16 w h).1) (fun h => (List.mem_append.mp h).elim (fun h => (i_wsL_law0_r17 w h).1) (fun h => (List.mem_append.mp h).elim (fun h => (i_wsL_law0_r18 w h).1) (fun h => (List.mem_append.mp h).elim (fun h => (i_wsL_law0_r19 w h).1) (fun h => (List.mem_append.mp h).elim (fun h => (i_wsL_law0_r20 w h).1) (fun h => (List.mem_append.mp h).elim (fun h => (i_wsL_law0_r21 w h).1) (fun h => (List.mem_append.mp h).elim (fun h => (i_wsL_law0_r22 w h).1) (fun h => (i_wsL_law0_r23 w h).1))))))))))))))))))))))) (fun h => (i_wsX50 w h).1)) (fun h => (i_wsX60 w h).1)) (fun h => (i_wsX30 w h).1)) (fun h => (i_wsX00 w h).1)) (fun h => (i_wsX20 w h).1)) (fun h => (i_wsX10 w h).1)) (fun h => nomatch h)
theorem wsL_law_x0 : ∀ w ∈ (vx_atS RX5 38 "java/lang/IllegalArgumentException" ["java/lang/RuntimeException", "java/lang/Exception"]).filter goodWord, w ∈ lw_tbl := by decide +kernel
theorem wsL_law_x1 : ∀ w ∈ (vx_atS RX5 57 "java/lang/IllegalStateException" ["java/lang/RuntimeException", "java/lang/Exception"]).filter goodWord, w ∈ lw_tbl := by decide +kernel
theorem wsL_law_x2 : ∀ w ∈ (vx_atS RX5 108 "java/lang/IndexOutOfBoundsException" ["java/lang/RuntimeException", "java/lang/Exception"]).filter goodWord, w ∈ lw_tbl := by decide +kernel
theorem wsL_law_in : ∀ w ∈ wsL_law, w ∈ lw_tbl := fun w h => (List.mem_append.mp h).elim (fun h => (List.mem_append.mp h).elim (fun h => (List.mem_append.mp h).elim (fun h => wsL_law_in0 w h) (fun h => wsL_law_x0 w h)) (fun h => wsL_law_x1 w h)) (fun h => wsL_law_x2 w h)
theorem inlX0 : ∀ w ∈ wsX00, w ∈ wsL_law := fun _ h => List.mem_append_left _ (List.mem_append_left _ (List.mem_append_left _ (List.mem_append_left _ (List.mem_append_left _ (List.mem_append_left _ (List.mem_append_right _ h))))))
theorem inX0 : ∀ w ∈ wsX00, w ∈ lw_tbl := fun w h => wsL_law_in w (inlX0 w h)
theorem inlX1 : ∀ w ∈ wsX10, w ∈ wsL_law := fun _ h => List.mem_append_left _ (List.mem_append_left _ (List.mem_append_left _ (List.mem_append_left _ (List.mem_append_right _ h))))
theorem inX1 : ∀ w ∈ wsX10, w ∈ lw_tbl := fun w h => wsL_law_in w (inlX1 w h)
theorem inlX2 : ∀ w ∈ wsX20, w ∈ wsL_law := fun _ h => List.mem_append_left _ (List.mem_append_left _ (List.mem_append_left _ (List.mem_append_left _ (List.mem_append_left _ (List.mem_append_right _ h)))))
theorem inX2 : ∀ w ∈ wsX20, w ∈ lw_tbl := fun w h => wsL_law_in w (inlX2 w h)
theorem inlX3 : ∀ w ∈ wsX30, w ∈ wsL_law := fun _ h => List.mem_append_left _ (List.mem_append_left _ (List.mem_append_left _ (List.mem_append_left _ (List.mem_append_left _ (List.mem_append_left _ (List.mem_append_left _ (List.mem_append_right _ h)))))))
theorem inX3 : ∀ w ∈ wsX30, w ∈ lw_tbl := fun w h => wsL_law_in w (inlX3 w h)
theorem inX4 : ∀ w ∈ wsX40, w ∈ lw_tbl := by decide +kernel
theorem inlX5 : ∀ w ∈ wsX50, w ∈ wsL_law := fun _ h => List.mem_append_left _ (List.mem_append_left _ (List.mem_append_left _ (List.mem_append_left _ (List.mem_append_left _ (List.mem_append_left _ (List.mem_append_left _ (List.mem_append_left _ (List.mem_append_left _ (List.mem_append_right _ h)))))))))
theorem inX5 : ∀ w ∈ wsX50, w ∈ lw_tbl := fun w h => wsL_law_in w (inlX5 w h)
theorem inlX6 : ∀ w ∈ wsX60, w ∈ wsL_law := fun _ h => List.mem_append_left _ (List.mem_append_left _ (List.mem_append_left _ (List.mem_append_left _ (List.mem_append_left _ (List.mem_append_left _ (List.mem_append_left _ (List.mem_append_left _ (List.mem_append_right _ h))))))))
theorem inX6 : ∀ w ∈ wsX60, w ∈ lw_tbl := fun w h => wsL_law_in w (inlX6 w h)
theorem inJ9 : ∀ w ∈ wsJ90, w ∈ lw_tbl := by decide +kernel
theorem inJ0 : ∀ w ∈ wsJ00, w ∈ lw_tbl := by decide +kernel
end
section
set_option maxRecDepth 20000 in
theorem ggX0_init_X3_init : GoodIn wsX0_init wsX3_init := goodIn_r _ [11, 12, 2, 3, 13, 14, 15, 16, 17] (by decide +kernel) (by decide +kernel)
set_option maxRecDepth 20000 in
theorem gX0_init_X3_init : GoodIn wsX0_init (wsX3_init) := ggX0_init_X3_init
theorem dX0_init_0 : decode cX0_init 0 = .ok (.aload_n 0, 1) := by decide +kernel
theorem dX0_init_1 : decode cX0_init 1 = .ok (.invokespecial 3, 3) := by decide +kernel
theorem dX0_init_4 : decode cX0_init 4 = .ok (.aload_n 0, 1) := by decide +kernel
theorem dX0_init_5 : decode cX0_init 5 = .ok (.new 9, 3) := by decide +kernel
theorem dX0_init_8 : decode cX0_init 8 = .ok (.dup, 1) := by decide +kernel
theorem dX0_init_9 : decode cX0_init 9 = .ok (.sipush 4096, 3) := by decide +kernel
theorem dX0_init_12 : decode cX0_init 12 = .ok (.invokespecial 11, 3) := by decide +kernel
theorem dX0_init_15 : decode cX0_init 15 = .ok (.putfield 14, 3) := by decide +kernel
theorem dX0_init_18 : decode cX0_init 18 = .ok (.aload_n 0, 1) := by decide +kernel
theorem dX0_init_19 : decode cX0_init 19 = .ok (.bipush 64, 2) := by decide +kernel
theorem dX0_init_21 : decode cX0_init 21 = .ok (.putfield 20, 3) := by decide +kernel
theorem dX0_init_24 : decode cX0_init 24 = .ok (.return_, 1) := by decide +kernel
theorem dX0_bytes_0 : decode cX0_bytes 0 = .ok (.aload_n 0, 1) := by decide +kernel
theorem dX0_bytes_1 : decode cX0_bytes 1 = .ok (.getfield 14, 3) := by decide +kernel
theorem dX0_bytes_4 : decode cX0_bytes 4 = .ok (.areturn, 1) := by decide +kernel
set_option maxRecDepth 20000 in
theorem ggX0_startAnew_X3_shorten : GoodIn wsX0_startAnew wsX3_shorten := goodIn_r _ [7, 8, 11, 12] (by decide +kernel) (by decide +kernel)
set_option maxRecDepth 20000 in
theorem gX0_startAnew_X3_shorten : GoodIn wsX0_startAnew (wsV RX0 24 RX3 yX3_shorten wsX3_shorten) := goodIn_app (goodIn_of _ (by decide +kernel)) ggX0_startAnew_X3_shorten
theorem dX0_startAnew_0 : decode cX0_startAnew 0 = .ok (.aload_n 0, 1) := by decide +kernel
theorem dX0_startAnew_1 : decode cX0_startAnew 1 = .ok (.getfield 14, 3) := by decide +kernel
theorem dX0_startAnew_4 : decode cX0_startAnew 4 = .ok (.iconst 0, 1) := by decide +kernel
theorem dX0_startAnew_5 : decode cX0_startAnew 5 = .ok (.invokevirtual 24, 3) := by decide +kernel
theorem dX0_startAnew_8 : decode cX0_startAnew 8 = .ok (.aload_n 0, 1) := by decide +kernel
theorem dX0_startAnew_9 : decode cX0_startAnew 9 = .ok (.iload_n 1, 1) := by decide +kernel
theorem dX0_startAnew_10 : decode cX0_startAnew 10 = .ok (.putfield 20, 3) := by decide +kernel
theorem dX0_startAnew_13 : decode cX0_startAnew 13 = .ok (.return_, 1) := by decide +kernel
theorem dX0_startOfBlock_0 : decode cX0_startOfBlock 0 = .ok (.iload_n 1, 1) := by decide +kernel
theorem dX0_startOfBlock_1 : decode cX0_startOfBlock 1 = .ok (.iload_n 1, 1) := by decide +kernel
theorem dX0_startOfBlock_2 : decode cX0_startOfBlock 2 = .ok (.aload_n 0, 1) := by decide +kernel
theorem dX0_startOfBlock_3 : decode cX0_startOfBlock 3 = .ok (.getfield 20, 3) := by decide +kernel
theorem dX0_startOfBlock_6 : decode cX0_startOfBlock 6 = .ok (.irem, 1) := by decide +kernel
theorem dX0_startOfBlock_7 : decode cX0_startOfBlock 7 = .ok (.isub, 1) := by decide +kernel
theorem dX0_startOfBlock_8 : decode cX0_startOfBlock 8 = .ok (.ireturn, 1) := by decide +kernel
set_option maxRecDepth 20000 in
theorem ggX0_endOfBlock_X0_startOfBlock : GoodIn wsX0_endOfBlock wsX0_startOfBlock := goodIn_r _ [6, 1, 7, 8] (by decide +kernel) (by decide +kernel)
set_option maxRecDepth 20000 in
theorem gX0_endOfBlock_X0_startOfBlock : GoodIn wsX0_endOfBlock (wsV RX0 27 RX0 yX0_startOfBlock wsX0_startOfBlock) := goodIn_app (goodIn_of _ (by decide +kernel)) ggX0_endOfBlock_X0_startOfBlock
theorem dX0_endOfBlock_0 : decode cX0_endOfBlock 0 = .ok (.aload_n 0, 1) := by decide +kernel
theorem dX0_endOfBlock_1 : decode cX0_endOfBlock 1 = .ok (.iload_n 1, 1) := by decide +kernel
theorem dX0_endOfBlock_2 : decode cX0_endOfBlock 2 = .ok (.invokevirtual 27, 3) := by decide +kernel
theorem dX0_endOfBlock_5 : decode cX0_endOfBlock 5 = .ok (.aload_n 0, 1) := by decide +kernel
theorem dX0_endOfBlock_6 : decode cX0_endOfBlock 6 = .ok (.getfield 20, 3) := by decide +kernel
theorem dX0_endOfBlock_9 : decode cX0_endOfBlock 9 = .ok (.iadd, 1) := by decide +kernel
theorem dX0_endOfBlock_10 : decode cX0_endOfBlock 10 = .ok (.ireturn, 1) := by decide +kernel
set_option maxRecDepth 20000 in
theorem ggX0_isWhole_X0_endOfBlock : GoodIn wsX0_isWhole wsX0_endOfBlock := goodIn_r _ [6, 7, 8, 9, 10, 5, 11, 18, 19] (by decide +kernel) (by decide +kernel)
set_option maxRecDepth 20000 in
theorem gX0_isWhole_X0_endOfBlock : GoodIn wsX0_isWhole (wsV RX0 31 RX0 yX0_endOfBlock wsX0_endOfBlock) := goodIn_app (goodIn_of _ (by decide +kernel)) ggX0_isWhole_X0_endOfBlock
set_option maxRecDepth 20000 in
theorem ggX0_isWhole_X3_many : GoodIn wsX0_isWhole wsX3_many := goodIn_r _ [16, 17, 20, 21] (by decide +kernel) (by decide +kernel)
set_option maxRecDepth 20000 in
theorem gX0_isWhole_X3_many : GoodIn wsX0_isWhole (wsV RX0 34 RX3 yX3_many wsX3_many) := goodIn_app (goodIn_of _ (by decide +kernel)) ggX0_isWhole_X3_many
theorem dX0_isWhole_0 : decode cX0_isWhole 0 = .ok (.aload_n 0, 1) := by decide +kernel
theorem dX0_isWhole_1 : decode cX0_isWhole 1 = .ok (.iload_n 1, 1) := by decide +kernel
theorem dX0_isWhole_2 : decode cX0_isWhole 2 = .ok (.invokevirtual 31, 3) := by decide +kernel
theorem dX0_isWhole_5 : decode cX0_isWhole 5 = .ok (.aload_n 0, 1) := by decide +kernel
theorem dX0_isWhole_6 : decode cX0_isWhole 6 = .ok (.getfield 14, 3) := by decide +kernel
theorem dX0_isWhole_9 : decode cX0_isWhole 9 = .ok (.invokevirtual 34, 3) := by decide +kernel
theorem dX0_isWhole_12 : decode cX0_isWhole 12 = .ok (.if_icmp .gt 7, 3) := by decide +kernel
theorem dX0_isWhole_15 : decode cX0_isWhole 15 = .ok (.iconst 1, 1) := by decide +kernel
theorem dX0_isWhole_16 : decode cX0_isWhole 16 = .ok (.goto 4, 3) := by decide +kernel
theorem dX0_isWhole_19 : decode cX0_isWhole 19 = .ok (.iconst 0, 1) := by decide +kernel
theorem dX0_isWhole_20 : decode cX0_isWhole 20 = .ok (.ireturn, 1) := by decide +kernel
set_option maxRecDepth 20000 in
theorem ggX0_leftInBlock_X0_endOfBlock : GoodIn wsX0_leftInBlock wsX0_endOfBlock := goodIn_r _ [10, 11, 12, 13, 14, 9, 15, 22, 23] (by decide +kernel) (by decide +kernel)
set_option maxRecDepth 20000 in
theorem gX0_leftInBlock_X0_endOfBlock : GoodIn wsX0_leftInBlock (wsV RX0 31 RX0 yX0_endOfBlock wsX0_endOfBlock) := goodIn_app (goodIn_of _ (by decide +kernel)) ggX0_leftInBlock_X0_endOfBlock
set_option maxRecDepth 20000 in
theorem ggX0_leftInBlock_X3_many : GoodIn wsX0_leftInBlock wsX3_many := goodIn_r _ [20, 21, 24, 25] (by decide +kernel) (by decide +kernel)
set_option maxRecDepth 20000 in
theorem gX0_leftInBlock_X3_many : GoodIn wsX0_leftInBlock (wsV RX0 34 RX3 yX3_many wsX3_many) := goodIn_app (goodIn_of _ (by decide +kernel)) ggX0_leftInBlock_X3_many
theorem dX0_leftInBlock_0 : decode cX0_leftInBlock 0 = .ok (.aload_n 0, 1) := by decide +kernel
theorem dX0_leftInBlock_1 : decode cX0_leftInBlock 1 = .ok (.iload_n 1, 1) := by decide +kernel
theorem dX0_leftInBlock_2 : decode cX0_leftInBlock 2 = .ok (.invokevirtual 31, 3) := by decide +kernel
theorem dX0_leftInBlock_5 : decode cX0_leftInBlock 5 = .ok (.aload_n 0, 1) := by decide +kernel
theorem dX0_leftInBlock_6 : decode cX0_leftInBlock 6 = .ok (.getfield 14, 3) := by decide +kernel
theorem dX0_leftInBlock_9 : decode cX0_leftInBlock 9 = .ok (.invokevirtual 34, 3) := by decide +kernel
theorem dX0_leftInBlock_12 : decode cX0_leftInBlock 12 = .ok (.invokestatic 38, 3) := by decide +kernel
theorem dX0_leftInBlock_15 : decode cX0_leftInBlock 15 = .ok (.iload_n 1, 1) := by decide +kernel
theorem dX0_leftInBlock_16 : decode cX0_leftInBlock 16 = .ok (.isub, 1) := by decide +kernel
theorem dX0_leftInBlock_17 : decode cX0_leftInBlock 17 = .ok (.ireturn, 1) := by decide +kernel
set_option maxRecDepth 20000 in
theorem ggX0_addRecord_X3_many : GoodIn wsX0_addRecord wsX3_many := goodIn_r _ [6, 7, 79, 80] (by decide +kernel) (by decide +kernel)
set_option maxRecDepth 20000 in
theorem gX0_addRecord_X3_many : GoodIn wsX0_addRecord (wsV RX0 34 RX3 yX3_many wsX3_many) := goodIn_app (goodIn_of _ (by decide +kernel)) ggX0_addRecord_X3_many
set_option maxRecDepth 20000 in
theorem ggX0_addRecord_X0_addPieces : GoodIn wsX0_addRecord wsX0_addPieces := goodIn_r _ [12, 13, 14, 15, 16, 17, 18, 19, 11, 20, 1, 21, 22, 23, 24, 2, 3, 4, 5, 6, 7, 25, 26, 27, 28, 29, 30, 31, 32, 33, 34, 35, 36, 37, 38, 39, 40, 41, 42, 43, 44, 45, 46, 47, 48, 49, 50, 51, 52, 53, 54, 55, 56, 57, 58, 59, 60, 61, 62, 63, 64, 65, 66, 67, 68, 69, 70, 71, 72, 77, 78, 79, 80] (by decide +kernel) (by decide +kernel)
set_option maxRecDepth 20000 in
theorem gX0_addRecord_X0_addPieces : GoodIn wsX0_addRecord (wsV RX0 44 RX0 yX0_addPieces wsX0_addPieces) := goodIn_app (goodIn_of _ (by decide +kernel)) ggX0_addRecord_X0_addPieces
set_option maxRecDepth 20000 in
theorem ggX0_addRecord_X3_shorten : GoodIn wsX0_addRecord wsX3_shorten := goodIn_r _ [76, 7, 79, 80] (by decide +kernel) (by decide +kernel)
set_option maxRecDepth 20000 in
theorem gX0_addRecord_X3_shorten : GoodIn wsX0_addRecord (wsV RX0 24 RX3 yX3_shorten wsX3_shorten) := goodIn_app (goodIn_of _ (by decide +kernel)) ggX0_addRecord_X3_shorten
theorem dX0_addRecord_0 : decode cX0_addRecord 0 = .ok (.aload_n 0, 1) := by decide +kernel
theorem dX0_addRecord_1 : decode cX0_addRecord 1 = .ok (.getfield 14, 3) := by decide +kernel
theorem dX0_addRecord_4 : decode cX0_addRecord 4 = .ok (.invokevirtual 34, 3) := by decide +kernel
theorem dX0_addRecord_7 : decode cX0_addRecord 7 = .ok (.istore_n 2, 1) := by decide +kernel
theorem dX0_addRecord_8 : decode cX0_addRecord 8 = .ok (.aload_n 0, 1) := by decide +kernel
theorem dX0_addRecord_9 : decode cX0_addRecord 9 = .ok (.aload_n 1, 1) := by decide +kernel
theorem dX0_addRecord_10 : decode cX0_addRecord 10 = .ok (.invokevirtual 44, 3) := by decide +kernel
theorem dX0_addRecord_13 : decode cX0_addRecord 13 = .ok (.ifCond .eq 5, 3) := by decide +kernel
theorem dX0_addRecord_16 : decode cX0_addRecord 16 = .ok (.iconst 1, 1) := by decide +kernel
theorem dX0_addRecord_17 : decode cX0_addRecord 17 = .ok (.ireturn, 1) := by decide +kernel
theorem dX0_addRecord_18 : decode cX0_addRecord 18 = .ok (.aload_n 0, 1) := by decide +kernel
theorem dX0_addRecord_19 : decode cX0_addRecord 19 = .ok (.getfield 14, 3) := by decide +kernel
theorem dX0_addRecord_22 : decode cX0_addRecord 22 = .ok (.iload_n 2, 1) := by decide +kernel
theorem dX0_addRecord_23 : decode cX0_addRecord 23 = .ok (.invokevirtual 24, 3) := by decide +kernel
theorem dX0_addRecord_26 : decode cX0_addRecord 26 = .ok (.iconst 0, 1) := by decide +kernel
theorem dX0_addRecord_27 : decode cX0_addRecord 27 = .ok (.ireturn, 1) := by decide +kernel
set_option maxRecDepth 20000 in
theorem ggX0_addPieces_X0_fillBlock : GoodIn wsX0_addPieces wsX0_fillBlock := goodIn_r _ [9, 10, 11, 12, 13, 8, 14, 15, 16, 17, 18, 19, 20, 21, 22, 23, 24, 25, 26, 27, 28, 29, 30, 31, 32, 33, 34, 35, 36, 37, 38, 39, 40, 41, 42, 69, 70, 71, 72] (by decide +kernel) (by decide +kernel)
set_option maxRecDepth 20000 in
theorem gX0_addPieces_X0_fillBlock : GoodIn wsX0_addPieces (wsV RX0 48 RX0 yX0_fillBlock wsX0_fillBlock) := goodIn_app (goodIn_of _ (by decide +kernel)) ggX0_addPieces_X0_fillBlock
set_option maxRecDepth 20000 in
theorem ggX0_addPieces_X3_many : GoodIn wsX0_addPieces wsX3_many := goodIn_r _ [19, 20, 71, 72] (by decide +kernel) (by decide +kernel)
set_option maxRecDepth 20000 in
theorem gX0_addPieces_X3_many : GoodIn wsX0_addPieces (wsV RX0 34 RX3 yX3_many wsX3_many) := goodIn_app (goodIn_of _ (by decide +kernel)) ggX0_addPieces_X3_many
set_option maxRecDepth 20000 in
theorem ggX0_addPieces_X0_roomInBlock : GoodIn wsX0_addPieces wsX0_roomInBlock := goodIn_r _ [14, 10, 15, 16, 17, 18, 19, 20, 21, 22, 23, 8, 24, 25, 26, 27, 28, 29, 69, 70, 71, 72] (by decide +kernel) (by decide +kernel)
set_option maxRecDepth 20000 in
theorem gX0_addPieces_X0_roomInBlock : GoodIn wsX0_addPieces (wsV RX0 52 RX0 yX0_roomInBlock wsX0_roomInBlock) := goodIn_app (goodIn_of _ (by decide +kernel)) ggX0_addPieces_X0_roomInBlock
set_option maxRecDepth 20000 in
theorem ggX0_addPieces_X0_kindOf : GoodIn wsX0_addPieces wsX0_kindOf := goodIn_r _ [45] (by decide +kernel) (by decide +kernel)
set_option maxRecDepth 20000 in
theorem gX0_addPieces_X0_kindOf : GoodIn wsX0_addPieces (va_wsS RX0 55 yX0_kindOf wsX0_kindOf) := goodIn_app (goodIn_of _ (by decide +kernel)) ggX0_addPieces_X0_kindOf
set_option maxRecDepth 20000 in
theorem ggX0_addPieces_X0_addFragment : GoodIn wsX0_addPieces wsX0_addFragment := goodIn_r _ [49, 10, 30, 31, 32, 18, 33, 34, 20, 50, 51, 52, 53, 54, 55, 56, 57, 58, 59, 60, 61, 62, 35, 36, 37, 38, 39, 40, 41, 42, 63, 64, 65, 66, 67, 68, 69, 70, 71, 72] (by decide +kernel) (by decide +kernel)
set_option maxRecDepth 20000 in
theorem gX0_addPieces_X0_addFragment : GoodIn wsX0_addPieces (wsV RX0 59 RX0 yX0_addFragment wsX0_addFragment) := goodIn_app (goodIn_of _ (by decide +kernel)) ggX0_addPieces_X0_addFragment
theorem dX0_addPieces_0 : decode cX0_addPieces 0 = .ok (.iconst 0, 1) := by decide +kernel
theorem dX0_addPieces_1 : decode cX0_addPieces 1 = .ok (.istore_n 2, 1) := by decide +kernel
theorem dX0_addPieces_2 : decode cX0_addPieces 2 = .ok (.iconst 0, 1) := by decide +kernel
theorem dX0_addPieces_3 : decode cX0_addPieces 3 = .ok (.istore_n 3, 1) := by decide +kernel
theorem dX0_addPieces_4 : decode cX0_addPieces 4 = .ok (.iload_n 3, 1) := by decide +kernel
theorem dX0_addPieces_5 : decode cX0_addPieces 5 = .ok (.sipush 400, 3) := by decide +kernel
theorem dX0_addPieces_8 : decode cX0_addPieces 8 = .ok (.if_icmp .gt 93, 3) := by decide +kernel
theorem dX0_addPieces_11 : decode cX0_addPieces 11 = .ok (.aload_n 0, 1) := by decide +kernel
theorem dX0_addPieces_12 : decode cX0_addPieces 12 = .ok (.invokevirtual 48, 3) := by decide +kernel
theorem dX0_addPieces_15 : decode cX0_addPieces 15 = .ok (.ifCond .ne 5, 3) := by decide +kernel
theorem dX0_addPieces_18 : decode cX0_addPieces 18 = .ok (.iconst 0, 1) := by decide +kernel
theorem dX0_addPieces_19 : decode cX0_addPieces 19 = .ok (.ireturn, 1) := by decide +kernel
theorem dX0_addPieces_20 : decode cX0_addPieces 20 = .ok (.aload_n 1, 1) := by decide +kernel
theorem dX0_addPieces_21 : decode cX0_addPieces 21 = .ok (.invokevirtual 34, 3) := by decide +kernel
theorem dX0_addPieces_24 : decode cX0_addPieces 24 = .ok (.iload_n 2, 1) := by decide +kernel
theorem dX0_addPieces_25 : decode cX0_addPieces 25 = .ok (.isub, 1) := by decide +kernel
theorem dX0_addPieces_26 : decode cX0_addPieces 26 = .ok (.aload_n 0, 1) := by decide +kernel
theorem dX0_addPieces_27 : decode cX0_addPieces 27 = .ok (.invokevirtual 52, 3) := by decide +kernel
theorem dX0_addPieces_30 : decode cX0_addPieces 30 = .ok (.bipush 7, 2) := by decide +kernel
theorem dX0_addPieces_32 : decode cX0_addPieces 32 = .ok (.isub, 1) := by decide +kernel
theorem dX0_addPieces_33 : decode cX0_addPieces 33 = .ok (.invokestatic 38, 3) := by decide +kernel
theorem dX0_addPieces_36 : decode cX0_addPieces 36 = .ok (.istore 4, 2) := by decide +kernel
theorem dX0_addPieces_38 : decode cX0_addPieces 38 = .ok (.iload_n 2, 1) := by decide +kernel
theorem dX0_addPieces_39 : decode cX0_addPieces 39 = .ok (.iload 4, 2) := by decide +kernel
theorem dX0_addPieces_41 : decode cX0_addPieces 41 = .ok (.iadd, 1) := by decide +kernel
theorem dX0_addPieces_42 : decode cX0_addPieces 42 = .ok (.aload_n 1, 1) := by decide +kernel
theorem dX0_addPieces_43 : decode cX0_addPieces 43 = .ok (.invokevirtual 34, 3) := by decide +kernel
theorem dX0_addPieces_46 : decode cX0_addPieces 46 = .ok (.if_icmp .ne 7, 3) := by decide +kernel
theorem dX0_addPieces_49 : decode cX0_addPieces 49 = .ok (.iconst 1, 1) := by decide +kernel
theorem dX0_addPieces_50 : decode cX0_addPieces 50 = .ok (.goto 4, 3) := by decide +kernel
theorem dX0_addPieces_53 : decode cX0_addPieces 53 = .ok (.iconst 0, 1) := by decide +kernel
theorem dX0_addPieces_54 : decode cX0_addPieces 54 = .ok (.istore 5, 2) := by decide +kernel
theorem dX0_addPieces_56 : decode cX0_addPieces 56 = .ok (.aload_n 0, 1) := by decide +kernel
theorem dX0_addPieces_57 : decode cX0_addPieces 57 = .ok (.iload_n 3, 1) := by decide +kernel
theorem dX0_addPieces_58 : decode cX0_addPieces 58 = .ok (.ifCond .ne 7, 3) := by decide +kernel
theorem dX0_addPieces_61 : decode cX0_addPieces 61 = .ok (.iconst 1, 1) := by decide +kernel
theorem dX0_addPieces_62 : decode cX0_addPieces 62 = .ok (.goto 4, 3) := by decide +kernel
theorem dX0_addPieces_65 : decode cX0_addPieces 65 = .ok (.iconst 0, 1) := by decide +kernel
theorem dX0_addPieces_66 : decode cX0_addPieces 66 = .ok (.iload 5, 2) := by decide +kernel
theorem dX0_addPieces_68 : decode cX0_addPieces 68 = .ok (.invokestatic 55, 3) := by decide +kernel
theorem dX0_addPieces_71 : decode cX0_addPieces 71 = .ok (.aload_n 1, 1) := by decide +kernel
theorem dX0_addPieces_72 : decode cX0_addPieces 72 = .ok (.iload_n 2, 1) := by decide +kernel
theorem dX0_addPieces_73 : decode cX0_addPieces 73 = .ok (.iload 4, 2) := by decide +kernel
theorem dX0_addPieces_75 : decode cX0_addPieces 75 = .ok (.invokevirtual 59, 3) := by decide +kernel
theorem dX0_addPieces_78 : decode cX0_addPieces 78 = .ok (.ifCond .ne 5, 3) := by decide +kernel
theorem dX0_addPieces_81 : decode cX0_addPieces 81 = .ok (.iconst 0, 1) := by decide +kernel
theorem dX0_addPieces_82 : decode cX0_addPieces 82 = .ok (.ireturn, 1) := by decide +kernel
theorem dX0_addPieces_83 : decode cX0_addPieces 83 = .ok (.iload_n 2, 1) := by decide +kernel
theorem dX0_addPieces_84 : decode cX0_addPieces 84 = .ok (.iload 4, 2) := by decide +kernel
theorem dX0_addPieces_86 : decode cX0_addPieces 86 = .ok (.iadd, 1) := by decide +kernel
theorem dX0_addPieces_87 : decode cX0_addPieces 87 = .ok (.istore_n 2, 1) := by decide +kernel
theorem dX0_addPieces_88 : decode cX0_addPieces 88 = .ok (.iload 5, 2) := by decide +kernel
theorem dX0_addPieces_90 : decode cX0_addPieces 90 = .ok (.ifCond .eq 5, 3) := by decide +kernel
theorem dX0_addPieces_93 : decode cX0_addPieces 93 = .ok (.iconst 1, 1) := by decide +kernel
theorem dX0_addPieces_94 : decode cX0_addPieces 94 = .ok (.ireturn, 1) := by decide +kernel
theorem dX0_addPieces_95 : decode cX0_addPieces 95 = .ok (.iinc 3 1, 3) := by decide +kernel
theorem dX0_addPieces_98 : decode cX0_addPieces 98 = .ok (.goto (-94), 3) := by decide +kernel
theorem dX0_addPieces_101 : decode cX0_addPieces 101 = .ok (.iconst 0, 1) := by decide +kernel
theorem dX0_addPieces_102 : decode cX0_addPieces 102 = .ok (.ireturn, 1) := by decide +kernel
set_option maxRecDepth 20000 in
theorem ggX0_fillBlock_X0_roomInBlock : GoodIn wsX0_fillBlock wsX0_roomInBlock := goodIn_r _ [6, 1, 7, 8, 9, 10, 11, 12, 13, 14, 15, 5, 16, 17, 18, 19, 20, 21, 35, 36, 37, 38] (by decide +kernel) (by decide +kernel)
set_option maxRecDepth 20000 in
theorem gX0_fillBlock_X0_roomInBlock : GoodIn wsX0_fillBlock (wsV RX0 52 RX0 yX0_roomInBlock wsX0_roomInBlock) := goodIn_app (goodIn_of _ (by decide +kernel)) ggX0_fillBlock_X0_roomInBlock
set_option maxRecDepth 20000 in
theorem ggX0_fillBlock_X3_hasRoomFor : GoodIn wsX0_fillBlock wsX3_hasRoomFor := goodIn_r _ [25, 26, 12, 37, 38] (by decide +kernel) (by decide +kernel)
set_option maxRecDepth 20000 in
theorem gX0_fillBlock_X3_hasRoomFor : GoodIn wsX0_fillBlock (wsV RX0 63 RX3 yX3_hasRoomFor wsX3_hasRoomFor) := goodIn_app (goodIn_of _ (by decide +kernel)) ggX0_fillBlock_X3_hasRoomFor
set_option maxRecDepth 20000 in
theorem ggX0_fillBlock_X3_addLowestFirst : GoodIn wsX0_fillBlock wsX3_addLowestFirst := goodIn_r _ [30, 31, 32, 33, 10, 34, 12, 26, 37, 38] (by decide +kernel) (by decide +kernel)
set_option maxRecDepth 20000 in
theorem gX0_fillBlock_X3_addLowestFirst : GoodIn wsX0_fillBlock (wsV RX0 67 RX3 yX3_addLowestFirst wsX3_addLowestFirst) := goodIn_app (goodIn_of _ (by decide +kernel)) ggX0_fillBlock_X3_addLowestFirst
theorem dX0_fillBlock_0 : decode cX0_fillBlock 0 = .ok (.aload_n 0, 1) := by decide +kernel
theorem dX0_fillBlock_1 : decode cX0_fillBlock 1 = .ok (.invokevirtual 52, 3) := by decide +kernel
theorem dX0_fillBlock_4 : decode cX0_fillBlock 4 = .ok (.istore_n 1, 1) := by decide +kernel
theorem dX0_fillBlock_5 : decode cX0_fillBlock 5 = .ok (.iload_n 1, 1) := by decide +kernel
theorem dX0_fillBlock_6 : decode cX0_fillBlock 6 = .ok (.bipush 7, 2) := by decide +kernel
theorem dX0_fillBlock_8 : decode cX0_fillBlock 8 = .ok (.if_icmp .lt 5, 3) := by decide +kernel
theorem dX0_fillBlock_11 : decode cX0_fillBlock 11 = .ok (.iconst 1, 1) := by decide +kernel
theorem dX0_fillBlock_12 : decode cX0_fillBlock 12 = .ok (.ireturn, 1) := by decide +kernel
theorem dX0_fillBlock_13 : decode cX0_fillBlock 13 = .ok (.aload_n 0, 1) := by decide +kernel
theorem dX0_fillBlock_14 : decode cX0_fillBlock 14 = .ok (.getfield 14, 3) := by decide +kernel
theorem dX0_fillBlock_17 : decode cX0_fillBlock 17 = .ok (.iload_n 1, 1) := by decide +kernel
theorem dX0_fillBlock_18 : decode cX0_fillBlock 18 = .ok (.invokevirtual 63, 3) := by decide +kernel
theorem dX0_fillBlock_21 : decode cX0_fillBlock 21 = .ok (.ifCond .ne 5, 3) := by decide +kernel
theorem dX0_fillBlock_24 : decode cX0_fillBlock 24 = .ok (.iconst 0, 1) := by decide +kernel
theorem dX0_fillBlock_25 : decode cX0_fillBlock 25 = .ok (.ireturn, 1) := by decide +kernel
theorem dX0_fillBlock_26 : decode cX0_fillBlock 26 = .ok (.aload_n 0, 1) := by decide +kernel
theorem dX0_fillBlock_27 : decode cX0_fillBlock 27 = .ok (.getfield 14, 3) := by decide +kernel
theorem dX0_fillBlock_30 : decode cX0_fillBlock 30 = .ok (.iconst 0, 1) := by decide +kernel
theorem dX0_fillBlock_31 : decode cX0_fillBlock 31 = .ok (.iload_n 1, 1) := by decide +kernel
theorem dX0_fillBlock_32 : decode cX0_fillBlock 32 = .ok (.invokevirtual 67, 3) := by decide +kernel
theorem dX0_fillBlock_35 : decode cX0_fillBlock 35 = .ok (.iconst 1, 1) := by decide +kernel
theorem dX0_fillBlock_36 : decode cX0_fillBlock 36 = .ok (.ireturn, 1) := by decide +kernel
set_option maxRecDepth 20000 in
theorem ggX0_roomInBlock_X3_many : GoodIn wsX0_roomInBlock wsX3_many := goodIn_r _ [6, 7, 20, 21] (by decide +kernel) (by decide +kernel)
set_option maxRecDepth 20000 in
theorem gX0_roomInBlock_X3_many : GoodIn wsX0_roomInBlock (wsV RX0 34 RX3 yX3_many wsX3_many) := goodIn_app (goodIn_of _ (by decide +kernel)) ggX0_roomInBlock_X3_many
set_option maxRecDepth 20000 in
theorem ggX0_roomInBlock_X0_endOfBlock : GoodIn wsX0_roomInBlock wsX0_endOfBlock := goodIn_r _ [12, 13, 14, 15, 16, 11, 17, 18, 19] (by decide +kernel) (by decide +kernel)
set_option maxRecDepth 20000 in
theorem gX0_roomInBlock_X0_endOfBlock : GoodIn wsX0_roomInBlock (wsV RX0 31 RX0 yX0_endOfBlock wsX0_endOfBlock) := goodIn_app (goodIn_of _ (by decide +kernel)) ggX0_roomInBlock_X0_endOfBlock
theorem dX0_roomInBlock_0 : decode cX0_roomInBlock 0 = .ok (.aload_n 0, 1) := by decide +kernel
theorem dX0_roomInBlock_1 : decode cX0_roomInBlock 1 = .ok (.aload_n 0, 1) := by decide +kernel
theorem dX0_roomInBlock_2 : decode cX0_roomInBlock 2 = .ok (.getfield 14, 3) := by decide +kernel
theorem dX0_roomInBlock_5 : decode cX0_roomInBlock 5 = .ok (.invokevirtual 34, 3) := by decide +kernel
theorem dX0_roomInBlock_8 : decode cX0_roomInBlock 8 = .ok (.invokevirtual 31, 3) := by decide +kernel
theorem dX0_roomInBlock_11 : decode cX0_roomInBlock 11 = .ok (.aload_n 0, 1) := by decide +kernel
theorem dX0_roomInBlock_12 : decode cX0_roomInBlock 12 = .ok (.getfield 14, 3) := by decide +kernel
theorem dX0_roomInBlock_15 : decode cX0_roomInBlock 15 = .ok (.invokevirtual 34, 3) := by decide +kernel
theorem dX0_roomInBlock_18 : decode cX0_roomInBlock 18 = .ok (.isub, 1) := by decide +kernel
theorem dX0_roomInBlock_19 : decode cX0_roomInBlock 19 = .ok (.ireturn, 1) := by decide +kernel
theorem dX0_kindOf_0 : decode cX0_kindOf 0 = .ok (.iload_n 0, 1) := by decide +kernel
theorem dX0_kindOf_1 : decode cX0_kindOf 1 = .ok (.ifCond .eq 13, 3) := by decide +kernel
theorem dX0_kindOf_4 : decode cX0_kindOf 4 = .ok (.iload_n 1, 1) := by decide +kernel
theorem dX0_kindOf_5 : decode cX0_kindOf 5 = .ok (.ifCond .eq 7, 3) := by decide +kernel
theorem dX0_kindOf_8 : decode cX0_kindOf 8 = .ok (.iconst 1, 1) := by decide +kernel
theorem dX0_kindOf_9 : decode cX0_kindOf 9 = .ok (.goto 4, 3) := by decide +kernel
theorem dX0_kindOf_12 : decode cX0_kindOf 12 = .ok (.iconst 2, 1) := by decide +kernel
theorem dX0_kindOf_13 : decode cX0_kindOf 13 = .ok (.ireturn, 1) := by decide +kernel
theorem dX0_kindOf_14 : decode cX0_kindOf 14 = .ok (.iload_n 1, 1) := by decide +kernel
theorem dX0_kindOf_15 : decode cX0_kindOf 15 = .ok (.ifCond .eq 7, 3) := by decide +kernel
theorem dX0_kindOf_18 : decode cX0_kindOf 18 = .ok (.iconst 4, 1) := by decide +kernel
theorem dX0_kindOf_19 : decode cX0_kindOf 19 = .ok (.goto 4, 3) := by decide +kernel
theorem dX0_kindOf_22 : decode cX0_kindOf 22 = .ok (.iconst 3, 1) := by decide +kernel
theorem dX0_kindOf_23 : decode cX0_kindOf 23 = .ok (.ireturn, 1) := by decide +kernel
set_option maxRecDepth 20000 in
theorem ggX0_addFragment_X3_hasRoomFor : GoodIn wsX0_addFragment wsX3_hasRoomFor := goodIn_r _ [6, 7, 8, 38, 39] (by decide +kernel) (by decide +kernel)
set_option maxRecDepth 20000 in
theorem gX0_addFragment_X3_hasRoomFor : GoodIn wsX0_addFragment (wsV RX0 63 RX3 yX3_hasRoomFor wsX3_hasRoomFor) := goodIn_app (goodIn_of _ (by decide +kernel)) ggX0_addFragment_X3_hasRoomFor
set_option maxRecDepth 20000 in
theorem ggX0_addFragment_X4_of : GoodIn wsX0_addFragment wsX4_of := goodIn_r _ [12, 13, 14, 15, 11, 16, 17, 18, 19, 20, 5, 21, 8, 7, 38, 39] (by decide +kernel) (by decide +kernel)
set_option maxRecDepth 20000 in
theorem gX0_addFragment_X4_of : GoodIn wsX0_addFragment (va_wsS RX0 71 yX4_of wsX4_of) := goodIn_app (goodIn_of _ (by decide +kernel)) ggX0_addFragment_X4_of
set_option maxRecDepth 20000 in
theorem ggX0_addFragment_X3_addLowestFirst : GoodIn wsX0_addFragment wsX3_addLowestFirst := goodIn_r _ [25, 26, 27, 28, 5, 29, 8, 7, 38, 39] (by decide +kernel) (by decide +kernel)
set_option maxRecDepth 20000 in
theorem gX0_addFragment_X3_addLowestFirst : GoodIn wsX0_addFragment (wsV RX0 67 RX3 yX3_addLowestFirst wsX3_addLowestFirst) := goodIn_app (goodIn_of _ (by decide +kernel)) ggX0_addFragment_X3_addLowestFirst
set_option maxRecDepth 20000 in
theorem ggX0_addFragment_X3_add : GoodIn wsX0_addFragment wsX3_add := goodIn_r _ [29, 8, 7, 38, 39] (by decide +kernel) (by decide +kernel)
set_option maxRecDepth 20000 in
theorem gX0_addFragment_X3_add : GoodIn wsX0_addFragment (wsV RX0 77 RX3 yX3_add wsX3_add) := goodIn_app (goodIn_of _ (by decide +kernel)) ggX0_addFragment_X3_add
set_option maxRecDepth 20000 in
theorem ggX0_addFragment_X3_addPart : GoodIn wsX0_addFragment wsX3_addPart := goodIn_r _ [34, 35, 19, 20, 5, 21, 8, 7, 26, 27, 28, 29, 38, 39] (by decide +kernel) (by decide +kernel)
set_option maxRecDepth 20000 in
theorem gX0_addFragment_X3_addPart : GoodIn wsX0_addFragment (wsV RX0 80 RX3 yX3_addPart wsX3_addPart) := goodIn_app (goodIn_of _ (by decide +kernel)) ggX0_addFragment_X3_addPart
theorem dX0_addFragment_0 : decode cX0_addFragment 0 = .ok (.aload_n 0, 1) := by decide +kernel
theorem dX0_addFragment_1 : decode cX0_addFragment 1 = .ok (.getfield 14, 3) := by decide +kernel
theorem dX0_addFragment_4 : decode cX0_addFragment 4 = .ok (.bipush 7, 2) := by decide +kernel
theorem dX0_addFragment_6 : decode cX0_addFragment 6 = .ok (.iload 4, 2) := by decide +kernel
theorem dX0_addFragment_8 : decode cX0_addFragment 8 = .ok (.iadd, 1) := by decide +kernel
theorem dX0_addFragment_9 : decode cX0_addFragment 9 = .ok (.invokevirtual 63, 3) := by decide +kernel
theorem dX0_addFragment_12 : decode cX0_addFragment 12 = .ok (.ifCond .ne 5, 3) := by decide +kernel
theorem dX0_addFragment_15 : decode cX0_addFragment 15 = .ok (.iconst 0, 1) := by decide +kernel
theorem dX0_addFragment_16 : decode cX0_addFragment 16 = .ok (.ireturn, 1) := by decide +kernel
theorem dX0_addFragment_17 : decode cX0_addFragment 17 = .ok (.aload_n 0, 1) := by decide +kernel
theorem dX0_addFragment_18 : decode cX0_addFragment 18 = .ok (.getfield 14, 3) := by decide +kernel
theorem dX0_addFragment_21 : decode cX0_addFragment 21 = .ok (.iload_n 1, 1) := by decide +kernel
theorem dX0_addFragment_22 : decode cX0_addFragment 22 = .ok (.aload_n 2, 1) := by decide +kernel
theorem dX0_addFragment_23 : decode cX0_addFragment 23 = .ok (.iload_n 3, 1) := by decide +kernel
theorem dX0_addFragment_24 : decode cX0_addFragment 24 = .ok (.iload 4, 2) := by decide +kernel
theorem dX0_addFragment_26 : decode cX0_addFragment 26 = .ok (.invokestatic 71, 3) := by decide +kernel
theorem dX0_addFragment_29 : decode cX0_addFragment 29 = .ok (.iconst 4, 1) := by decide +kernel
theorem dX0_addFragment_30 : decode cX0_addFragment 30 = .ok (.invokevirtual 67, 3) := by decide +kernel
theorem dX0_addFragment_33 : decode cX0_addFragment 33 = .ok (.aload_n 0, 1) := by decide +kernel
theorem dX0_addFragment_34 : decode cX0_addFragment 34 = .ok (.getfield 14, 3) := by decide +kernel
theorem dX0_addFragment_37 : decode cX0_addFragment 37 = .ok (.iload 4, 2) := by decide +kernel
theorem dX0_addFragment_39 : decode cX0_addFragment 39 = .ok (.iconst 2, 1) := by decide +kernel
theorem dX0_addFragment_40 : decode cX0_addFragment 40 = .ok (.invokevirtual 67, 3) := by decide +kernel
theorem dX0_addFragment_43 : decode cX0_addFragment 43 = .ok (.aload_n 0, 1) := by decide +kernel
theorem dX0_addFragment_44 : decode cX0_addFragment 44 = .ok (.getfield 14, 3) := by decide +kernel
theorem dX0_addFragment_47 : decode cX0_addFragment 47 = .ok (.iload_n 1, 1) := by decide +kernel
theorem dX0_addFragment_48 : decode cX0_addFragment 48 = .ok (.invokevirtual 77, 3) := by decide +kernel
theorem dX0_addFragment_51 : decode cX0_addFragment 51 = .ok (.aload_n 0, 1) := by decide +kernel
theorem dX0_addFragment_52 : decode cX0_addFragment 52 = .ok (.getfield 14, 3) := by decide +kernel
theorem dX0_addFragment_55 : decode cX0_addFragment 55 = .ok (.aload_n 2, 1) := by decide +kernel
theorem dX0_addFragment_56 : decode cX0_addFragment 56 = .ok (.iload_n 3, 1) := by decide +kernel
theorem dX0_addFragment_57 : decode cX0_addFragment 57 = .ok (.iload 4, 2) := by decide +kernel
theorem dX0_addFragment_59 : decode cX0_addFragment 59 = .ok (.invokevirtual 80, 3) := by decide +kernel
theorem dX0_addFragment_62 : decode cX0_addFragment 62 = .ok (.iconst 1, 1) := by decide +kernel
theorem dX0_addFragment_63 : decode cX0_addFragment 63 = .ok (.ireturn, 1) := by decide +kernel
end
section
theorem dX1_init_0 : decode cX1_init 0 = .ok (.aload_n 0, 1) := by decide +kernel
theorem dX1_init_1 : decode cX1_init 1 = .ok (.invokespecial 3, 3) := by decide +kernel
theorem dX1_init_4 : decode cX1_init 4 = .ok (.aload_n 0, 1) := by decide +kernel
theorem dX1_init_5 : decode cX1_init 5 = .ok (.bipush 100, 2) := by decide +kernel
theorem dX1_init_7 : decode cX1_init 7 = .ok (.newarray .int, 2) := by decide +kernel
theorem dX1_init_9 : decode cX1_init 9 = .ok (.putfield 9, 3) := by decide +kernel
theorem dX1_init_12 : decode cX1_init 12 = .ok (.aload_n 0, 1) := by decide +kernel
theorem dX1_init_13 : decode cX1_init 13 = .ok (.bipush 100, 2) := by decide +kernel
theorem dX1_init_15 : decode cX1_init 15 = .ok (.newarray .int, 2) := by decide +kernel
theorem dX1_init_17 : decode cX1_init 17 = .ok (.putfield 15, 3) := by decide +kernel
theorem dX1_init_20 : decode cX1_init 20 = .ok (.aload_n 0, 1) := by decide +kernel
theorem dX1_init_21 : decode cX1_init 21 = .ok (.iconst 0, 1) := by decide +kernel
theorem dX1_init_22 : decode cX1_init 22 = .ok (.putfield 18, 3) := by decide +kernel
theorem dX1_init_25 : decode cX1_init 25 = .ok (.aload_n 0, 1) := by decide +kernel
theorem dX1_init_26 : decode cX1_init 26 = .ok (.iconst 0, 1) := by decide +kernel
theorem dX1_init_27 : decode cX1_init 27 = .ok (.putfield 22, 3) := by decide +kernel
theorem dX1_init_30 : decode cX1_init 30 = .ok (.return_, 1) := by decide +kernel
theorem dX1_forget_0 : decode cX1_forget 0 = .ok (.aload_n 0, 1) := by decide +kernel
theorem dX1_forget_1 : decode cX1_forget 1 = .ok (.iconst 0, 1) := by decide +kernel
theorem dX1_forget_2 : decode cX1_forget 2 = .ok (.putfield 18, 3) := by decide +kernel
theorem dX1_forget_5 : decode cX1_forget 5 = .ok (.aload_n 0, 1) := by decide +kernel
theorem dX1_forget_6 : decode cX1_forget 6 = .ok (.iconst 0, 1) := by decide +kernel
theorem dX1_forget_7 : decode cX1_forget 7 = .ok (.putfield 22, 3) := by decide +kernel
theorem dX1_forget_10 : decode cX1_forget 10 = .ok (.return_, 1) := by decide +kernel
theorem dX1_tell_0 : decode cX1_tell 0 = .ok (.aload_n 0, 1) := by decide +kernel
theorem dX1_tell_1 : decode cX1_tell 1 = .ok (.getfield 18, 3) := by decide +kernel
theorem dX1_tell_4 : decode cX1_tell 4 = .ok (.bipush 100, 2) := by decide +kernel
theorem dX1_tell_6 : decode cX1_tell 6 = .ok (.if_icmp .ge 23, 3) := by decide +kernel
theorem dX1_tell_9 : decode cX1_tell 9 = .ok (.aload_n 0, 1) := by decide +kernel
theorem dX1_tell_10 : decode cX1_tell 10 = .ok (.getfield 9, 3) := by decide +kernel
theorem dX1_tell_13 : decode cX1_tell 13 = .ok (.aload_n 0, 1) := by decide +kernel
theorem dX1_tell_14 : decode cX1_tell 14 = .ok (.getfield 18, 3) := by decide +kernel
theorem dX1_tell_17 : decode cX1_tell 17 = .ok (.iload_n 1, 1) := by decide +kernel
theorem dX1_tell_18 : decode cX1_tell 18 = .ok (.iastore, 1) := by decide +kernel
theorem dX1_tell_19 : decode cX1_tell 19 = .ok (.aload_n 0, 1) := by decide +kernel
theorem dX1_tell_20 : decode cX1_tell 20 = .ok (.getfield 15, 3) := by decide +kernel
theorem dX1_tell_23 : decode cX1_tell 23 = .ok (.aload_n 0, 1) := by decide +kernel
theorem dX1_tell_24 : decode cX1_tell 24 = .ok (.getfield 18, 3) := by decide +kernel
theorem dX1_tell_27 : decode cX1_tell 27 = .ok (.iload_n 2, 1) := by decide +kernel
theorem dX1_tell_28 : decode cX1_tell 28 = .ok (.iastore, 1) := by decide +kernel
theorem dX1_tell_29 : decode cX1_tell 29 = .ok (.aload_n 0, 1) := by decide +kernel
theorem dX1_tell_30 : decode cX1_tell 30 = .ok (.dup, 1) := by decide +kernel
theorem dX1_tell_31 : decode cX1_tell 31 = .ok (.getfield 18, 3) := by decide +kernel
theorem dX1_tell_34 : decode cX1_tell 34 = .ok (.iconst 1, 1) := by decide +kernel
theorem dX1_tell_35 : decode cX1_tell 35 = .ok (.iadd, 1) := by decide +kernel
theorem dX1_tell_36 : decode cX1_tell 36 = .ok (.putfield 18, 3) := by decide +kernel
theorem dX1_tell_39 : decode cX1_tell 39 = .ok (.aload_n 0, 1) := by decide +kernel
theorem dX1_tell_40 : decode cX1_tell 40 = .ok (.dup, 1) := by decide +kernel
theorem dX1_tell_41 : decode cX1_tell 41 = .ok (.getfield 22, 3) := by decide +kernel
theorem dX1_tell_44 : decode cX1_tell 44 = .ok (.iload_n 2, 1) := by decide +kernel
theorem dX1_tell_45 : decode cX1_tell 45 = .ok (.iadd, 1) := by decide +kernel
theorem dX1_tell_46 : decode cX1_tell 46 = .ok (.putfield 22, 3) := by decide +kernel
theorem dX1_tell_49 : decode cX1_tell 49 = .ok (.return_, 1) := by decide +kernel
theorem dX1_many_0 : decode cX1_many 0 = .ok (.aload_n 0, 1) := by decide +kernel
theorem dX1_many_1 : decode cX1_many 1 = .ok (.getfield 18, 3) := by decide +kernel
theorem dX1_many_4 : decode cX1_many 4 = .ok (.ireturn, 1) := by decide +kernel
theorem dX1_allBytes_0 : decode cX1_allBytes 0 = .ok (.aload_n 0, 1) := by decide +kernel
theorem dX1_allBytes_1 : decode cX1_allBytes 1 = .ok (.getfield 22, 3) := by decide +kernel
theorem dX1_allBytes_4 : decode cX1_allBytes 4 = .ok (.ireturn, 1) := by decide +kernel
set_option maxRecDepth 20000 in
theorem ggX1_whichAt_X1_isKept : GoodIn wsX1_whichAt wsX1_isKept := goodIn_r _ [6, 7, 8, 9, 10, 11] (by decide +kernel) (by decide +kernel)
set_option maxRecDepth 20000 in
theorem gX1_whichAt_X1_isKept : GoodIn wsX1_whichAt (wsV RX1 25 RX1 yX1_isKept wsX1_isKept) := goodIn_app (goodIn_of _ (by decide +kernel)) ggX1_whichAt_X1_isKept
theorem dX1_whichAt_0 : decode cX1_whichAt 0 = .ok (.aload_n 0, 1) := by decide +kernel
theorem dX1_whichAt_1 : decode cX1_whichAt 1 = .ok (.iload_n 1, 1) := by decide +kernel
theorem dX1_whichAt_2 : decode cX1_whichAt 2 = .ok (.invokevirtual 25, 3) := by decide +kernel
theorem dX1_whichAt_5 : decode cX1_whichAt 5 = .ok (.ifCond .eq 12, 3) := by decide +kernel
theorem dX1_whichAt_8 : decode cX1_whichAt 8 = .ok (.aload_n 0, 1) := by decide +kernel
theorem dX1_whichAt_9 : decode cX1_whichAt 9 = .ok (.getfield 9, 3) := by decide +kernel
theorem dX1_whichAt_12 : decode cX1_whichAt 12 = .ok (.iload_n 1, 1) := by decide +kernel
theorem dX1_whichAt_13 : decode cX1_whichAt 13 = .ok (.iaload, 1) := by decide +kernel
theorem dX1_whichAt_14 : decode cX1_whichAt 14 = .ok (.goto 4, 3) := by decide +kernel
theorem dX1_whichAt_17 : decode cX1_whichAt 17 = .ok (.iconst (-1), 1) := by decide +kernel
theorem dX1_whichAt_18 : decode cX1_whichAt 18 = .ok (.ireturn, 1) := by decide +kernel
set_option maxRecDepth 20000 in
theorem ggX1_bytesAt_X1_isKept : GoodIn wsX1_bytesAt wsX1_isKept := goodIn_r _ [6, 7, 8, 9, 10, 11] (by decide +kernel) (by decide +kernel)
set_option maxRecDepth 20000 in
theorem gX1_bytesAt_X1_isKept : GoodIn wsX1_bytesAt (wsV RX1 25 RX1 yX1_isKept wsX1_isKept) := goodIn_app (goodIn_of _ (by decide +kernel)) ggX1_bytesAt_X1_isKept
theorem dX1_bytesAt_0 : decode cX1_bytesAt 0 = .ok (.aload_n 0, 1) := by decide +kernel
theorem dX1_bytesAt_1 : decode cX1_bytesAt 1 = .ok (.iload_n 1, 1) := by decide +kernel
theorem dX1_bytesAt_2 : decode cX1_bytesAt 2 = .ok (.invokevirtual 25, 3) := by decide +kernel
theorem dX1_bytesAt_5 : decode cX1_bytesAt 5 = .ok (.ifCond .eq 12, 3) := by decide +kernel
theorem dX1_bytesAt_8 : decode cX1_bytesAt 8 = .ok (.aload_n 0, 1) := by decide +kernel
theorem dX1_bytesAt_9 : decode cX1_bytesAt 9 = .ok (.getfield 15, 3) := by decide +kernel
theorem dX1_bytesAt_12 : decode cX1_bytesAt 12 = .ok (.iload_n 1, 1) := by decide +kernel
theorem dX1_bytesAt_13 : decode cX1_bytesAt 13 = .ok (.iaload, 1) := by decide +kernel
theorem dX1_bytesAt_14 : decode cX1_bytesAt 14 = .ok (.goto 4, 3) := by decide +kernel
theorem dX1_bytesAt_17 : decode cX1_bytesAt 17 = .ok (.iconst (-1), 1) := by decide +kernel
theorem dX1_bytesAt_18 : decode cX1_bytesAt 18 = .ok (.ireturn, 1) := by decide +kernel
theorem dX1_isKept_0 : decode cX1_isKept 0 = .ok (.iload_n 1, 1) := by decide +kernel
theorem dX1_isKept_1 : decode cX1_isKept 1 = .ok (.ifCond .lt 21, 3) := by decide +kernel
theorem dX1_isKept_4 : decode cX1_isKept 4 = .ok (.iload_n 1, 1) := by decide +kernel
theorem dX1_isKept_5 : decode cX1_isKept 5 = .ok (.aload_n 0, 1) := by decide +kernel
theorem dX1_isKept_6 : decode cX1_isKept 6 = .ok (.getfield 18, 3) := by decide +kernel
theorem dX1_isKept_9 : decode cX1_isKept 9 = .ok (.if_icmp .ge 13, 3) := by decide +kernel
theorem dX1_isKept_12 : decode cX1_isKept 12 = .ok (.iload_n 1, 1) := by decide +kernel
theorem dX1_isKept_13 : decode cX1_isKept 13 = .ok (.bipush 100, 2) := by decide +kernel
theorem dX1_isKept_15 : decode cX1_isKept 15 = .ok (.if_icmp .ge 7, 3) := by decide +kernel
theorem dX1_isKept_18 : decode cX1_isKept 18 = .ok (.iconst 1, 1) := by decide +kernel
theorem dX1_isKept_19 : decode cX1_isKept 19 = .ok (.goto 4, 3) := by decide +kernel
theorem dX1_isKept_22 : decode cX1_isKept 22 = .ok (.iconst 0, 1) := by decide +kernel
theorem dX1_isKept_23 : decode cX1_isKept 23 = .ok (.ireturn, 1) := by decide +kernel
end
section
set_option maxRecDepth 20000 in
theorem ggX2_init_X1_init : GoodIn wsX2_init wsX1_init := goodIn_r _ [21, 22, 2, 3, 23, 24, 25, 26, 27, 35, 36, 37, 38] (by decide +kernel) (by decide +kernel)
set_option maxRecDepth 20000 in
theorem gX2_init_X1_init_n11 : GoodIn wsX2_init (wsX1_init) := ggX2_init_X1_init
set_option maxRecDepth 20000 in
theorem ggX2_init_X3_init : GoodIn wsX2_init wsX3_init := goodIn_r _ [30, 31, 2, 3, 32, 33, 34, 49, 50] (by decide +kernel) (by decide +kernel)
set_option maxRecDepth 20000 in
theorem gX2_init_X3_init : GoodIn wsX2_init (wsX3_init) := ggX2_init_X3_init
theorem dX2_init_0 : decode cX2_init 0 = .ok (.aload_n 0, 1) := by decide +kernel
theorem dX2_init_1 : decode cX2_init 1 = .ok (.invokespecial 3, 3) := by decide +kernel
theorem dX2_init_4 : decode cX2_init 4 = .ok (.aload_n 0, 1) := by decide +kernel
theorem dX2_init_5 : decode cX2_init 5 = .ok (.new 9, 3) := by decide +kernel
theorem dX2_init_8 : decode cX2_init 8 = .ok (.dup, 1) := by decide +kernel
theorem dX2_init_9 : decode cX2_init 9 = .ok (.invokespecial 11, 3) := by decide +kernel
theorem dX2_init_12 : decode cX2_init 12 = .ok (.putfield 12, 3) := by decide +kernel
theorem dX2_init_15 : decode cX2_init 15 = .ok (.aload_n 0, 1) := by decide +kernel
theorem dX2_init_16 : decode cX2_init 16 = .ok (.new 18, 3) := by decide +kernel
theorem dX2_init_19 : decode cX2_init 19 = .ok (.dup, 1) := by decide +kernel
theorem dX2_init_20 : decode cX2_init 20 = .ok (.sipush 4096, 3) := by decide +kernel
theorem dX2_init_23 : decode cX2_init 23 = .ok (.invokespecial 20, 3) := by decide +kernel
theorem dX2_init_26 : decode cX2_init 26 = .ok (.putfield 23, 3) := by decide +kernel
theorem dX2_init_29 : decode cX2_init 29 = .ok (.aload_n 0, 1) := by decide +kernel
theorem dX2_init_30 : decode cX2_init 30 = .ok (.iconst (-1), 1) := by decide +kernel
theorem dX2_init_31 : decode cX2_init 31 = .ok (.putfield 27, 3) := by decide +kernel
theorem dX2_init_34 : decode cX2_init 34 = .ok (.aload_n 0, 1) := by decide +kernel
theorem dX2_init_35 : decode cX2_init 35 = .ok (.iconst 0, 1) := by decide +kernel
theorem dX2_init_36 : decode cX2_init 36 = .ok (.putfield 31, 3) := by decide +kernel
theorem dX2_init_39 : decode cX2_init 39 = .ok (.aload_n 0, 1) := by decide +kernel
theorem dX2_init_40 : decode cX2_init 40 = .ok (.iconst 0, 1) := by decide +kernel
theorem dX2_init_41 : decode cX2_init 41 = .ok (.putfield 35, 3) := by decide +kernel
theorem dX2_init_44 : decode cX2_init 44 = .ok (.aload_n 0, 1) := by decide +kernel
theorem dX2_init_45 : decode cX2_init 45 = .ok (.iconst 0, 1) := by decide +kernel
theorem dX2_init_46 : decode cX2_init 46 = .ok (.putfield 38, 3) := by decide +kernel
theorem dX2_init_49 : decode cX2_init 49 = .ok (.aload_n 0, 1) := by decide +kernel
theorem dX2_init_50 : decode cX2_init 50 = .ok (.iconst 0, 1) := by decide +kernel
theorem dX2_init_51 : decode cX2_init 51 = .ok (.putfield 41, 3) := by decide +kernel
theorem dX2_init_54 : decode cX2_init 54 = .ok (.aload_n 0, 1) := by decide +kernel
theorem dX2_init_55 : decode cX2_init 55 = .ok (.iconst 0, 1) := by decide +kernel
theorem dX2_init_56 : decode cX2_init 56 = .ok (.putfield 44, 3) := by decide +kernel
theorem dX2_init_59 : decode cX2_init 59 = .ok (.aload_n 0, 1) := by decide +kernel
theorem dX2_init_60 : decode cX2_init 60 = .ok (.iconst 0, 1) := by decide +kernel
theorem dX2_init_61 : decode cX2_init 61 = .ok (.putfield 47, 3) := by decide +kernel
theorem dX2_init_64 : decode cX2_init 64 = .ok (.aload_n 0, 1) := by decide +kernel
theorem dX2_init_65 : decode cX2_init 65 = .ok (.aload_n 1, 1) := by decide +kernel
theorem dX2_init_66 : decode cX2_init 66 = .ok (.putfield 50, 3) := by decide +kernel
theorem dX2_init_69 : decode cX2_init 69 = .ok (.return_, 1) := by decide +kernel
theorem dX2_place_0 : decode cX2_place 0 = .ok (.aload_n 0, 1) := by decide +kernel
theorem dX2_place_1 : decode cX2_place 1 = .ok (.getfield 35, 3) := by decide +kernel
theorem dX2_place_4 : decode cX2_place 4 = .ok (.ireturn, 1) := by decide +kernel
theorem dX2_isLost_0 : decode cX2_isLost 0 = .ok (.aload_n 0, 1) := by decide +kernel
theorem dX2_isLost_1 : decode cX2_isLost 1 = .ok (.getfield 41, 3) := by decide +kernel
theorem dX2_isLost_4 : decode cX2_isLost 4 = .ok (.ireturn, 1) := by decide +kernel
theorem dX2_drops_0 : decode cX2_drops 0 = .ok (.aload_n 0, 1) := by decide +kernel
theorem dX2_drops_1 : decode cX2_drops 1 = .ok (.getfield 12, 3) := by decide +kernel
theorem dX2_drops_4 : decode cX2_drops 4 = .ok (.areturn, 1) := by decide +kernel
theorem dX2_record_0 : decode cX2_record 0 = .ok (.aload_n 0, 1) := by decide +kernel
theorem dX2_record_1 : decode cX2_record 1 = .ok (.getfield 23, 3) := by decide +kernel
theorem dX2_record_4 : decode cX2_record 4 = .ok (.areturn, 1) := by decide +kernel
theorem dX2_recordPlace_0 : decode cX2_recordPlace 0 = .ok (.aload_n 0, 1) := by decide +kernel
theorem dX2_recordPlace_1 : decode cX2_recordPlace 1 = .ok (.getfield 27, 3) := by decide +kernel
theorem dX2_recordPlace_4 : decode cX2_recordPlace 4 = .ok (.ireturn, 1) := by decide +kernel
set_option maxRecDepth 20000 in
theorem ggX2_beginAt_X0_endOfBlock : GoodIn wsX2_beginAt wsX0_endOfBlock := goodIn_r _ [10, 11, 12, 13, 14, 9, 15, 34, 35] (by decide +kernel) (by decide +kernel)
set_option maxRecDepth 20000 in
theorem gX2_beginAt_X0_endOfBlock : GoodIn wsX2_beginAt (wsV RX2 54 RX0 yX0_endOfBlock wsX0_endOfBlock) := goodIn_app (goodIn_of _ (by decide +kernel)) ggX2_beginAt_X0_endOfBlock
set_option maxRecDepth 20000 in
theorem ggX2_beginAt_X0_startOfBlock : GoodIn wsX2_beginAt wsX0_startOfBlock := goodIn_r _ [15, 11, 34, 35] (by decide +kernel) (by decide +kernel)
set_option maxRecDepth 20000 in
theorem gX2_beginAt_X0_startOfBlock : GoodIn wsX2_beginAt (wsV RX2 60 RX0 yX0_startOfBlock wsX0_startOfBlock) := goodIn_app (goodIn_of _ (by decide +kernel)) ggX2_beginAt_X0_startOfBlock
set_option maxRecDepth 20000 in
theorem ggX2_beginAt_X1_forget : GoodIn wsX2_beginAt wsX1_forget := goodIn_r _ [21, 22, 23, 36, 37, 38, 39] (by decide +kernel) (by decide +kernel)
set_option maxRecDepth 20000 in
theorem gX2_beginAt_X1_forget : GoodIn wsX2_beginAt (wsV RX2 63 RX1 yX1_forget wsX1_forget) := goodIn_app (goodIn_of _ (by decide +kernel)) ggX2_beginAt_X1_forget
theorem dX2_beginAt_0 : decode cX2_beginAt 0 = .ok (.aload_n 0, 1) := by decide +kernel
theorem dX2_beginAt_1 : decode cX2_beginAt 1 = .ok (.getfield 50, 3) := by decide +kernel
theorem dX2_beginAt_4 : decode cX2_beginAt 4 = .ok (.iload_n 1, 1) := by decide +kernel
theorem dX2_beginAt_5 : decode cX2_beginAt 5 = .ok (.invokevirtual 54, 3) := by decide +kernel
theorem dX2_beginAt_8 : decode cX2_beginAt 8 = .ok (.iload_n 1, 1) := by decide +kernel
theorem dX2_beginAt_9 : decode cX2_beginAt 9 = .ok (.isub, 1) := by decide +kernel
theorem dX2_beginAt_10 : decode cX2_beginAt 10 = .ok (.istore_n 2, 1) := by decide +kernel
theorem dX2_beginAt_11 : decode cX2_beginAt 11 = .ok (.aload_n 0, 1) := by decide +kernel
theorem dX2_beginAt_12 : decode cX2_beginAt 12 = .ok (.iload_n 2, 1) := by decide +kernel
theorem dX2_beginAt_13 : decode cX2_beginAt 13 = .ok (.bipush 7, 2) := by decide +kernel
theorem dX2_beginAt_15 : decode cX2_beginAt 15 = .ok (.if_icmp .ge 14, 3) := by decide +kernel
theorem dX2_beginAt_18 : decode cX2_beginAt 18 = .ok (.aload_n 0, 1) := by decide +kernel
theorem dX2_beginAt_19 : decode cX2_beginAt 19 = .ok (.getfield 50, 3) := by decide +kernel
theorem dX2_beginAt_22 : decode cX2_beginAt 22 = .ok (.iload_n 1, 1) := by decide +kernel
theorem dX2_beginAt_23 : decode cX2_beginAt 23 = .ok (.invokevirtual 54, 3) := by decide +kernel
theorem dX2_beginAt_26 : decode cX2_beginAt 26 = .ok (.goto 11, 3) := by decide +kernel
theorem dX2_beginAt_29 : decode cX2_beginAt 29 = .ok (.aload_n 0, 1) := by decide +kernel
theorem dX2_beginAt_30 : decode cX2_beginAt 30 = .ok (.getfield 50, 3) := by decide +kernel
theorem dX2_beginAt_33 : decode cX2_beginAt 33 = .ok (.iload_n 1, 1) := by decide +kernel
theorem dX2_beginAt_34 : decode cX2_beginAt 34 = .ok (.invokevirtual 60, 3) := by decide +kernel
theorem dX2_beginAt_37 : decode cX2_beginAt 37 = .ok (.putfield 35, 3) := by decide +kernel
theorem dX2_beginAt_40 : decode cX2_beginAt 40 = .ok (.aload_n 0, 1) := by decide +kernel
theorem dX2_beginAt_41 : decode cX2_beginAt 41 = .ok (.iload_n 1, 1) := by decide +kernel
theorem dX2_beginAt_42 : decode cX2_beginAt 42 = .ok (.putfield 38, 3) := by decide +kernel
theorem dX2_beginAt_45 : decode cX2_beginAt 45 = .ok (.aload_n 0, 1) := by decide +kernel
theorem dX2_beginAt_46 : decode cX2_beginAt 46 = .ok (.iload_n 1, 1) := by decide +kernel
theorem dX2_beginAt_47 : decode cX2_beginAt 47 = .ok (.ifCond .le 7, 3) := by decide +kernel
theorem dX2_beginAt_50 : decode cX2_beginAt 50 = .ok (.iconst 1, 1) := by decide +kernel
theorem dX2_beginAt_51 : decode cX2_beginAt 51 = .ok (.goto 4, 3) := by decide +kernel
theorem dX2_beginAt_54 : decode cX2_beginAt 54 = .ok (.iconst 0, 1) := by decide +kernel
theorem dX2_beginAt_55 : decode cX2_beginAt 55 = .ok (.putfield 41, 3) := by decide +kernel
theorem dX2_beginAt_58 : decode cX2_beginAt 58 = .ok (.aload_n 0, 1) := by decide +kernel
theorem dX2_beginAt_59 : decode cX2_beginAt 59 = .ok (.getfield 12, 3) := by decide +kernel
theorem dX2_beginAt_62 : decode cX2_beginAt 62 = .ok (.invokevirtual 63, 3) := by decide +kernel
theorem dX2_beginAt_65 : decode cX2_beginAt 65 = .ok (.return_, 1) := by decide +kernel
set_option maxRecDepth 20000 in
theorem ggX2_findRecord_X2_dropRecord : GoodIn wsX2_findRecord wsX2_dropRecord := goodIn_r _ [5, 6, 7, 8, 9, 10, 11, 12, 13, 14, 128, 129, 130, 131, 132, 133, 134, 135, 136, 137, 138, 139] (by decide +kernel) (by decide +kernel)
set_option maxRecDepth 20000 in
theorem gX2_findRecord_X2_dropRecord : GoodIn wsX2_findRecord (wsV RX2 66 RX2 yX2_dropRecord wsX2_dropRecord) := goodIn_app (goodIn_of _ (by decide +kernel)) ggX2_findRecord_X2_dropRecord
set_option maxRecDepth 20000 in
theorem ggX2_findRecord_X2_nextBit : GoodIn wsX2_findRecord wsX2_nextBit := goodIn_r _ [18, 19, 20, 21, 22, 23, 24, 25, 26, 27, 28, 29, 30, 31, 32, 33, 34, 35, 36, 37, 38, 39, 40, 41, 42, 43, 44, 45, 12, 46, 14, 47, 48, 49, 50, 51, 52, 53, 54, 55, 56, 57, 58, 59, 60, 61, 62, 63, 64, 65, 66, 67, 68, 4, 69, 70, 71, 72, 73, 74, 75, 76, 77, 78, 79, 80, 81, 82, 83, 84, 85, 86, 87, 88, 89, 90, 91, 92, 93, 128, 129, 130, 131, 132, 133, 134, 135, 136, 137, 140, 141, 138, 139, 142, 143, 144, 145] (by decide +kernel) (by decide +kernel)
set_option maxRecDepth 20000 in
theorem gX2_findRecord_X2_nextBit : GoodIn wsX2_findRecord (wsV RX2 69 RX2 yX2_nextBit wsX2_nextBit) := goodIn_app (goodIn_of _ (by decide +kernel)) ggX2_findRecord_X2_nextBit
set_option maxRecDepth 20000 in
theorem ggX2_findRecord_X2_tear : GoodIn wsX2_findRecord wsX2_tear := goodIn_r _ [97, 8, 70, 6, 98, 44, 45, 12, 46, 14, 71, 72, 73, 74, 75, 76, 77, 78, 79, 1, 2, 3, 4, 5, 7, 9, 10, 11, 13, 128, 129, 130, 131, 132, 133, 134, 135, 136, 137, 138, 139, 142, 143, 144, 145] (by decide +kernel) (by decide +kernel)
set_option maxRecDepth 20000 in
theorem gX2_findRecord_X2_tear : GoodIn wsX2_findRecord (wsV RX2 73 RX2 yX2_tear wsX2_tear) := goodIn_app (goodIn_of _ (by decide +kernel)) ggX2_findRecord_X2_tear
set_option maxRecDepth 20000 in
theorem ggX2_findRecord_X2_passesOver : GoodIn wsX2_findRecord wsX2_passesOver := goodIn_r _ [102, 103, 128, 129, 130, 131, 132, 133, 134, 135, 136, 137] (by decide +kernel) (by decide +kernel)
set_option maxRecDepth 20000 in
theorem gX2_findRecord_X2_passesOver : GoodIn wsX2_findRecord (wsV RX2 76 RX2 yX2_passesOver wsX2_passesOver) := goodIn_app (goodIn_of _ (by decide +kernel)) ggX2_findRecord_X2_passesOver
set_option maxRecDepth 20000 in
theorem ggX2_findRecord_X2_takeFragment : GoodIn wsX2_findRecord wsX2_takeFragment := goodIn_r _ [107, 70, 22, 6, 108, 109, 110, 4, 111, 21, 7, 8, 98, 44, 45, 12, 46, 14, 71, 72, 73, 74, 75, 76, 77, 78, 79, 1, 2, 3, 5, 9, 10, 11, 13, 112, 113, 114, 115, 19, 52, 53, 54, 27, 55, 29, 116, 117, 118, 119, 60, 61, 62, 63, 64, 120, 121, 122, 123, 124, 125, 126, 127, 128, 129, 130, 131, 132, 133, 134, 135, 136, 137, 138, 139, 142, 143, 144, 145, 140, 141] (by decide +kernel) (by decide +kernel)
set_option maxRecDepth 20000 in
theorem gX2_findRecord_X2_takeFragment : GoodIn wsX2_findRecord (wsV RX2 80 RX2 yX2_takeFragment wsX2_takeFragment) := goodIn_app (goodIn_of _ (by decide +kernel)) ggX2_findRecord_X2_takeFragment
theorem dX2_findRecord_0 : decode cX2_findRecord 0 = .ok (.aload_n 0, 1) := by decide +kernel
theorem dX2_findRecord_1 : decode cX2_findRecord 1 = .ok (.invokevirtual 66, 3) := by decide +kernel
theorem dX2_findRecord_4 : decode cX2_findRecord 4 = .ok (.iconst 0, 1) := by decide +kernel
theorem dX2_findRecord_5 : decode cX2_findRecord 5 = .ok (.istore_n 1, 1) := by decide +kernel
theorem dX2_findRecord_6 : decode cX2_findRecord 6 = .ok (.iload_n 1, 1) := by decide +kernel
theorem dX2_findRecord_7 : decode cX2_findRecord 7 = .ok (.sipush 4096, 3) := by decide +kernel
theorem dX2_findRecord_10 : decode cX2_findRecord 10 = .ok (.if_icmp .gt 56, 3) := by decide +kernel
theorem dX2_findRecord_13 : decode cX2_findRecord 13 = .ok (.aload_n 0, 1) := by decide +kernel
theorem dX2_findRecord_14 : decode cX2_findRecord 14 = .ok (.invokevirtual 69, 3) := by decide +kernel
theorem dX2_findRecord_17 : decode cX2_findRecord 17 = .ok (.istore_n 2, 1) := by decide +kernel
theorem dX2_findRecord_18 : decode cX2_findRecord 18 = .ok (.iload_n 2, 1) := by decide +kernel
theorem dX2_findRecord_19 : decode cX2_findRecord 19 = .ok (.sipush 256, 3) := by decide +kernel
theorem dX2_findRecord_22 : decode cX2_findRecord 22 = .ok (.if_icmp .ne 6, 3) := by decide +kernel
theorem dX2_findRecord_25 : decode cX2_findRecord 25 = .ok (.goto 41, 3) := by decide +kernel
theorem dX2_findRecord_28 : decode cX2_findRecord 28 = .ok (.iload_n 2, 1) := by decide +kernel
theorem dX2_findRecord_29 : decode cX2_findRecord 29 = .ok (.sipush 257, 3) := by decide +kernel
theorem dX2_findRecord_32 : decode cX2_findRecord 32 = .ok (.if_icmp .ne 10, 3) := by decide +kernel
theorem dX2_findRecord_35 : decode cX2_findRecord 35 = .ok (.aload_n 0, 1) := by decide +kernel
theorem dX2_findRecord_36 : decode cX2_findRecord 36 = .ok (.invokevirtual 73, 3) := by decide +kernel
theorem dX2_findRecord_39 : decode cX2_findRecord 39 = .ok (.goto 21, 3) := by decide +kernel
theorem dX2_findRecord_42 : decode cX2_findRecord 42 = .ok (.aload_n 0, 1) := by decide +kernel
theorem dX2_findRecord_43 : decode cX2_findRecord 43 = .ok (.iload_n 2, 1) := by decide +kernel
theorem dX2_findRecord_44 : decode cX2_findRecord 44 = .ok (.invokevirtual 76, 3) := by decide +kernel
theorem dX2_findRecord_47 : decode cX2_findRecord 47 = .ok (.ifCond .ne 13, 3) := by decide +kernel
theorem dX2_findRecord_50 : decode cX2_findRecord 50 = .ok (.aload_n 0, 1) := by decide +kernel
theorem dX2_findRecord_51 : decode cX2_findRecord 51 = .ok (.iload_n 2, 1) := by decide +kernel
theorem dX2_findRecord_52 : decode cX2_findRecord 52 = .ok (.invokevirtual 80, 3) := by decide +kernel
theorem dX2_findRecord_55 : decode cX2_findRecord 55 = .ok (.ifCond .eq 5, 3) := by decide +kernel
theorem dX2_findRecord_58 : decode cX2_findRecord 58 = .ok (.iconst 1, 1) := by decide +kernel
theorem dX2_findRecord_59 : decode cX2_findRecord 59 = .ok (.ireturn, 1) := by decide +kernel
theorem dX2_findRecord_60 : decode cX2_findRecord 60 = .ok (.iinc 1 1, 3) := by decide +kernel
theorem dX2_findRecord_63 : decode cX2_findRecord 63 = .ok (.goto (-57), 3) := by decide +kernel
theorem dX2_findRecord_66 : decode cX2_findRecord 66 = .ok (.aload_n 0, 1) := by decide +kernel
theorem dX2_findRecord_67 : decode cX2_findRecord 67 = .ok (.invokevirtual 66, 3) := by decide +kernel
theorem dX2_findRecord_70 : decode cX2_findRecord 70 = .ok (.iconst 0, 1) := by decide +kernel
theorem dX2_findRecord_71 : decode cX2_findRecord 71 = .ok (.ireturn, 1) := by decide +kernel
set_option maxRecDepth 20000 in
theorem ggX2_nextBit_X0_leftInBlock : GoodIn wsX2_nextBit wsX0_leftInBlock := goodIn_r _ [10, 11, 12, 13, 14, 15, 16, 17, 18, 9, 19, 20, 21, 22, 23, 24, 25, 26, 27, 28, 29, 30, 89, 90, 91, 92] (by decide +kernel) (by decide +kernel)
set_option maxRecDepth 20000 in
theorem gX2_nextBit_X0_leftInBlock : GoodIn wsX2_nextBit (wsV RX2 83 RX0 yX0_leftInBlock wsX0_leftInBlock) := goodIn_app (goodIn_of _ (by decide +kernel)) ggX2_nextBit_X0_leftInBlock
set_option maxRecDepth 20000 in
theorem ggX2_nextBit_X0_isWhole : GoodIn wsX2_nextBit wsX0_isWhole := goodIn_r _ [34, 11, 16, 17, 18, 9, 19, 20, 21, 22, 23, 24, 25, 26, 27, 28, 29, 30, 89, 90, 91, 92] (by decide +kernel) (by decide +kernel)
set_option maxRecDepth 20000 in
theorem gX2_nextBit_X0_isWhole : GoodIn wsX2_nextBit (wsV RX2 86 RX0 yX0_isWhole wsX0_isWhole) := goodIn_app (goodIn_of _ (by decide +kernel)) ggX2_nextBit_X0_isWhole
set_option maxRecDepth 20000 in
theorem ggX2_nextBit_X0_endOfBlock : GoodIn wsX2_nextBit wsX0_endOfBlock := goodIn_r _ [19, 20, 21, 22, 23, 9, 24, 89, 90] (by decide +kernel) (by decide +kernel)
set_option maxRecDepth 20000 in
theorem gX2_nextBit_X0_endOfBlock : GoodIn wsX2_nextBit (wsV RX2 54 RX0 yX0_endOfBlock wsX0_endOfBlock) := goodIn_app (goodIn_of _ (by decide +kernel)) ggX2_nextBit_X0_endOfBlock
set_option maxRecDepth 20000 in
theorem ggX2_nextBit_X0_bytes : GoodIn wsX2_nextBit wsX0_bytes := goodIn_r _ [39, 11, 89, 90] (by decide +kernel) (by decide +kernel)
set_option maxRecDepth 20000 in
theorem gX2_nextBit_X0_bytes : GoodIn wsX2_nextBit (wsV RX2 89 RX0 yX0_bytes wsX0_bytes) := goodIn_app (goodIn_of _ (by decide +kernel)) ggX2_nextBit_X0_bytes
set_option maxRecDepth 20000 in
theorem ggX2_nextBit_X3_numberLowestFirst : GoodIn wsX2_nextBit wsX3_numberLowestFirst := goodIn_r _ [43, 44, 45, 46, 28, 47, 30, 48, 91, 92] (by decide +kernel) (by decide +kernel)
set_option maxRecDepth 20000 in
theorem gX2_nextBit_X3_numberLowestFirst : GoodIn wsX2_nextBit (wsV RX2 93 RX3 yX3_numberLowestFirst wsX3_numberLowestFirst) := goodIn_app (goodIn_of _ (by decide +kernel)) ggX2_nextBit_X3_numberLowestFirst
set_option maxRecDepth 20000 in
theorem ggX2_nextBit_X3_at : GoodIn wsX2_nextBit wsX3_at := goodIn_r _ [47, 30, 48, 91, 92] (by decide +kernel) (by decide +kernel)
set_option maxRecDepth 20000 in
theorem gX2_nextBit_X3_at : GoodIn wsX2_nextBit (wsV RX2 97 RX3 yX3_at wsX3_at) := goodIn_app (goodIn_of _ (by decide +kernel)) ggX2_nextBit_X3_at
set_option maxRecDepth 20000 in
theorem ggX2_nextBit_X2_breakBlock : GoodIn wsX2_nextBit wsX2_breakBlock := goodIn_r _ [54, 55, 2, 56, 57, 58, 59, 60, 61, 62, 63, 64, 79, 80, 81, 82, 83, 84, 85, 86, 87, 88, 93, 94, 95, 96] (by decide +kernel) (by decide +kernel)
set_option maxRecDepth 20000 in
theorem gX2_nextBit_X2_breakBlock : GoodIn wsX2_nextBit (wsV RX2 100 RX2 yX2_breakBlock wsX2_breakBlock) := goodIn_app (goodIn_of _ (by decide +kernel)) ggX2_nextBit_X2_breakBlock
set_option maxRecDepth 20000 in
theorem ggX2_nextBit_X2_isCheckRight : GoodIn wsX2_nextBit wsX2_isCheckRight := goodIn_r _ [68, 1, 2, 36, 37, 38, 9, 39, 11, 40, 41, 42, 28, 43, 44, 45, 46, 47, 30, 48, 69, 70, 71, 72, 73, 74, 75, 76, 77, 78, 79, 80, 81, 82, 83, 84, 85, 86, 87, 88, 89, 90, 91, 92] (by decide +kernel) (by decide +kernel)
set_option maxRecDepth 20000 in
theorem gX2_nextBit_X2_isCheckRight : GoodIn wsX2_nextBit (wsV RX2 103 RX2 yX2_isCheckRight wsX2_isCheckRight) := goodIn_app (goodIn_of _ (by decide +kernel)) ggX2_nextBit_X2_isCheckRight
theorem dX2_nextBit_0 : decode cX2_nextBit 0 = .ok (.aload_n 0, 1) := by decide +kernel
theorem dX2_nextBit_1 : decode cX2_nextBit 1 = .ok (.getfield 50, 3) := by decide +kernel
theorem dX2_nextBit_4 : decode cX2_nextBit 4 = .ok (.aload_n 0, 1) := by decide +kernel
theorem dX2_nextBit_5 : decode cX2_nextBit 5 = .ok (.getfield 35, 3) := by decide +kernel
theorem dX2_nextBit_8 : decode cX2_nextBit 8 = .ok (.invokevirtual 83, 3) := by decide +kernel
theorem dX2_nextBit_11 : decode cX2_nextBit 11 = .ok (.bipush 7, 2) := by decide +kernel
theorem dX2_nextBit_13 : decode cX2_nextBit 13 = .ok (.if_icmp .ge 32, 3) := by decide +kernel
theorem dX2_nextBit_16 : decode cX2_nextBit 16 = .ok (.aload_n 0, 1) := by decide +kernel
theorem dX2_nextBit_17 : decode cX2_nextBit 17 = .ok (.getfield 50, 3) := by decide +kernel
theorem dX2_nextBit_20 : decode cX2_nextBit 20 = .ok (.aload_n 0, 1) := by decide +kernel
theorem dX2_nextBit_21 : decode cX2_nextBit 21 = .ok (.getfield 35, 3) := by decide +kernel
theorem dX2_nextBit_24 : decode cX2_nextBit 24 = .ok (.invokevirtual 86, 3) := by decide +kernel
theorem dX2_nextBit_27 : decode cX2_nextBit 27 = .ok (.ifCond .eq 18, 3) := by decide +kernel
theorem dX2_nextBit_30 : decode cX2_nextBit 30 = .ok (.aload_n 0, 1) := by decide +kernel
theorem dX2_nextBit_31 : decode cX2_nextBit 31 = .ok (.aload_n 0, 1) := by decide +kernel
theorem dX2_nextBit_32 : decode cX2_nextBit 32 = .ok (.getfield 50, 3) := by decide +kernel
theorem dX2_nextBit_35 : decode cX2_nextBit 35 = .ok (.aload_n 0, 1) := by decide +kernel
theorem dX2_nextBit_36 : decode cX2_nextBit 36 = .ok (.getfield 35, 3) := by decide +kernel
theorem dX2_nextBit_39 : decode cX2_nextBit 39 = .ok (.invokevirtual 54, 3) := by decide +kernel
theorem dX2_nextBit_42 : decode cX2_nextBit 42 = .ok (.putfield 35, 3) := by decide +kernel
theorem dX2_nextBit_45 : decode cX2_nextBit 45 = .ok (.aload_n 0, 1) := by decide +kernel
theorem dX2_nextBit_46 : decode cX2_nextBit 46 = .ok (.getfield 50, 3) := by decide +kernel
theorem dX2_nextBit_49 : decode cX2_nextBit 49 = .ok (.aload_n 0, 1) := by decide +kernel
theorem dX2_nextBit_50 : decode cX2_nextBit 50 = .ok (.getfield 35, 3) := by decide +kernel
theorem dX2_nextBit_53 : decode cX2_nextBit 53 = .ok (.invokevirtual 83, 3) := by decide +kernel
theorem dX2_nextBit_56 : decode cX2_nextBit 56 = .ok (.istore_n 1, 1) := by decide +kernel
theorem dX2_nextBit_57 : decode cX2_nextBit 57 = .ok (.iload_n 1, 1) := by decide +kernel
theorem dX2_nextBit_58 : decode cX2_nextBit 58 = .ok (.bipush 7, 2) := by decide +kernel
theorem dX2_nextBit_60 : decode cX2_nextBit 60 = .ok (.if_icmp .ge 7, 3) := by decide +kernel
theorem dX2_nextBit_63 : decode cX2_nextBit 63 = .ok (.sipush 256, 3) := by decide +kernel
theorem dX2_nextBit_66 : decode cX2_nextBit 66 = .ok (.ireturn, 1) := by decide +kernel
theorem dX2_nextBit_67 : decode cX2_nextBit 67 = .ok (.aload_n 0, 1) := by decide +kernel
theorem dX2_nextBit_68 : decode cX2_nextBit 68 = .ok (.getfield 50, 3) := by decide +kernel
theorem dX2_nextBit_71 : decode cX2_nextBit 71 = .ok (.invokevirtual 89, 3) := by decide +kernel
theorem dX2_nextBit_74 : decode cX2_nextBit 74 = .ok (.aload_n 0, 1) := by decide +kernel
theorem dX2_nextBit_75 : decode cX2_nextBit 75 = .ok (.getfield 35, 3) := by decide +kernel
theorem dX2_nextBit_78 : decode cX2_nextBit 78 = .ok (.iconst 4, 1) := by decide +kernel
theorem dX2_nextBit_79 : decode cX2_nextBit 79 = .ok (.iadd, 1) := by decide +kernel
theorem dX2_nextBit_80 : decode cX2_nextBit 80 = .ok (.iconst 2, 1) := by decide +kernel
theorem dX2_nextBit_81 : decode cX2_nextBit 81 = .ok (.invokevirtual 93, 3) := by decide +kernel
theorem dX2_nextBit_84 : decode cX2_nextBit 84 = .ok (.istore_n 2, 1) := by decide +kernel
theorem dX2_nextBit_85 : decode cX2_nextBit 85 = .ok (.aload_n 0, 1) := by decide +kernel
theorem dX2_nextBit_86 : decode cX2_nextBit 86 = .ok (.getfield 50, 3) := by decide +kernel
theorem dX2_nextBit_89 : decode cX2_nextBit 89 = .ok (.invokevirtual 89, 3) := by decide +kernel
theorem dX2_nextBit_92 : decode cX2_nextBit 92 = .ok (.aload_n 0, 1) := by decide +kernel
theorem dX2_nextBit_93 : decode cX2_nextBit 93 = .ok (.getfield 35, 3) := by decide +kernel
theorem dX2_nextBit_96 : decode cX2_nextBit 96 = .ok (.bipush 7, 2) := by decide +kernel
theorem dX2_nextBit_98 : decode cX2_nextBit 98 = .ok (.iadd, 1) := by decide +kernel
theorem dX2_nextBit_99 : decode cX2_nextBit 99 = .ok (.iconst 1, 1) := by decide +kernel
theorem dX2_nextBit_100 : decode cX2_nextBit 100 = .ok (.isub, 1) := by decide +kernel
theorem dX2_nextBit_101 : decode cX2_nextBit 101 = .ok (.invokevirtual 97, 3) := by decide +kernel
theorem dX2_nextBit_104 : decode cX2_nextBit 104 = .ok (.istore_n 3, 1) := by decide +kernel
theorem dX2_nextBit_105 : decode cX2_nextBit 105 = .ok (.iload_n 2, 1) := by decide +kernel
theorem dX2_nextBit_106 : decode cX2_nextBit 106 = .ok (.iload_n 1, 1) := by decide +kernel
theorem dX2_nextBit_107 : decode cX2_nextBit 107 = .ok (.bipush 7, 2) := by decide +kernel
theorem dX2_nextBit_109 : decode cX2_nextBit 109 = .ok (.isub, 1) := by decide +kernel
theorem dX2_nextBit_110 : decode cX2_nextBit 110 = .ok (.if_icmp .le 30, 3) := by decide +kernel
theorem dX2_nextBit_113 : decode cX2_nextBit 113 = .ok (.aload_n 0, 1) := by decide +kernel
theorem dX2_nextBit_114 : decode cX2_nextBit 114 = .ok (.getfield 50, 3) := by decide +kernel
theorem dX2_nextBit_117 : decode cX2_nextBit 117 = .ok (.aload_n 0, 1) := by decide +kernel
theorem dX2_nextBit_118 : decode cX2_nextBit 118 = .ok (.getfield 35, 3) := by decide +kernel
theorem dX2_nextBit_121 : decode cX2_nextBit 121 = .ok (.invokevirtual 86, 3) := by decide +kernel
theorem dX2_nextBit_124 : decode cX2_nextBit 124 = .ok (.ifCond .eq 12, 3) := by decide +kernel
theorem dX2_nextBit_127 : decode cX2_nextBit 127 = .ok (.aload_n 0, 1) := by decide +kernel
theorem dX2_nextBit_128 : decode cX2_nextBit 128 = .ok (.iconst 1, 1) := by decide +kernel
theorem dX2_nextBit_129 : decode cX2_nextBit 129 = .ok (.iload_n 1, 1) := by decide +kernel
theorem dX2_nextBit_130 : decode cX2_nextBit 130 = .ok (.invokevirtual 100, 3) := by decide +kernel
theorem dX2_nextBit_133 : decode cX2_nextBit 133 = .ok (.goto 6, 3) := by decide +kernel
theorem dX2_nextBit_136 : decode cX2_nextBit 136 = .ok (.sipush 256, 3) := by decide +kernel
theorem dX2_nextBit_139 : decode cX2_nextBit 139 = .ok (.ireturn, 1) := by decide +kernel
theorem dX2_nextBit_140 : decode cX2_nextBit 140 = .ok (.iload_n 3, 1) := by decide +kernel
theorem dX2_nextBit_141 : decode cX2_nextBit 141 = .ok (.ifCond .ne 21, 3) := by decide +kernel
theorem dX2_nextBit_144 : decode cX2_nextBit 144 = .ok (.iload_n 2, 1) := by decide +kernel
theorem dX2_nextBit_145 : decode cX2_nextBit 145 = .ok (.ifCond .ne 17, 3) := by decide +kernel
theorem dX2_nextBit_148 : decode cX2_nextBit 148 = .ok (.aload_n 0, 1) := by decide +kernel
theorem dX2_nextBit_149 : decode cX2_nextBit 149 = .ok (.dup, 1) := by decide +kernel
theorem dX2_nextBit_150 : decode cX2_nextBit 150 = .ok (.getfield 35, 3) := by decide +kernel
theorem dX2_nextBit_153 : decode cX2_nextBit 153 = .ok (.iload_n 1, 1) := by decide +kernel
theorem dX2_nextBit_154 : decode cX2_nextBit 154 = .ok (.iadd, 1) := by decide +kernel
theorem dX2_nextBit_155 : decode cX2_nextBit 155 = .ok (.putfield 35, 3) := by decide +kernel
theorem dX2_nextBit_158 : decode cX2_nextBit 158 = .ok (.sipush 257, 3) := by decide +kernel
theorem dX2_nextBit_161 : decode cX2_nextBit 161 = .ok (.ireturn, 1) := by decide +kernel
theorem dX2_nextBit_162 : decode cX2_nextBit 162 = .ok (.aload_n 0, 1) := by decide +kernel
theorem dX2_nextBit_163 : decode cX2_nextBit 163 = .ok (.iload_n 3, 1) := by decide +kernel
theorem dX2_nextBit_164 : decode cX2_nextBit 164 = .ok (.iload_n 2, 1) := by decide +kernel
theorem dX2_nextBit_165 : decode cX2_nextBit 165 = .ok (.invokevirtual 103, 3) := by decide +kernel
theorem dX2_nextBit_168 : decode cX2_nextBit 168 = .ok (.ifCond .ne 10, 3) := by decide +kernel
theorem dX2_nextBit_171 : decode cX2_nextBit 171 = .ok (.aload_n 0, 1) := by decide +kernel
theorem dX2_nextBit_172 : decode cX2_nextBit 172 = .ok (.iconst 2, 1) := by decide +kernel
theorem dX2_nextBit_173 : decode cX2_nextBit 173 = .ok (.iload_n 1, 1) := by decide +kernel
theorem dX2_nextBit_174 : decode cX2_nextBit 174 = .ok (.invokevirtual 100, 3) := by decide +kernel
theorem dX2_nextBit_177 : decode cX2_nextBit 177 = .ok (.ireturn, 1) := by decide +kernel
theorem dX2_nextBit_178 : decode cX2_nextBit 178 = .ok (.aload_n 0, 1) := by decide +kernel
theorem dX2_nextBit_179 : decode cX2_nextBit 179 = .ok (.aload_n 0, 1) := by decide +kernel
theorem dX2_nextBit_180 : decode cX2_nextBit 180 = .ok (.getfield 35, 3) := by decide +kernel
theorem dX2_nextBit_183 : decode cX2_nextBit 183 = .ok (.putfield 44, 3) := by decide +kernel
theorem dX2_nextBit_186 : decode cX2_nextBit 186 = .ok (.aload_n 0, 1) := by decide +kernel
theorem dX2_nextBit_187 : decode cX2_nextBit 187 = .ok (.iload_n 2, 1) := by decide +kernel
theorem dX2_nextBit_188 : decode cX2_nextBit 188 = .ok (.putfield 47, 3) := by decide +kernel
theorem dX2_nextBit_191 : decode cX2_nextBit 191 = .ok (.aload_n 0, 1) := by decide +kernel
theorem dX2_nextBit_192 : decode cX2_nextBit 192 = .ok (.dup, 1) := by decide +kernel
theorem dX2_nextBit_193 : decode cX2_nextBit 193 = .ok (.getfield 35, 3) := by decide +kernel
theorem dX2_nextBit_196 : decode cX2_nextBit 196 = .ok (.bipush 7, 2) := by decide +kernel
theorem dX2_nextBit_198 : decode cX2_nextBit 198 = .ok (.iload_n 2, 1) := by decide +kernel
theorem dX2_nextBit_199 : decode cX2_nextBit 199 = .ok (.iadd, 1) := by decide +kernel
theorem dX2_nextBit_200 : decode cX2_nextBit 200 = .ok (.iadd, 1) := by decide +kernel
theorem dX2_nextBit_201 : decode cX2_nextBit 201 = .ok (.putfield 35, 3) := by decide +kernel
theorem dX2_nextBit_204 : decode cX2_nextBit 204 = .ok (.aload_n 0, 1) := by decide +kernel
theorem dX2_nextBit_205 : decode cX2_nextBit 205 = .ok (.getfield 44, 3) := by decide +kernel
theorem dX2_nextBit_208 : decode cX2_nextBit 208 = .ok (.aload_n 0, 1) := by decide +kernel
theorem dX2_nextBit_209 : decode cX2_nextBit 209 = .ok (.getfield 38, 3) := by decide +kernel
theorem dX2_nextBit_212 : decode cX2_nextBit 212 = .ok (.if_icmp .ge 9, 3) := by decide +kernel
theorem dX2_nextBit_215 : decode cX2_nextBit 215 = .ok (.sipush 257, 3) := by decide +kernel
theorem dX2_nextBit_218 : decode cX2_nextBit 218 = .ok (.goto 4, 3) := by decide +kernel
theorem dX2_nextBit_221 : decode cX2_nextBit 221 = .ok (.iload_n 3, 1) := by decide +kernel
theorem dX2_nextBit_222 : decode cX2_nextBit 222 = .ok (.ireturn, 1) := by decide +kernel
set_option maxRecDepth 20000 in
theorem ggX2_isCheckRight_X0_bytes : GoodIn wsX2_isCheckRight wsX0_bytes := goodIn_r _ [7, 8, 40, 41] (by decide +kernel) (by decide +kernel)
set_option maxRecDepth 20000 in
theorem gX2_isCheckRight_X0_bytes : GoodIn wsX2_isCheckRight (wsV RX2 89 RX0 yX0_bytes wsX0_bytes) := goodIn_app (goodIn_of _ (by decide +kernel)) ggX2_isCheckRight_X0_bytes
set_option maxRecDepth 20000 in
theorem ggX2_isCheckRight_X3_numberLowestFirst : GoodIn wsX2_isCheckRight wsX3_numberLowestFirst := goodIn_r _ [13, 14, 15, 16, 12, 17, 18, 19, 42, 43] (by decide +kernel) (by decide +kernel)
set_option maxRecDepth 20000 in
theorem gX2_isCheckRight_X3_numberLowestFirst : GoodIn wsX2_isCheckRight (wsV RX2 93 RX3 yX3_numberLowestFirst wsX3_numberLowestFirst) := goodIn_app (goodIn_of _ (by decide +kernel)) ggX2_isCheckRight_X3_numberLowestFirst
set_option maxRecDepth 20000 in
theorem ggX2_isCheckRight_X4_of : GoodIn wsX2_isCheckRight wsX4_of := goodIn_r _ [23, 24, 25, 26, 22, 27, 28, 29, 15, 16, 12, 17, 18, 19, 42, 43] (by decide +kernel) (by decide +kernel)
set_option maxRecDepth 20000 in
theorem gX2_isCheckRight_X4_of : GoodIn wsX2_isCheckRight (va_wsS RX2 107 yX4_of wsX4_of) := goodIn_app (goodIn_of _ (by decide +kernel)) ggX2_isCheckRight_X4_of
theorem dX2_isCheckRight_0 : decode cX2_isCheckRight 0 = .ok (.aload_n 0, 1) := by decide +kernel
theorem dX2_isCheckRight_1 : decode cX2_isCheckRight 1 = .ok (.getfield 50, 3) := by decide +kernel
theorem dX2_isCheckRight_4 : decode cX2_isCheckRight 4 = .ok (.invokevirtual 89, 3) := by decide +kernel
theorem dX2_isCheckRight_7 : decode cX2_isCheckRight 7 = .ok (.aload_n 0, 1) := by decide +kernel
theorem dX2_isCheckRight_8 : decode cX2_isCheckRight 8 = .ok (.getfield 35, 3) := by decide +kernel
theorem dX2_isCheckRight_11 : decode cX2_isCheckRight 11 = .ok (.iconst 4, 1) := by decide +kernel
theorem dX2_isCheckRight_12 : decode cX2_isCheckRight 12 = .ok (.invokevirtual 93, 3) := by decide +kernel
theorem dX2_isCheckRight_15 : decode cX2_isCheckRight 15 = .ok (.istore_n 3, 1) := by decide +kernel
theorem dX2_isCheckRight_16 : decode cX2_isCheckRight 16 = .ok (.iload_n 3, 1) := by decide +kernel
theorem dX2_isCheckRight_17 : decode cX2_isCheckRight 17 = .ok (.iload_n 1, 1) := by decide +kernel
theorem dX2_isCheckRight_18 : decode cX2_isCheckRight 18 = .ok (.aload_n 0, 1) := by decide +kernel
theorem dX2_isCheckRight_19 : decode cX2_isCheckRight 19 = .ok (.getfield 50, 3) := by decide +kernel
theorem dX2_isCheckRight_22 : decode cX2_isCheckRight 22 = .ok (.invokevirtual 89, 3) := by decide +kernel
theorem dX2_isCheckRight_25 : decode cX2_isCheckRight 25 = .ok (.aload_n 0, 1) := by decide +kernel
theorem dX2_isCheckRight_26 : decode cX2_isCheckRight 26 = .ok (.getfield 35, 3) := by decide +kernel
theorem dX2_isCheckRight_29 : decode cX2_isCheckRight 29 = .ok (.bipush 7, 2) := by decide +kernel
theorem dX2_isCheckRight_31 : decode cX2_isCheckRight 31 = .ok (.iadd, 1) := by decide +kernel
theorem dX2_isCheckRight_32 : decode cX2_isCheckRight 32 = .ok (.iload_n 2, 1) := by decide +kernel
theorem dX2_isCheckRight_33 : decode cX2_isCheckRight 33 = .ok (.invokestatic 107, 3) := by decide +kernel
theorem dX2_isCheckRight_36 : decode cX2_isCheckRight 36 = .ok (.if_icmp .ne 7, 3) := by decide +kernel
theorem dX2_isCheckRight_39 : decode cX2_isCheckRight 39 = .ok (.iconst 1, 1) := by decide +kernel
theorem dX2_isCheckRight_40 : decode cX2_isCheckRight 40 = .ok (.goto 4, 3) := by decide +kernel
theorem dX2_isCheckRight_43 : decode cX2_isCheckRight 43 = .ok (.iconst 0, 1) := by decide +kernel
theorem dX2_isCheckRight_44 : decode cX2_isCheckRight 44 = .ok (.ireturn, 1) := by decide +kernel
set_option maxRecDepth 20000 in
theorem ggX2_breakBlock_X1_tell : GoodIn wsX2_breakBlock wsX1_tell := goodIn_r _ [7, 8, 9, 10, 11, 22, 23, 24, 25] (by decide +kernel) (by decide +kernel)
set_option maxRecDepth 20000 in
theorem gX2_breakBlock_X1_tell : GoodIn wsX2_breakBlock (wsV RX2 113 RX1 yX1_tell wsX1_tell) := goodIn_app (goodIn_of _ (by decide +kernel)) ggX2_breakBlock_X1_tell
theorem dX2_breakBlock_0 : decode cX2_breakBlock 0 = .ok (.aload_n 0, 1) := by decide +kernel
theorem dX2_breakBlock_1 : decode cX2_breakBlock 1 = .ok (.getfield 12, 3) := by decide +kernel
theorem dX2_breakBlock_4 : decode cX2_breakBlock 4 = .ok (.iload_n 1, 1) := by decide +kernel
theorem dX2_breakBlock_5 : decode cX2_breakBlock 5 = .ok (.iload_n 2, 1) := by decide +kernel
theorem dX2_breakBlock_6 : decode cX2_breakBlock 6 = .ok (.invokevirtual 113, 3) := by decide +kernel
theorem dX2_breakBlock_9 : decode cX2_breakBlock 9 = .ok (.aload_n 0, 1) := by decide +kernel
theorem dX2_breakBlock_10 : decode cX2_breakBlock 10 = .ok (.dup, 1) := by decide +kernel
theorem dX2_breakBlock_11 : decode cX2_breakBlock 11 = .ok (.getfield 35, 3) := by decide +kernel
theorem dX2_breakBlock_14 : decode cX2_breakBlock 14 = .ok (.iload_n 2, 1) := by decide +kernel
theorem dX2_breakBlock_15 : decode cX2_breakBlock 15 = .ok (.iadd, 1) := by decide +kernel
theorem dX2_breakBlock_16 : decode cX2_breakBlock 16 = .ok (.putfield 35, 3) := by decide +kernel
theorem dX2_breakBlock_19 : decode cX2_breakBlock 19 = .ok (.sipush 257, 3) := by decide +kernel
theorem dX2_breakBlock_22 : decode cX2_breakBlock 22 = .ok (.ireturn, 1) := by decide +kernel
set_option maxRecDepth 20000 in
theorem ggX2_tear_X3_many : GoodIn wsX2_tear wsX3_many := goodIn_r _ [8, 9, 39, 40] (by decide +kernel) (by decide +kernel)
set_option maxRecDepth 20000 in
theorem gX2_tear_X3_many : GoodIn wsX2_tear (wsV RX2 117 RX3 yX3_many wsX3_many) := goodIn_app (goodIn_of _ (by decide +kernel)) ggX2_tear_X3_many
set_option maxRecDepth 20000 in
theorem ggX2_tear_X1_tell : GoodIn wsX2_tear wsX1_tell := goodIn_r _ [14, 15, 16, 17, 18, 41, 42, 43, 44] (by decide +kernel) (by decide +kernel)
set_option maxRecDepth 20000 in
theorem gX2_tear_X1_tell : GoodIn wsX2_tear (wsV RX2 113 RX1 yX1_tell wsX1_tell) := goodIn_app (goodIn_of _ (by decide +kernel)) ggX2_tear_X1_tell
set_option maxRecDepth 20000 in
theorem ggX2_tear_X2_dropRecord : GoodIn wsX2_tear wsX2_dropRecord := goodIn_r _ [23, 3, 24, 1, 25, 26, 27, 7, 28, 9, 29, 30, 31, 32, 33, 34, 35, 36, 37, 38, 39, 40] (by decide +kernel) (by decide +kernel)
set_option maxRecDepth 20000 in
theorem gX2_tear_X2_dropRecord : GoodIn wsX2_tear (wsV RX2 66 RX2 yX2_dropRecord wsX2_dropRecord) := goodIn_app (goodIn_of _ (by decide +kernel)) ggX2_tear_X2_dropRecord
theorem dX2_tear_0 : decode cX2_tear 0 = .ok (.aload_n 0, 1) := by decide +kernel
theorem dX2_tear_1 : decode cX2_tear 1 = .ok (.getfield 31, 3) := by decide +kernel
theorem dX2_tear_4 : decode cX2_tear 4 = .ok (.ifCond .eq 22, 3) := by decide +kernel
theorem dX2_tear_7 : decode cX2_tear 7 = .ok (.aload_n 0, 1) := by decide +kernel
theorem dX2_tear_8 : decode cX2_tear 8 = .ok (.getfield 12, 3) := by decide +kernel
theorem dX2_tear_11 : decode cX2_tear 11 = .ok (.iconst 3, 1) := by decide +kernel
theorem dX2_tear_12 : decode cX2_tear 12 = .ok (.aload_n 0, 1) := by decide +kernel
theorem dX2_tear_13 : decode cX2_tear 13 = .ok (.getfield 23, 3) := by decide +kernel
theorem dX2_tear_16 : decode cX2_tear 16 = .ok (.invokevirtual 117, 3) := by decide +kernel
theorem dX2_tear_19 : decode cX2_tear 19 = .ok (.invokevirtual 113, 3) := by decide +kernel
theorem dX2_tear_22 : decode cX2_tear 22 = .ok (.aload_n 0, 1) := by decide +kernel
theorem dX2_tear_23 : decode cX2_tear 23 = .ok (.invokevirtual 66, 3) := by decide +kernel
theorem dX2_tear_26 : decode cX2_tear 26 = .ok (.return_, 1) := by decide +kernel
theorem dX2_passesOver_0 : decode cX2_passesOver 0 = .ok (.aload_n 0, 1) := by decide +kernel
theorem dX2_passesOver_1 : decode cX2_passesOver 1 = .ok (.getfield 41, 3) := by decide +kernel
theorem dX2_passesOver_4 : decode cX2_passesOver 4 = .ok (.ifCond .ne 5, 3) := by decide +kernel
theorem dX2_passesOver_7 : decode cX2_passesOver 7 = .ok (.iconst 0, 1) := by decide +kernel
theorem dX2_passesOver_8 : decode cX2_passesOver 8 = .ok (.ireturn, 1) := by decide +kernel
theorem dX2_passesOver_9 : decode cX2_passesOver 9 = .ok (.aload_n 0, 1) := by decide +kernel
theorem dX2_passesOver_10 : decode cX2_passesOver 10 = .ok (.iload_n 1, 1) := by decide +kernel
theorem dX2_passesOver_11 : decode cX2_passesOver 11 = .ok (.iconst 3, 1) := by decide +kernel
theorem dX2_passesOver_12 : decode cX2_passesOver 12 = .ok (.if_icmp .ne 7, 3) := by decide +kernel
theorem dX2_passesOver_15 : decode cX2_passesOver 15 = .ok (.iconst 1, 1) := by decide +kernel
theorem dX2_passesOver_16 : decode cX2_passesOver 16 = .ok (.goto 4, 3) := by decide +kernel
theorem dX2_passesOver_19 : decode cX2_passesOver 19 = .ok (.iconst 0, 1) := by decide +kernel
theorem dX2_passesOver_20 : decode cX2_passesOver 20 = .ok (.putfield 41, 3) := by decide +kernel
theorem dX2_passesOver_23 : decode cX2_passesOver 23 = .ok (.iload_n 1, 1) := by decide +kernel
theorem dX2_passesOver_24 : decode cX2_passesOver 24 = .ok (.iconst 3, 1) := by decide +kernel
theorem dX2_passesOver_25 : decode cX2_passesOver 25 = .ok (.if_icmp .eq 8, 3) := by decide +kernel
theorem dX2_passesOver_28 : decode cX2_passesOver 28 = .ok (.iload_n 1, 1) := by decide +kernel
theorem dX2_passesOver_29 : decode cX2_passesOver 29 = .ok (.iconst 4, 1) := by decide +kernel
theorem dX2_passesOver_30 : decode cX2_passesOver 30 = .ok (.if_icmp .ne 7, 3) := by decide +kernel
theorem dX2_passesOver_33 : decode cX2_passesOver 33 = .ok (.iconst 1, 1) := by decide +kernel
theorem dX2_passesOver_34 : decode cX2_passesOver 34 = .ok (.goto 4, 3) := by decide +kernel
theorem dX2_passesOver_37 : decode cX2_passesOver 37 = .ok (.iconst 0, 1) := by decide +kernel
theorem dX2_passesOver_38 : decode cX2_passesOver 38 = .ok (.ireturn, 1) := by decide +kernel
set_option maxRecDepth 20000 in
theorem ggX2_takeFragment_X2_startRecord : GoodIn wsX2_takeFragment wsX2_startRecord := goodIn_r _ [8, 3, 1, 9, 10, 11, 12, 13, 14, 15, 16, 17, 18, 19, 20, 21, 22, 23, 24, 25, 26, 27, 28, 29, 7, 30, 31, 32, 33, 34, 35, 36, 37, 38, 39, 2, 40, 41, 42, 43, 44, 45, 46, 47, 48, 49, 50, 51, 52, 53, 54, 55, 56, 57, 58, 63, 64, 65, 66, 67, 68, 69, 70, 71, 72, 73, 74, 75, 76, 77, 78, 79, 80] (by decide +kernel) (by decide +kernel)
set_option maxRecDepth 20000 in
theorem gX2_takeFragment_X2_startRecord : GoodIn wsX2_takeFragment (wsV RX2 120 RX2 yX2_startRecord wsX2_startRecord) := goodIn_app (goodIn_of _ (by decide +kernel)) ggX2_takeFragment_X2_startRecord
set_option maxRecDepth 20000 in
theorem ggX2_takeFragment_X2_goOnWithRecord : GoodIn wsX2_takeFragment wsX2_goOnWithRecord := goodIn_r _ [62, 11, 1, 2, 18, 19, 20, 21, 22, 23, 24, 25, 26, 35, 36, 37, 7, 38, 3, 39, 9, 40, 41, 42, 43, 44, 45, 46, 47, 48, 15, 49, 50, 51, 52, 53, 17, 54, 55, 56, 57, 58, 63, 64, 65, 66, 67, 68, 69, 70, 71, 72, 75, 76, 77, 78, 79, 80, 73, 74] (by decide +kernel) (by decide +kernel)
set_option maxRecDepth 20000 in
theorem gX2_takeFragment_X2_goOnWithRecord : GoodIn wsX2_takeFragment (wsV RX2 123 RX2 yX2_goOnWithRecord wsX2_goOnWithRecord) := goodIn_app (goodIn_of _ (by decide +kernel)) ggX2_takeFragment_X2_goOnWithRecord
set_option maxRecDepth 20000 in
theorem ggX2_takeFragment_X3_many : GoodIn wsX2_takeFragment wsX3_many := goodIn_r _ [16, 17, 73, 74] (by decide +kernel) (by decide +kernel)
set_option maxRecDepth 20000 in
theorem gX2_takeFragment_X3_many : GoodIn wsX2_takeFragment (wsV RX2 117 RX3 yX3_many wsX3_many) := goodIn_app (goodIn_of _ (by decide +kernel)) ggX2_takeFragment_X3_many
set_option maxRecDepth 20000 in
theorem ggX2_takeFragment_X1_tell : GoodIn wsX2_takeFragment wsX1_tell := goodIn_r _ [22, 23, 24, 25, 26, 75, 76, 77, 78] (by decide +kernel) (by decide +kernel)
set_option maxRecDepth 20000 in
theorem gX2_takeFragment_X1_tell : GoodIn wsX2_takeFragment (wsV RX2 113 RX1 yX1_tell wsX1_tell) := goodIn_app (goodIn_of _ (by decide +kernel)) ggX2_takeFragment_X1_tell
set_option maxRecDepth 20000 in
theorem ggX2_takeFragment_X2_dropRecord : GoodIn wsX2_takeFragment wsX2_dropRecord := goodIn_r _ [30, 3, 10, 11, 31, 32, 33, 15, 34, 17, 63, 64, 65, 66, 67, 68, 69, 70, 71, 72, 73, 74] (by decide +kernel) (by decide +kernel)
set_option maxRecDepth 20000 in
theorem gX2_takeFragment_X2_dropRecord : GoodIn wsX2_takeFragment (wsV RX2 66 RX2 yX2_dropRecord wsX2_dropRecord) := goodIn_app (goodIn_of _ (by decide +kernel)) ggX2_takeFragment_X2_dropRecord
theorem dX2_takeFragment_0 : decode cX2_takeFragment 0 = .ok (.iload_n 1, 1) := by decide +kernel
theorem dX2_takeFragment_1 : decode cX2_takeFragment 1 = .ok (.tableswitch 55 1 4 #[31, 37, 43, 50], 31) := by decide +kernel
theorem dX2_takeFragment_32 : decode cX2_takeFragment 32 = .ok (.aload_n 0, 1) := by decide +kernel
theorem dX2_takeFragment_33 : decode cX2_takeFragment 33 = .ok (.invokevirtual 120, 3) := by decide +kernel
theorem dX2_takeFragment_36 : decode cX2_takeFragment 36 = .ok (.iconst 1, 1) := by decide +kernel
theorem dX2_takeFragment_37 : decode cX2_takeFragment 37 = .ok (.ireturn, 1) := by decide +kernel
theorem dX2_takeFragment_38 : decode cX2_takeFragment 38 = .ok (.aload_n 0, 1) := by decide +kernel
theorem dX2_takeFragment_39 : decode cX2_takeFragment 39 = .ok (.invokevirtual 120, 3) := by decide +kernel
theorem dX2_takeFragment_42 : decode cX2_takeFragment 42 = .ok (.iconst 0, 1) := by decide +kernel
theorem dX2_takeFragment_43 : decode cX2_takeFragment 43 = .ok (.ireturn, 1) := by decide +kernel
theorem dX2_takeFragment_44 : decode cX2_takeFragment 44 = .ok (.aload_n 0, 1) := by decide +kernel
theorem dX2_takeFragment_45 : decode cX2_takeFragment 45 = .ok (.invokevirtual 123, 3) := by decide +kernel
theorem dX2_takeFragment_48 : decode cX2_takeFragment 48 = .ok (.pop, 1) := by decide +kernel
theorem dX2_takeFragment_49 : decode cX2_takeFragment 49 = .ok (.iconst 0, 1) := by decide +kernel
theorem dX2_takeFragment_50 : decode cX2_takeFragment 50 = .ok (.ireturn, 1) := by decide +kernel
theorem dX2_takeFragment_51 : decode cX2_takeFragment 51 = .ok (.aload_n 0, 1) := by decide +kernel
theorem dX2_takeFragment_52 : decode cX2_takeFragment 52 = .ok (.invokevirtual 123, 3) := by decide +kernel
theorem dX2_takeFragment_55 : decode cX2_takeFragment 55 = .ok (.ireturn, 1) := by decide +kernel
theorem dX2_takeFragment_56 : decode cX2_takeFragment 56 = .ok (.aload_n 0, 1) := by decide +kernel
theorem dX2_takeFragment_57 : decode cX2_takeFragment 57 = .ok (.getfield 12, 3) := by decide +kernel
theorem dX2_takeFragment_60 : decode cX2_takeFragment 60 = .ok (.bipush 6, 2) := by decide +kernel
theorem dX2_takeFragment_62 : decode cX2_takeFragment 62 = .ok (.aload_n 0, 1) := by decide +kernel
theorem dX2_takeFragment_63 : decode cX2_takeFragment 63 = .ok (.getfield 47, 3) := by decide +kernel
theorem dX2_takeFragment_66 : decode cX2_takeFragment 66 = .ok (.aload_n 0, 1) := by decide +kernel
theorem dX2_takeFragment_67 : decode cX2_takeFragment 67 = .ok (.getfield 23, 3) := by decide +kernel
theorem dX2_takeFragment_70 : decode cX2_takeFragment 70 = .ok (.invokevirtual 117, 3) := by decide +kernel
theorem dX2_takeFragment_73 : decode cX2_takeFragment 73 = .ok (.iadd, 1) := by decide +kernel
theorem dX2_takeFragment_74 : decode cX2_takeFragment 74 = .ok (.invokevirtual 113, 3) := by decide +kernel
theorem dX2_takeFragment_77 : decode cX2_takeFragment 77 = .ok (.aload_n 0, 1) := by decide +kernel
theorem dX2_takeFragment_78 : decode cX2_takeFragment 78 = .ok (.invokevirtual 66, 3) := by decide +kernel
theorem dX2_takeFragment_81 : decode cX2_takeFragment 81 = .ok (.iconst 0, 1) := by decide +kernel
theorem dX2_takeFragment_82 : decode cX2_takeFragment 82 = .ok (.ireturn, 1) := by decide +kernel
set_option maxRecDepth 20000 in
theorem ggX2_startRecord_X3_many : GoodIn wsX2_startRecord wsX3_many := goodIn_r _ [10, 11, 65, 66] (by decide +kernel) (by decide +kernel)
set_option maxRecDepth 20000 in
theorem gX2_startRecord_X3_many : GoodIn wsX2_startRecord (wsV RX2 117 RX3 yX3_many wsX3_many) := goodIn_app (goodIn_of _ (by decide +kernel)) ggX2_startRecord_X3_many
set_option maxRecDepth 20000 in
theorem ggX2_startRecord_X1_tell : GoodIn wsX2_startRecord wsX1_tell := goodIn_r _ [16, 17, 18, 19, 20, 67, 68, 69, 70] (by decide +kernel) (by decide +kernel)
set_option maxRecDepth 20000 in
theorem gX2_startRecord_X1_tell : GoodIn wsX2_startRecord (wsV RX2 113 RX1 yX1_tell wsX1_tell) := goodIn_app (goodIn_of _ (by decide +kernel)) ggX2_startRecord_X1_tell
set_option maxRecDepth 20000 in
theorem ggX2_startRecord_X2_dropRecord : GoodIn wsX2_startRecord wsX2_dropRecord := goodIn_r _ [25, 1, 4, 5, 26, 27, 28, 9, 29, 11, 55, 56, 57, 58, 59, 60, 61, 62, 63, 64, 65, 66] (by decide +kernel) (by decide +kernel)
set_option maxRecDepth 20000 in
theorem gX2_startRecord_X2_dropRecord : GoodIn wsX2_startRecord (wsV RX2 66 RX2 yX2_dropRecord wsX2_dropRecord) := goodIn_app (goodIn_of _ (by decide +kernel)) ggX2_startRecord_X2_dropRecord
set_option maxRecDepth 20000 in
theorem ggX2_startRecord_X2_addFragmentBytes : GoodIn wsX2_startRecord wsX2_addFragmentBytes := goodIn_r _ [33, 1, 34, 3, 35, 36, 37, 38, 39, 40, 41, 42, 43, 44, 9, 45, 46, 47, 48, 49, 11, 50, 51, 52, 53, 54, 55, 56, 57, 58, 59, 60, 61, 62, 63, 64, 71, 72, 65, 66] (by decide +kernel) (by decide +kernel)
set_option maxRecDepth 20000 in
theorem gX2_startRecord_X2_addFragmentBytes : GoodIn wsX2_startRecord (wsV RX2 127 RX2 yX2_addFragmentBytes wsX2_addFragmentBytes) := goodIn_app (goodIn_of _ (by decide +kernel)) ggX2_startRecord_X2_addFragmentBytes
theorem dX2_startRecord_0 : decode cX2_startRecord 0 = .ok (.aload_n 0, 1) := by decide +kernel
theorem dX2_startRecord_1 : decode cX2_startRecord 1 = .ok (.getfield 23, 3) := by decide +kernel
theorem dX2_startRecord_4 : decode cX2_startRecord 4 = .ok (.invokevirtual 117, 3) := by decide +kernel
theorem dX2_startRecord_7 : decode cX2_startRecord 7 = .ok (.ifCond .le 18, 3) := by decide +kernel
theorem dX2_startRecord_10 : decode cX2_startRecord 10 = .ok (.aload_n 0, 1) := by decide +kernel
theorem dX2_startRecord_11 : decode cX2_startRecord 11 = .ok (.getfield 12, 3) := by decide +kernel
theorem dX2_startRecord_14 : decode cX2_startRecord 14 = .ok (.iconst 4, 1) := by decide +kernel
theorem dX2_startRecord_15 : decode cX2_startRecord 15 = .ok (.aload_n 0, 1) := by decide +kernel
theorem dX2_startRecord_16 : decode cX2_startRecord 16 = .ok (.getfield 23, 3) := by decide +kernel
theorem dX2_startRecord_19 : decode cX2_startRecord 19 = .ok (.invokevirtual 117, 3) := by decide +kernel
theorem dX2_startRecord_22 : decode cX2_startRecord 22 = .ok (.invokevirtual 113, 3) := by decide +kernel
theorem dX2_startRecord_25 : decode cX2_startRecord 25 = .ok (.aload_n 0, 1) := by decide +kernel
theorem dX2_startRecord_26 : decode cX2_startRecord 26 = .ok (.invokevirtual 66, 3) := by decide +kernel
theorem dX2_startRecord_29 : decode cX2_startRecord 29 = .ok (.aload_n 0, 1) := by decide +kernel
theorem dX2_startRecord_30 : decode cX2_startRecord 30 = .ok (.aload_n 0, 1) := by decide +kernel
theorem dX2_startRecord_31 : decode cX2_startRecord 31 = .ok (.getfield 44, 3) := by decide +kernel
theorem dX2_startRecord_34 : decode cX2_startRecord 34 = .ok (.putfield 27, 3) := by decide +kernel
theorem dX2_startRecord_37 : decode cX2_startRecord 37 = .ok (.aload_n 0, 1) := by decide +kernel
theorem dX2_startRecord_38 : decode cX2_startRecord 38 = .ok (.iconst 1, 1) := by decide +kernel
end
section
theorem dX2_startRecord_39 : decode cX2_startRecord 39 = .ok (.putfield 31, 3) := by decide +kernel
theorem dX2_startRecord_42 : decode cX2_startRecord 42 = .ok (.aload_n 0, 1) := by decide +kernel
theorem dX2_startRecord_43 : decode cX2_startRecord 43 = .ok (.invokevirtual 127, 3) := by decide +kernel
theorem dX2_startRecord_46 : decode cX2_startRecord 46 = .ok (.return_, 1) := by decide +kernel
set_option maxRecDepth 20000 in
theorem ggX2_goOnWithRecord_X1_tell : GoodIn wsX2_goOnWithRecord wsX1_tell := goodIn_r _ [8, 9, 10, 11, 12, 52, 53, 54, 55] (by decide +kernel) (by decide +kernel)
set_option maxRecDepth 20000 in
theorem gX2_goOnWithRecord_X1_tell : GoodIn wsX2_goOnWithRecord (wsV RX2 113 RX1 yX1_tell wsX1_tell) := goodIn_app (goodIn_of _ (by decide +kernel)) ggX2_goOnWithRecord_X1_tell
set_option maxRecDepth 20000 in
theorem ggX2_goOnWithRecord_X2_addFragmentBytes : GoodIn wsX2_goOnWithRecord wsX2_addFragmentBytes := goodIn_r _ [17, 18, 19, 20, 3, 21, 22, 23, 24, 25, 26, 27, 28, 29, 30, 31, 32, 33, 34, 35, 36, 37, 38, 39, 40, 41, 42, 43, 44, 45, 46, 47, 48, 49, 50, 51, 56, 57, 58, 59] (by decide +kernel) (by decide +kernel)
set_option maxRecDepth 20000 in
theorem gX2_goOnWithRecord_X2_addFragmentBytes : GoodIn wsX2_goOnWithRecord (wsV RX2 127 RX2 yX2_addFragmentBytes wsX2_addFragmentBytes) := goodIn_app (goodIn_of _ (by decide +kernel)) ggX2_goOnWithRecord_X2_addFragmentBytes
theorem dX2_goOnWithRecord_0 : decode cX2_goOnWithRecord 0 = .ok (.aload_n 0, 1) := by decide +kernel
theorem dX2_goOnWithRecord_1 : decode cX2_goOnWithRecord 1 = .ok (.getfield 31, 3) := by decide +kernel
theorem dX2_goOnWithRecord_4 : decode cX2_goOnWithRecord 4 = .ok (.ifCond .ne 17, 3) := by decide +kernel
theorem dX2_goOnWithRecord_7 : decode cX2_goOnWithRecord 7 = .ok (.aload_n 0, 1) := by decide +kernel
theorem dX2_goOnWithRecord_8 : decode cX2_goOnWithRecord 8 = .ok (.getfield 12, 3) := by decide +kernel
theorem dX2_goOnWithRecord_11 : decode cX2_goOnWithRecord 11 = .ok (.iconst 5, 1) := by decide +kernel
theorem dX2_goOnWithRecord_12 : decode cX2_goOnWithRecord 12 = .ok (.aload_n 0, 1) := by decide +kernel
theorem dX2_goOnWithRecord_13 : decode cX2_goOnWithRecord 13 = .ok (.getfield 47, 3) := by decide +kernel
theorem dX2_goOnWithRecord_16 : decode cX2_goOnWithRecord 16 = .ok (.invokevirtual 113, 3) := by decide +kernel
theorem dX2_goOnWithRecord_19 : decode cX2_goOnWithRecord 19 = .ok (.iconst 0, 1) := by decide +kernel
theorem dX2_goOnWithRecord_20 : decode cX2_goOnWithRecord 20 = .ok (.ireturn, 1) := by decide +kernel
theorem dX2_goOnWithRecord_21 : decode cX2_goOnWithRecord 21 = .ok (.aload_n 0, 1) := by decide +kernel
theorem dX2_goOnWithRecord_22 : decode cX2_goOnWithRecord 22 = .ok (.invokevirtual 127, 3) := by decide +kernel
theorem dX2_goOnWithRecord_25 : decode cX2_goOnWithRecord 25 = .ok (.iconst 1, 1) := by decide +kernel
theorem dX2_goOnWithRecord_26 : decode cX2_goOnWithRecord 26 = .ok (.ireturn, 1) := by decide +kernel
set_option maxRecDepth 20000 in
theorem ggX2_addFragmentBytes_X0_bytes : GoodIn wsX2_addFragmentBytes wsX0_bytes := goodIn_r _ [9, 10, 36, 37] (by decide +kernel) (by decide +kernel)
set_option maxRecDepth 20000 in
theorem gX2_addFragmentBytes_X0_bytes : GoodIn wsX2_addFragmentBytes (wsV RX2 89 RX0 yX0_bytes wsX0_bytes) := goodIn_app (goodIn_of _ (by decide +kernel)) ggX2_addFragmentBytes_X0_bytes
set_option maxRecDepth 20000 in
theorem ggX2_addFragmentBytes_X3_addPart : GoodIn wsX2_addFragmentBytes wsX3_addPart := goodIn_r _ [15, 16, 17, 18, 14, 19, 20, 21, 22, 23, 24, 25, 38, 39] (by decide +kernel) (by decide +kernel)
set_option maxRecDepth 20000 in
theorem gX2_addFragmentBytes_X3_addPart : GoodIn wsX2_addFragmentBytes (wsV RX2 130 RX3 yX3_addPart wsX3_addPart) := goodIn_app (goodIn_of _ (by decide +kernel)) ggX2_addFragmentBytes_X3_addPart
theorem dX2_addFragmentBytes_0 : decode cX2_addFragmentBytes 0 = .ok (.aload_n 0, 1) := by decide +kernel
theorem dX2_addFragmentBytes_1 : decode cX2_addFragmentBytes 1 = .ok (.getfield 23, 3) := by decide +kernel
theorem dX2_addFragmentBytes_4 : decode cX2_addFragmentBytes 4 = .ok (.aload_n 0, 1) := by decide +kernel
theorem dX2_addFragmentBytes_5 : decode cX2_addFragmentBytes 5 = .ok (.getfield 50, 3) := by decide +kernel
theorem dX2_addFragmentBytes_8 : decode cX2_addFragmentBytes 8 = .ok (.invokevirtual 89, 3) := by decide +kernel
theorem dX2_addFragmentBytes_11 : decode cX2_addFragmentBytes 11 = .ok (.aload_n 0, 1) := by decide +kernel
theorem dX2_addFragmentBytes_12 : decode cX2_addFragmentBytes 12 = .ok (.getfield 44, 3) := by decide +kernel
theorem dX2_addFragmentBytes_15 : decode cX2_addFragmentBytes 15 = .ok (.bipush 7, 2) := by decide +kernel
theorem dX2_addFragmentBytes_17 : decode cX2_addFragmentBytes 17 = .ok (.iadd, 1) := by decide +kernel
theorem dX2_addFragmentBytes_18 : decode cX2_addFragmentBytes 18 = .ok (.aload_n 0, 1) := by decide +kernel
theorem dX2_addFragmentBytes_19 : decode cX2_addFragmentBytes 19 = .ok (.getfield 47, 3) := by decide +kernel
theorem dX2_addFragmentBytes_22 : decode cX2_addFragmentBytes 22 = .ok (.invokevirtual 130, 3) := by decide +kernel
theorem dX2_addFragmentBytes_25 : decode cX2_addFragmentBytes 25 = .ok (.return_, 1) := by decide +kernel
set_option maxRecDepth 20000 in
theorem ggX2_dropRecord_X3_shorten : GoodIn wsX2_dropRecord wsX3_shorten := goodIn_r _ [8, 9, 20, 21] (by decide +kernel) (by decide +kernel)
set_option maxRecDepth 20000 in
theorem gX2_dropRecord_X3_shorten : GoodIn wsX2_dropRecord (wsV RX2 134 RX3 yX3_shorten wsX3_shorten) := goodIn_app (goodIn_of _ (by decide +kernel)) ggX2_dropRecord_X3_shorten
theorem dX2_dropRecord_0 : decode cX2_dropRecord 0 = .ok (.aload_n 0, 1) := by decide +kernel
theorem dX2_dropRecord_1 : decode cX2_dropRecord 1 = .ok (.getfield 23, 3) := by decide +kernel
theorem dX2_dropRecord_4 : decode cX2_dropRecord 4 = .ok (.iconst 0, 1) := by decide +kernel
theorem dX2_dropRecord_5 : decode cX2_dropRecord 5 = .ok (.invokevirtual 134, 3) := by decide +kernel
theorem dX2_dropRecord_8 : decode cX2_dropRecord 8 = .ok (.aload_n 0, 1) := by decide +kernel
theorem dX2_dropRecord_9 : decode cX2_dropRecord 9 = .ok (.iconst (-1), 1) := by decide +kernel
theorem dX2_dropRecord_10 : decode cX2_dropRecord 10 = .ok (.putfield 27, 3) := by decide +kernel
theorem dX2_dropRecord_13 : decode cX2_dropRecord 13 = .ok (.aload_n 0, 1) := by decide +kernel
theorem dX2_dropRecord_14 : decode cX2_dropRecord 14 = .ok (.iconst 0, 1) := by decide +kernel
theorem dX2_dropRecord_15 : decode cX2_dropRecord 15 = .ok (.putfield 31, 3) := by decide +kernel
theorem dX2_dropRecord_18 : decode cX2_dropRecord 18 = .ok (.return_, 1) := by decide +kernel
end
section
theorem dX3_init_0 : decode cX3_init 0 = .ok (.aload_n 0, 1) := by decide +kernel
theorem dX3_init_1 : decode cX3_init 1 = .ok (.invokespecial 3, 3) := by decide +kernel
theorem dX3_init_4 : decode cX3_init 4 = .ok (.aload_n 0, 1) := by decide +kernel
theorem dX3_init_5 : decode cX3_init 5 = .ok (.iload_n 1, 1) := by decide +kernel
theorem dX3_init_6 : decode cX3_init 6 = .ok (.newarray .byte, 2) := by decide +kernel
theorem dX3_init_8 : decode cX3_init 8 = .ok (.putfield 9, 3) := by decide +kernel
theorem dX3_init_11 : decode cX3_init 11 = .ok (.aload_n 0, 1) := by decide +kernel
theorem dX3_init_12 : decode cX3_init 12 = .ok (.iconst 0, 1) := by decide +kernel
theorem dX3_init_13 : decode cX3_init 13 = .ok (.putfield 15, 3) := by decide +kernel
theorem dX3_init_16 : decode cX3_init 16 = .ok (.return_, 1) := by decide +kernel
theorem dX3_many_0 : decode cX3_many 0 = .ok (.aload_n 0, 1) := by decide +kernel
theorem dX3_many_1 : decode cX3_many 1 = .ok (.getfield 15, 3) := by decide +kernel
theorem dX3_many_4 : decode cX3_many 4 = .ok (.ireturn, 1) := by decide +kernel
theorem dX3_hasRoomFor_0 : decode cX3_hasRoomFor 0 = .ok (.iload_n 1, 1) := by decide +kernel
theorem dX3_hasRoomFor_1 : decode cX3_hasRoomFor 1 = .ok (.aload_n 0, 1) := by decide +kernel
theorem dX3_hasRoomFor_2 : decode cX3_hasRoomFor 2 = .ok (.getfield 9, 3) := by decide +kernel
theorem dX3_hasRoomFor_5 : decode cX3_hasRoomFor 5 = .ok (.arraylength, 1) := by decide +kernel
theorem dX3_hasRoomFor_6 : decode cX3_hasRoomFor 6 = .ok (.aload_n 0, 1) := by decide +kernel
theorem dX3_hasRoomFor_7 : decode cX3_hasRoomFor 7 = .ok (.getfield 15, 3) := by decide +kernel
theorem dX3_hasRoomFor_10 : decode cX3_hasRoomFor 10 = .ok (.isub, 1) := by decide +kernel
theorem dX3_hasRoomFor_11 : decode cX3_hasRoomFor 11 = .ok (.if_icmp .gt 7, 3) := by decide +kernel
theorem dX3_hasRoomFor_14 : decode cX3_hasRoomFor 14 = .ok (.iconst 1, 1) := by decide +kernel
theorem dX3_hasRoomFor_15 : decode cX3_hasRoomFor 15 = .ok (.goto 4, 3) := by decide +kernel
theorem dX3_hasRoomFor_18 : decode cX3_hasRoomFor 18 = .ok (.iconst 0, 1) := by decide +kernel
theorem dX3_hasRoomFor_19 : decode cX3_hasRoomFor 19 = .ok (.ireturn, 1) := by decide +kernel
theorem dX3_has_0 : decode cX3_has 0 = .ok (.iload_n 1, 1) := by decide +kernel
theorem dX3_has_1 : decode cX3_has 1 = .ok (.ifCond .lt 15, 3) := by decide +kernel
theorem dX3_has_4 : decode cX3_has 4 = .ok (.iload_n 1, 1) := by decide +kernel
theorem dX3_has_5 : decode cX3_has 5 = .ok (.aload_n 0, 1) := by decide +kernel
theorem dX3_has_6 : decode cX3_has 6 = .ok (.getfield 15, 3) := by decide +kernel
theorem dX3_has_9 : decode cX3_has 9 = .ok (.if_icmp .ge 7, 3) := by decide +kernel
theorem dX3_has_12 : decode cX3_has 12 = .ok (.iconst 1, 1) := by decide +kernel
theorem dX3_has_13 : decode cX3_has 13 = .ok (.goto 4, 3) := by decide +kernel
theorem dX3_has_16 : decode cX3_has 16 = .ok (.iconst 0, 1) := by decide +kernel
theorem dX3_has_17 : decode cX3_has 17 = .ok (.ireturn, 1) := by decide +kernel
theorem dX3_at_0 : decode cX3_at 0 = .ok (.iload_n 1, 1) := by decide +kernel
theorem dX3_at_1 : decode cX3_at 1 = .ok (.ifCond .lt 24, 3) := by decide +kernel
theorem dX3_at_4 : decode cX3_at 4 = .ok (.iload_n 1, 1) := by decide +kernel
theorem dX3_at_5 : decode cX3_at 5 = .ok (.aload_n 0, 1) := by decide +kernel
theorem dX3_at_6 : decode cX3_at 6 = .ok (.getfield 15, 3) := by decide +kernel
theorem dX3_at_9 : decode cX3_at 9 = .ok (.if_icmp .ge 16, 3) := by decide +kernel
theorem dX3_at_12 : decode cX3_at 12 = .ok (.aload_n 0, 1) := by decide +kernel
theorem dX3_at_13 : decode cX3_at 13 = .ok (.getfield 9, 3) := by decide +kernel
theorem dX3_at_16 : decode cX3_at 16 = .ok (.iload_n 1, 1) := by decide +kernel
theorem dX3_at_17 : decode cX3_at 17 = .ok (.baload, 1) := by decide +kernel
theorem dX3_at_18 : decode cX3_at 18 = .ok (.sipush 255, 3) := by decide +kernel
theorem dX3_at_21 : decode cX3_at 21 = .ok (.iand, 1) := by decide +kernel
theorem dX3_at_22 : decode cX3_at 22 = .ok (.goto 4, 3) := by decide +kernel
theorem dX3_at_25 : decode cX3_at 25 = .ok (.iconst (-1), 1) := by decide +kernel
theorem dX3_at_26 : decode cX3_at 26 = .ok (.ireturn, 1) := by decide +kernel
theorem dX3_add_0 : decode cX3_add 0 = .ok (.aload_n 0, 1) := by decide +kernel
theorem dX3_add_1 : decode cX3_add 1 = .ok (.getfield 15, 3) := by decide +kernel
theorem dX3_add_4 : decode cX3_add 4 = .ok (.aload_n 0, 1) := by decide +kernel
theorem dX3_add_5 : decode cX3_add 5 = .ok (.getfield 9, 3) := by decide +kernel
theorem dX3_add_8 : decode cX3_add 8 = .ok (.arraylength, 1) := by decide +kernel
theorem dX3_add_9 : decode cX3_add 9 = .ok (.if_icmp .ge 24, 3) := by decide +kernel
theorem dX3_add_12 : decode cX3_add 12 = .ok (.aload_n 0, 1) := by decide +kernel
theorem dX3_add_13 : decode cX3_add 13 = .ok (.getfield 9, 3) := by decide +kernel
theorem dX3_add_16 : decode cX3_add 16 = .ok (.aload_n 0, 1) := by decide +kernel
theorem dX3_add_17 : decode cX3_add 17 = .ok (.getfield 15, 3) := by decide +kernel
theorem dX3_add_20 : decode cX3_add 20 = .ok (.iload_n 1, 1) := by decide +kernel
theorem dX3_add_21 : decode cX3_add 21 = .ok (.i2b, 1) := by decide +kernel
theorem dX3_add_22 : decode cX3_add 22 = .ok (.bastore, 1) := by decide +kernel
theorem dX3_add_23 : decode cX3_add 23 = .ok (.aload_n 0, 1) := by decide +kernel
theorem dX3_add_24 : decode cX3_add 24 = .ok (.dup, 1) := by decide +kernel
theorem dX3_add_25 : decode cX3_add 25 = .ok (.getfield 15, 3) := by decide +kernel
theorem dX3_add_28 : decode cX3_add 28 = .ok (.iconst 1, 1) := by decide +kernel
theorem dX3_add_29 : decode cX3_add 29 = .ok (.iadd, 1) := by decide +kernel
theorem dX3_add_30 : decode cX3_add 30 = .ok (.putfield 15, 3) := by decide +kernel
theorem dX3_add_33 : decode cX3_add 33 = .ok (.return_, 1) := by decide +kernel
set_option maxRecDepth 20000 in
theorem ggX3_addLowestFirst_X3_add : GoodIn wsX3_addLowestFirst wsX3_add := goodIn_r _ [5, 6, 7, 8, 9] (by decide +kernel) (by decide +kernel)
set_option maxRecDepth 20000 in
theorem gX3_addLowestFirst_X3_add : GoodIn wsX3_addLowestFirst (wsV RX3 19 RX3 yX3_add wsX3_add) := goodIn_app (goodIn_of _ (by decide +kernel)) ggX3_addLowestFirst_X3_add
theorem dX3_addLowestFirst_0 : decode cX3_addLowestFirst 0 = .ok (.iconst 0, 1) := by decide +kernel
theorem dX3_addLowestFirst_1 : decode cX3_addLowestFirst 1 = .ok (.istore_n 3, 1) := by decide +kernel
theorem dX3_addLowestFirst_2 : decode cX3_addLowestFirst 2 = .ok (.iload_n 3, 1) := by decide +kernel
theorem dX3_addLowestFirst_3 : decode cX3_addLowestFirst 3 = .ok (.iload_n 2, 1) := by decide +kernel
theorem dX3_addLowestFirst_4 : decode cX3_addLowestFirst 4 = .ok (.if_icmp .ge 19, 3) := by decide +kernel
theorem dX3_addLowestFirst_7 : decode cX3_addLowestFirst 7 = .ok (.aload_n 0, 1) := by decide +kernel
theorem dX3_addLowestFirst_8 : decode cX3_addLowestFirst 8 = .ok (.iload_n 1, 1) := by decide +kernel
theorem dX3_addLowestFirst_9 : decode cX3_addLowestFirst 9 = .ok (.bipush 8, 2) := by decide +kernel
theorem dX3_addLowestFirst_11 : decode cX3_addLowestFirst 11 = .ok (.iload_n 3, 1) := by decide +kernel
theorem dX3_addLowestFirst_12 : decode cX3_addLowestFirst 12 = .ok (.imul, 1) := by decide +kernel
theorem dX3_addLowestFirst_13 : decode cX3_addLowestFirst 13 = .ok (.iushr, 1) := by decide +kernel
theorem dX3_addLowestFirst_14 : decode cX3_addLowestFirst 14 = .ok (.invokevirtual 19, 3) := by decide +kernel
theorem dX3_addLowestFirst_17 : decode cX3_addLowestFirst 17 = .ok (.iinc 3 1, 3) := by decide +kernel
theorem dX3_addLowestFirst_20 : decode cX3_addLowestFirst 20 = .ok (.goto (-18), 3) := by decide +kernel
theorem dX3_addLowestFirst_23 : decode cX3_addLowestFirst 23 = .ok (.return_, 1) := by decide +kernel
set_option maxRecDepth 20000 in
theorem ggX3_addPart_X3_at : GoodIn wsX3_addPart wsX3_at := goodIn_r _ [5, 6, 7, 12, 13] (by decide +kernel) (by decide +kernel)
set_option maxRecDepth 20000 in
theorem gX3_addPart_X3_at : GoodIn wsX3_addPart (wsV RX3 23 RX3 yX3_at wsX3_at) := goodIn_app (goodIn_of _ (by decide +kernel)) ggX3_addPart_X3_at
set_option maxRecDepth 20000 in
theorem ggX3_addPart_X3_add : GoodIn wsX3_addPart wsX3_add := goodIn_r _ [11, 6, 7, 12, 13] (by decide +kernel) (by decide +kernel)
set_option maxRecDepth 20000 in
theorem gX3_addPart_X3_add : GoodIn wsX3_addPart (wsV RX3 19 RX3 yX3_add wsX3_add) := goodIn_app (goodIn_of _ (by decide +kernel)) ggX3_addPart_X3_add
theorem dX3_addPart_0 : decode cX3_addPart 0 = .ok (.iconst 0, 1) := by decide +kernel
theorem dX3_addPart_1 : decode cX3_addPart 1 = .ok (.istore 4, 2) := by decide +kernel
theorem dX3_addPart_3 : decode cX3_addPart 3 = .ok (.iload 4, 2) := by decide +kernel
theorem dX3_addPart_5 : decode cX3_addPart 5 = .ok (.iload_n 3, 1) := by decide +kernel
theorem dX3_addPart_6 : decode cX3_addPart 6 = .ok (.if_icmp .ge 21, 3) := by decide +kernel
theorem dX3_addPart_9 : decode cX3_addPart 9 = .ok (.aload_n 0, 1) := by decide +kernel
theorem dX3_addPart_10 : decode cX3_addPart 10 = .ok (.aload_n 1, 1) := by decide +kernel
theorem dX3_addPart_11 : decode cX3_addPart 11 = .ok (.iload_n 2, 1) := by decide +kernel
theorem dX3_addPart_12 : decode cX3_addPart 12 = .ok (.iload 4, 2) := by decide +kernel
theorem dX3_addPart_14 : decode cX3_addPart 14 = .ok (.iadd, 1) := by decide +kernel
theorem dX3_addPart_15 : decode cX3_addPart 15 = .ok (.invokevirtual 23, 3) := by decide +kernel
theorem dX3_addPart_18 : decode cX3_addPart 18 = .ok (.invokevirtual 19, 3) := by decide +kernel
theorem dX3_addPart_21 : decode cX3_addPart 21 = .ok (.iinc 4 1, 3) := by decide +kernel
theorem dX3_addPart_24 : decode cX3_addPart 24 = .ok (.goto (-21), 3) := by decide +kernel
theorem dX3_addPart_27 : decode cX3_addPart 27 = .ok (.return_, 1) := by decide +kernel
set_option maxRecDepth 20000 in
theorem ggX3_numberLowestFirst_X3_at : GoodIn wsX3_numberLowestFirst wsX3_at := goodIn_r _ [5, 6, 7, 8, 9] (by decide +kernel) (by decide +kernel)
set_option maxRecDepth 20000 in
theorem gX3_numberLowestFirst_X3_at : GoodIn wsX3_numberLowestFirst (wsV RX3 23 RX3 yX3_at wsX3_at) := goodIn_app (goodIn_of _ (by decide +kernel)) ggX3_numberLowestFirst_X3_at
theorem dX3_numberLowestFirst_0 : decode cX3_numberLowestFirst 0 = .ok (.iconst 0, 1) := by decide +kernel
theorem dX3_numberLowestFirst_1 : decode cX3_numberLowestFirst 1 = .ok (.istore_n 3, 1) := by decide +kernel
theorem dX3_numberLowestFirst_2 : decode cX3_numberLowestFirst 2 = .ok (.iconst 0, 1) := by decide +kernel
theorem dX3_numberLowestFirst_3 : decode cX3_numberLowestFirst 3 = .ok (.istore 4, 2) := by decide +kernel
theorem dX3_numberLowestFirst_5 : decode cX3_numberLowestFirst 5 = .ok (.iload 4, 2) := by decide +kernel
theorem dX3_numberLowestFirst_7 : decode cX3_numberLowestFirst 7 = .ok (.iload_n 2, 1) := by decide +kernel
theorem dX3_numberLowestFirst_8 : decode cX3_numberLowestFirst 8 = .ok (.if_icmp .ge 26, 3) := by decide +kernel
theorem dX3_numberLowestFirst_11 : decode cX3_numberLowestFirst 11 = .ok (.iload_n 3, 1) := by decide +kernel
theorem dX3_numberLowestFirst_12 : decode cX3_numberLowestFirst 12 = .ok (.aload_n 0, 1) := by decide +kernel
theorem dX3_numberLowestFirst_13 : decode cX3_numberLowestFirst 13 = .ok (.iload_n 1, 1) := by decide +kernel
theorem dX3_numberLowestFirst_14 : decode cX3_numberLowestFirst 14 = .ok (.iload 4, 2) := by decide +kernel
theorem dX3_numberLowestFirst_16 : decode cX3_numberLowestFirst 16 = .ok (.iadd, 1) := by decide +kernel
theorem dX3_numberLowestFirst_17 : decode cX3_numberLowestFirst 17 = .ok (.invokevirtual 23, 3) := by decide +kernel
theorem dX3_numberLowestFirst_20 : decode cX3_numberLowestFirst 20 = .ok (.bipush 8, 2) := by decide +kernel
theorem dX3_numberLowestFirst_22 : decode cX3_numberLowestFirst 22 = .ok (.iload 4, 2) := by decide +kernel
theorem dX3_numberLowestFirst_24 : decode cX3_numberLowestFirst 24 = .ok (.imul, 1) := by decide +kernel
theorem dX3_numberLowestFirst_25 : decode cX3_numberLowestFirst 25 = .ok (.ishl, 1) := by decide +kernel
theorem dX3_numberLowestFirst_26 : decode cX3_numberLowestFirst 26 = .ok (.ior, 1) := by decide +kernel
theorem dX3_numberLowestFirst_27 : decode cX3_numberLowestFirst 27 = .ok (.istore_n 3, 1) := by decide +kernel
theorem dX3_numberLowestFirst_28 : decode cX3_numberLowestFirst 28 = .ok (.iinc 4 1, 3) := by decide +kernel
theorem dX3_numberLowestFirst_31 : decode cX3_numberLowestFirst 31 = .ok (.goto (-26), 3) := by decide +kernel
theorem dX3_numberLowestFirst_34 : decode cX3_numberLowestFirst 34 = .ok (.iload_n 3, 1) := by decide +kernel
theorem dX3_numberLowestFirst_35 : decode cX3_numberLowestFirst 35 = .ok (.ireturn, 1) := by decide +kernel
set_option maxRecDepth 20000 in
theorem ggX3_replace_X3_has : GoodIn wsX3_replace wsX3_has := goodIn_r _ [6, 7, 8, 9] (by decide +kernel) (by decide +kernel)
set_option maxRecDepth 20000 in
theorem gX3_replace_X3_has : GoodIn wsX3_replace (wsV RX3 27 RX3 yX3_has wsX3_has) := goodIn_app (goodIn_of _ (by decide +kernel)) ggX3_replace_X3_has
theorem dX3_replace_0 : decode cX3_replace 0 = .ok (.aload_n 0, 1) := by decide +kernel
theorem dX3_replace_1 : decode cX3_replace 1 = .ok (.iload_n 1, 1) := by decide +kernel
theorem dX3_replace_2 : decode cX3_replace 2 = .ok (.invokevirtual 27, 3) := by decide +kernel
theorem dX3_replace_5 : decode cX3_replace 5 = .ok (.ifCond .eq 11, 3) := by decide +kernel
theorem dX3_replace_8 : decode cX3_replace 8 = .ok (.aload_n 0, 1) := by decide +kernel
theorem dX3_replace_9 : decode cX3_replace 9 = .ok (.getfield 9, 3) := by decide +kernel
theorem dX3_replace_12 : decode cX3_replace 12 = .ok (.iload_n 1, 1) := by decide +kernel
theorem dX3_replace_13 : decode cX3_replace 13 = .ok (.iload_n 2, 1) := by decide +kernel
theorem dX3_replace_14 : decode cX3_replace 14 = .ok (.i2b, 1) := by decide +kernel
theorem dX3_replace_15 : decode cX3_replace 15 = .ok (.bastore, 1) := by decide +kernel
theorem dX3_replace_16 : decode cX3_replace 16 = .ok (.return_, 1) := by decide +kernel
theorem dX3_shorten_0 : decode cX3_shorten 0 = .ok (.iload_n 1, 1) := by decide +kernel
theorem dX3_shorten_1 : decode cX3_shorten 1 = .ok (.ifCond .lt 16, 3) := by decide +kernel
theorem dX3_shorten_4 : decode cX3_shorten 4 = .ok (.iload_n 1, 1) := by decide +kernel
theorem dX3_shorten_5 : decode cX3_shorten 5 = .ok (.aload_n 0, 1) := by decide +kernel
theorem dX3_shorten_6 : decode cX3_shorten 6 = .ok (.getfield 15, 3) := by decide +kernel
theorem dX3_shorten_9 : decode cX3_shorten 9 = .ok (.if_icmp .ge 8, 3) := by decide +kernel
theorem dX3_shorten_12 : decode cX3_shorten 12 = .ok (.aload_n 0, 1) := by decide +kernel
theorem dX3_shorten_13 : decode cX3_shorten 13 = .ok (.iload_n 1, 1) := by decide +kernel
theorem dX3_shorten_14 : decode cX3_shorten 14 = .ok (.putfield 15, 3) := by decide +kernel
theorem dX3_shorten_17 : decode cX3_shorten 17 = .ok (.return_, 1) := by decide +kernel
end
section
set_option maxRecDepth 20000 in
theorem ggX4_of_X4_withByte : GoodIn wsX4_of wsX4_withByte := goodIn_r _ [5, 6] (by decide +kernel) (by decide +kernel)
set_option maxRecDepth 20000 in
theorem gX4_of_X4_withByte : GoodIn wsX4_of (va_wsS RX4 7 yX4_withByte wsX4_withByte) := goodIn_app (goodIn_of _ (by decide +kernel)) ggX4_of_X4_withByte
set_option maxRecDepth 20000 in
theorem ggX4_of_X3_at : GoodIn wsX4_of wsX3_at := goodIn_r _ [11, 12, 13, 14, 15] (by decide +kernel) (by decide +kernel)
set_option maxRecDepth 20000 in
theorem gX4_of_X3_at : GoodIn wsX4_of (wsV RX4 13 RX3 yX3_at wsX3_at) := goodIn_app (goodIn_of _ (by decide +kernel)) ggX4_of_X3_at
theorem dX4_of_0 : decode cX4_of 0 = .ok (.iconst (-1), 1) := by decide +kernel
theorem dX4_of_1 : decode cX4_of 1 = .ok (.iload_n 0, 1) := by decide +kernel
theorem dX4_of_2 : decode cX4_of 2 = .ok (.invokestatic 7, 3) := by decide +kernel
theorem dX4_of_5 : decode cX4_of 5 = .ok (.istore 4, 2) := by decide +kernel
theorem dX4_of_7 : decode cX4_of 7 = .ok (.iconst 0, 1) := by decide +kernel
theorem dX4_of_8 : decode cX4_of 8 = .ok (.istore 5, 2) := by decide +kernel
theorem dX4_of_10 : decode cX4_of 10 = .ok (.iload 5, 2) := by decide +kernel
theorem dX4_of_12 : decode cX4_of 12 = .ok (.iload_n 3, 1) := by decide +kernel
theorem dX4_of_13 : decode cX4_of 13 = .ok (.if_icmp .ge 24, 3) := by decide +kernel
theorem dX4_of_16 : decode cX4_of 16 = .ok (.iload 4, 2) := by decide +kernel
theorem dX4_of_18 : decode cX4_of 18 = .ok (.aload_n 1, 1) := by decide +kernel
theorem dX4_of_19 : decode cX4_of 19 = .ok (.iload_n 2, 1) := by decide +kernel
theorem dX4_of_20 : decode cX4_of 20 = .ok (.iload 5, 2) := by decide +kernel
theorem dX4_of_22 : decode cX4_of 22 = .ok (.iadd, 1) := by decide +kernel
theorem dX4_of_23 : decode cX4_of 23 = .ok (.invokevirtual 13, 3) := by decide +kernel
theorem dX4_of_26 : decode cX4_of 26 = .ok (.invokestatic 7, 3) := by decide +kernel
theorem dX4_of_29 : decode cX4_of 29 = .ok (.istore 4, 2) := by decide +kernel
theorem dX4_of_31 : decode cX4_of 31 = .ok (.iinc 5 1, 3) := by decide +kernel
theorem dX4_of_34 : decode cX4_of 34 = .ok (.goto (-24), 3) := by decide +kernel
theorem dX4_of_37 : decode cX4_of 37 = .ok (.iload 4, 2) := by decide +kernel
theorem dX4_of_39 : decode cX4_of 39 = .ok (.iconst (-1), 1) := by decide +kernel
theorem dX4_of_40 : decode cX4_of 40 = .ok (.ixor, 1) := by decide +kernel
theorem dX4_of_41 : decode cX4_of 41 = .ok (.istore 4, 2) := by decide +kernel
theorem dX4_of_43 : decode cX4_of 43 = .ok (.iload 4, 2) := by decide +kernel
theorem dX4_of_45 : decode cX4_of 45 = .ok (.bipush 15, 2) := by decide +kernel
theorem dX4_of_47 : decode cX4_of 47 = .ok (.iushr, 1) := by decide +kernel
theorem dX4_of_48 : decode cX4_of 48 = .ok (.iload 4, 2) := by decide +kernel
theorem dX4_of_50 : decode cX4_of 50 = .ok (.bipush 17, 2) := by decide +kernel
theorem dX4_of_52 : decode cX4_of 52 = .ok (.ishl, 1) := by decide +kernel
theorem dX4_of_53 : decode cX4_of 53 = .ok (.ior, 1) := by decide +kernel
theorem dX4_of_54 : decode cX4_of 54 = .ok (.ldc 19, 2) := by decide +kernel
theorem dX4_of_56 : decode cX4_of 56 = .ok (.iadd, 1) := by decide +kernel
theorem dX4_of_57 : decode cX4_of 57 = .ok (.ireturn, 1) := by decide +kernel
theorem dX4_withByte_0 : decode cX4_withByte 0 = .ok (.iload_n 0, 1) := by decide +kernel
theorem dX4_withByte_1 : decode cX4_withByte 1 = .ok (.iconst 4, 1) := by decide +kernel
theorem dX4_withByte_2 : decode cX4_withByte 2 = .ok (.iushr, 1) := by decide +kernel
theorem dX4_withByte_3 : decode cX4_withByte 3 = .ok (.getstatic 20, 3) := by decide +kernel
theorem dX4_withByte_6 : decode cX4_withByte 6 = .ok (.iload_n 0, 1) := by decide +kernel
theorem dX4_withByte_7 : decode cX4_withByte 7 = .ok (.iload_n 1, 1) := by decide +kernel
theorem dX4_withByte_8 : decode cX4_withByte 8 = .ok (.ixor, 1) := by decide +kernel
theorem dX4_withByte_9 : decode cX4_withByte 9 = .ok (.bipush 15, 2) := by decide +kernel
theorem dX4_withByte_11 : decode cX4_withByte 11 = .ok (.iand, 1) := by decide +kernel
theorem dX4_withByte_12 : decode cX4_withByte 12 = .ok (.iaload, 1) := by decide +kernel
theorem dX4_withByte_13 : decode cX4_withByte 13 = .ok (.ixor, 1) := by decide +kernel
theorem dX4_withByte_14 : decode cX4_withByte 14 = .ok (.istore_n 2, 1) := by decide +kernel
theorem dX4_withByte_15 : decode cX4_withByte 15 = .ok (.iload_n 2, 1) := by decide +kernel
theorem dX4_withByte_16 : decode cX4_withByte 16 = .ok (.iconst 4, 1) := by decide +kernel
theorem dX4_withByte_17 : decode cX4_withByte 17 = .ok (.iushr, 1) := by decide +kernel
theorem dX4_withByte_18 : decode cX4_withByte 18 = .ok (.getstatic 20, 3) := by decide +kernel
theorem dX4_withByte_21 : decode cX4_withByte 21 = .ok (.iload_n 2, 1) := by decide +kernel
theorem dX4_withByte_22 : decode cX4_withByte 22 = .ok (.iload_n 1, 1) := by decide +kernel
theorem dX4_withByte_23 : decode cX4_withByte 23 = .ok (.iconst 4, 1) := by decide +kernel
theorem dX4_withByte_24 : decode cX4_withByte 24 = .ok (.iushr, 1) := by decide +kernel
theorem dX4_withByte_25 : decode cX4_withByte 25 = .ok (.ixor, 1) := by decide +kernel
theorem dX4_withByte_26 : decode cX4_withByte 26 = .ok (.bipush 15, 2) := by decide +kernel
theorem dX4_withByte_28 : decode cX4_withByte 28 = .ok (.iand, 1) := by decide +kernel
theorem dX4_withByte_29 : decode cX4_withByte 29 = .ok (.iaload, 1) := by decide +kernel
theorem dX4_withByte_30 : decode cX4_withByte 30 = .ok (.ixor, 1) := by decide +kernel
theorem dX4_withByte_31 : decode cX4_withByte 31 = .ok (.ireturn, 1) := by decide +kernel
end
section
set_option maxRecDepth 20000 in
theorem ggX5_init_X3_init : GoodIn wsX5_init wsX3_init := goodIn_r _ [18, 19, 2, 3, 20, 21, 22, 57, 58] (by decide +kernel) (by decide +kernel)
set_option maxRecDepth 20000 in
theorem gX5_init_X3_init : GoodIn wsX5_init (wsX3_init) := ggX5_init_X3_init
set_option maxRecDepth 20000 in
theorem ggX5_init_X0_init : GoodIn wsX5_init wsX0_init := goodIn_r _ [24, 25, 2, 3, 26, 5, 6, 27, 28, 29, 17, 18, 19, 20, 21, 22, 57, 58, 62, 63] (by decide +kernel) (by decide +kernel)
set_option maxRecDepth 20000 in
theorem gX5_init_X0_init_n20 : GoodIn wsX5_init (wsX0_init) := ggX5_init_X0_init
set_option maxRecDepth 20000 in
theorem ggX5_init_X2_init : GoodIn wsX5_init wsX2_init := goodIn_r _ [32, 33, 2, 3, 34, 35, 36, 37, 38, 5, 6, 39, 40, 41, 42, 43, 44, 45, 46, 47, 48, 49, 50, 51, 52, 53, 54, 55, 56, 17, 18, 19, 20, 21, 22, 74, 75, 76, 77, 64, 65, 66, 67, 68, 69, 70, 71, 72, 73, 57, 58] (by decide +kernel) (by decide +kernel)
set_option maxRecDepth 20000 in
theorem gX5_init_X2_init : GoodIn wsX5_init (wsX2_init) := ggX5_init_X2_init
theorem dX5_init_0 : decode cX5_init 0 = .ok (.aload_n 0, 1) := by decide +kernel
theorem dX5_init_1 : decode cX5_init 1 = .ok (.invokespecial 1, 3) := by decide +kernel
theorem dX5_init_4 : decode cX5_init 4 = .ok (.aload_n 0, 1) := by decide +kernel
theorem dX5_init_5 : decode cX5_init 5 = .ok (.new 7, 3) := by decide +kernel
theorem dX5_init_8 : decode cX5_init 8 = .ok (.dup, 1) := by decide +kernel
theorem dX5_init_9 : decode cX5_init 9 = .ok (.sipush 400, 3) := by decide +kernel
theorem dX5_init_12 : decode cX5_init 12 = .ok (.invokespecial 11, 3) := by decide +kernel
theorem dX5_init_15 : decode cX5_init 15 = .ok (.putfield 14, 3) := by decide +kernel
theorem dX5_init_18 : decode cX5_init 18 = .ok (.aload_n 0, 1) := by decide +kernel
theorem dX5_init_19 : decode cX5_init 19 = .ok (.new 18, 3) := by decide +kernel
theorem dX5_init_22 : decode cX5_init 22 = .ok (.dup, 1) := by decide +kernel
theorem dX5_init_23 : decode cX5_init 23 = .ok (.invokespecial 20, 3) := by decide +kernel
theorem dX5_init_26 : decode cX5_init 26 = .ok (.putfield 21, 3) := by decide +kernel
theorem dX5_init_29 : decode cX5_init 29 = .ok (.aload_n 0, 1) := by decide +kernel
theorem dX5_init_30 : decode cX5_init 30 = .ok (.new 25, 3) := by decide +kernel
theorem dX5_init_33 : decode cX5_init 33 = .ok (.dup, 1) := by decide +kernel
theorem dX5_init_34 : decode cX5_init 34 = .ok (.aload_n 0, 1) := by decide +kernel
theorem dX5_init_35 : decode cX5_init 35 = .ok (.getfield 21, 3) := by decide +kernel
theorem dX5_init_38 : decode cX5_init 38 = .ok (.invokespecial 27, 3) := by decide +kernel
theorem dX5_init_41 : decode cX5_init 41 = .ok (.putfield 30, 3) := by decide +kernel
theorem dX5_init_44 : decode cX5_init 44 = .ok (.return_, 1) := by decide +kernel
set_option maxRecDepth 20000 in
theorem ggX5_clear_X0_startAnew : GoodIn wsX5_clear wsX0_startAnew := goodIn_r _ [9, 10, 11, 12, 13, 14, 15, 16, 17, 47, 48, 49, 50] (by decide +kernel) (by decide +kernel)
set_option maxRecDepth 20000 in
theorem gX5_clear_X0_startAnew : GoodIn wsX5_clear (wsV RX5 41 RX0 yX0_startAnew wsX0_startAnew) := goodIn_app (goodIn_of _ (by decide +kernel)) ggX5_clear_X0_startAnew
set_option maxRecDepth 20000 in
theorem ggX5_clear_X2_beginAt : GoodIn wsX5_clear wsX2_beginAt := goodIn_r _ [22, 23, 24, 25, 26, 27, 28, 29, 30, 8, 31, 11, 32, 33, 34, 35, 36, 37, 38, 39, 40, 41, 42, 43, 51, 52, 53, 54, 55, 56, 57, 58, 59, 60, 47, 48, 61, 62, 63, 64] (by decide +kernel) (by decide +kernel)
set_option maxRecDepth 20000 in
theorem gX5_clear_X2_beginAt : GoodIn wsX5_clear (wsV RX5 44 RX2 yX2_beginAt wsX2_beginAt) := goodIn_app (goodIn_of _ (by decide +kernel)) ggX5_clear_X2_beginAt
theorem dX5_clear_0 : decode cX5_clear 0 = .ok (.iload_n 1, 1) := by decide +kernel
theorem dX5_clear_1 : decode cX5_clear 1 = .ok (.bipush 16, 2) := by decide +kernel
theorem dX5_clear_3 : decode cX5_clear 3 = .ok (.if_icmp .lt 10, 3) := by decide +kernel
theorem dX5_clear_6 : decode cX5_clear 6 = .ok (.iload_n 1, 1) := by decide +kernel
theorem dX5_clear_7 : decode cX5_clear 7 = .ok (.sipush 512, 3) := by decide +kernel
theorem dX5_clear_10 : decode cX5_clear 10 = .ok (.if_icmp .le 13, 3) := by decide +kernel
theorem dX5_clear_13 : decode cX5_clear 13 = .ok (.new 34, 3) := by decide +kernel
theorem dX5_clear_16 : decode cX5_clear 16 = .ok (.dup, 1) := by decide +kernel
theorem dX5_clear_17 : decode cX5_clear 17 = .ok (.ldc 36, 2) := by decide +kernel
theorem dX5_clear_19 : decode cX5_clear 19 = .ok (.invokespecial 38, 3) := by decide +kernel
theorem dX5_clear_22 : decode cX5_clear 22 = .ok (.athrow, 1) := by decide +kernel
theorem dX5_clear_23 : decode cX5_clear 23 = .ok (.aload_n 0, 1) := by decide +kernel
theorem dX5_clear_24 : decode cX5_clear 24 = .ok (.getfield 21, 3) := by decide +kernel
theorem dX5_clear_27 : decode cX5_clear 27 = .ok (.iload_n 1, 1) := by decide +kernel
theorem dX5_clear_28 : decode cX5_clear 28 = .ok (.invokevirtual 41, 3) := by decide +kernel
theorem dX5_clear_31 : decode cX5_clear 31 = .ok (.aload_n 0, 1) := by decide +kernel
theorem dX5_clear_32 : decode cX5_clear 32 = .ok (.getfield 30, 3) := by decide +kernel
theorem dX5_clear_35 : decode cX5_clear 35 = .ok (.iconst 0, 1) := by decide +kernel
theorem dX5_clear_36 : decode cX5_clear 36 = .ok (.invokevirtual 44, 3) := by decide +kernel
theorem dX5_clear_39 : decode cX5_clear 39 = .ok (.return_, 1) := by decide +kernel
set_option maxRecDepth 20000 in
theorem ggX5_feed_X3_hasRoomFor : GoodIn wsX5_feed wsX3_hasRoomFor := goodIn_r _ [14, 15, 16, 33, 34] (by decide +kernel) (by decide +kernel)
set_option maxRecDepth 20000 in
theorem gX5_feed_X3_hasRoomFor : GoodIn wsX5_feed (wsV RX5 49 RX3 yX3_hasRoomFor wsX3_hasRoomFor) := goodIn_app (goodIn_of _ (by decide +kernel)) ggX5_feed_X3_hasRoomFor
set_option maxRecDepth 20000 in
theorem ggX5_feed_X5_feedFrom : GoodIn wsX5_feed wsX5_feedFrom := goodIn_r _ [21, 5, 22, 23, 24, 13, 25, 16, 15, 30, 31, 32, 33, 34] (by decide +kernel) (by decide +kernel)
set_option maxRecDepth 20000 in
theorem gX5_feed_X5_feedFrom : GoodIn wsX5_feed (wsV RX5 64 RX5 yX5_feedFrom wsX5_feedFrom) := goodIn_app (goodIn_of _ (by decide +kernel)) ggX5_feed_X5_feedFrom
set_option maxRecDepth 20000 in
theorem ggX5_feed_X3_many : GoodIn wsX5_feed wsX3_many := goodIn_r _ [29, 16, 33, 34] (by decide +kernel) (by decide +kernel)
set_option maxRecDepth 20000 in
theorem gX5_feed_X3_many : GoodIn wsX5_feed (wsV RX5 68 RX3 yX3_many wsX3_many) := goodIn_app (goodIn_of _ (by decide +kernel)) ggX5_feed_X3_many
theorem dX5_feed_0 : decode cX5_feed 0 = .ok (.iload_n 1, 1) := by decide +kernel
theorem dX5_feed_1 : decode cX5_feed 1 = .ok (.ifCond .lt 9, 3) := by decide +kernel
theorem dX5_feed_4 : decode cX5_feed 4 = .ok (.iload_n 1, 1) := by decide +kernel
theorem dX5_feed_5 : decode cX5_feed 5 = .ok (.bipush 16, 2) := by decide +kernel
theorem dX5_feed_7 : decode cX5_feed 7 = .ok (.if_icmp .le 13, 3) := by decide +kernel
theorem dX5_feed_10 : decode cX5_feed 10 = .ok (.new 34, 3) := by decide +kernel
theorem dX5_feed_13 : decode cX5_feed 13 = .ok (.dup, 1) := by decide +kernel
theorem dX5_feed_14 : decode cX5_feed 14 = .ok (.ldc 47, 2) := by decide +kernel
theorem dX5_feed_16 : decode cX5_feed 16 = .ok (.invokespecial 38, 3) := by decide +kernel
theorem dX5_feed_19 : decode cX5_feed 19 = .ok (.athrow, 1) := by decide +kernel
theorem dX5_feed_20 : decode cX5_feed 20 = .ok (.aload_n 0, 1) := by decide +kernel
theorem dX5_feed_21 : decode cX5_feed 21 = .ok (.getfield 14, 3) := by decide +kernel
theorem dX5_feed_24 : decode cX5_feed 24 = .ok (.iload_n 1, 1) := by decide +kernel
theorem dX5_feed_25 : decode cX5_feed 25 = .ok (.invokevirtual 49, 3) := by decide +kernel
theorem dX5_feed_28 : decode cX5_feed 28 = .ok (.ifCond .ne 13, 3) := by decide +kernel
theorem dX5_feed_31 : decode cX5_feed 31 = .ok (.new 53, 3) := by decide +kernel
theorem dX5_feed_34 : decode cX5_feed 34 = .ok (.dup, 1) := by decide +kernel
theorem dX5_feed_35 : decode cX5_feed 35 = .ok (.ldc 55, 2) := by decide +kernel
theorem dX5_feed_37 : decode cX5_feed 37 = .ok (.invokespecial 57, 3) := by decide +kernel
theorem dX5_feed_40 : decode cX5_feed 40 = .ok (.athrow, 1) := by decide +kernel
theorem dX5_feed_41 : decode cX5_feed 41 = .ok (.aload_n 0, 1) := by decide +kernel
theorem dX5_feed_42 : decode cX5_feed 42 = .ok (.iload_n 2, 1) := by decide +kernel
theorem dX5_feed_43 : decode cX5_feed 43 = .ok (.iload_n 1, 1) := by decide +kernel
theorem dX5_feed_44 : decode cX5_feed 44 = .ok (.iconst 4, 1) := by decide +kernel
theorem dX5_feed_45 : decode cX5_feed 45 = .ok (.invokestatic 58, 3) := by decide +kernel
theorem dX5_feed_48 : decode cX5_feed 48 = .ok (.invokevirtual 64, 3) := by decide +kernel
theorem dX5_feed_51 : decode cX5_feed 51 = .ok (.aload_n 0, 1) := by decide +kernel
theorem dX5_feed_52 : decode cX5_feed 52 = .ok (.iload_n 3, 1) := by decide +kernel
theorem dX5_feed_53 : decode cX5_feed 53 = .ok (.iload_n 1, 1) := by decide +kernel
theorem dX5_feed_54 : decode cX5_feed 54 = .ok (.iconst 4, 1) := by decide +kernel
theorem dX5_feed_55 : decode cX5_feed 55 = .ok (.isub, 1) := by decide +kernel
theorem dX5_feed_56 : decode cX5_feed 56 = .ok (.iconst 4, 1) := by decide +kernel
theorem dX5_feed_57 : decode cX5_feed 57 = .ok (.invokestatic 58, 3) := by decide +kernel
theorem dX5_feed_60 : decode cX5_feed 60 = .ok (.invokevirtual 64, 3) := by decide +kernel
theorem dX5_feed_63 : decode cX5_feed 63 = .ok (.aload_n 0, 1) := by decide +kernel
theorem dX5_feed_64 : decode cX5_feed 64 = .ok (.iload 4, 2) := by decide +kernel
theorem dX5_feed_66 : decode cX5_feed 66 = .ok (.iload_n 1, 1) := by decide +kernel
theorem dX5_feed_67 : decode cX5_feed 67 = .ok (.bipush 8, 2) := by decide +kernel
theorem dX5_feed_69 : decode cX5_feed 69 = .ok (.isub, 1) := by decide +kernel
theorem dX5_feed_70 : decode cX5_feed 70 = .ok (.iconst 4, 1) := by decide +kernel
theorem dX5_feed_71 : decode cX5_feed 71 = .ok (.invokestatic 58, 3) := by decide +kernel
theorem dX5_feed_74 : decode cX5_feed 74 = .ok (.invokevirtual 64, 3) := by decide +kernel
theorem dX5_feed_77 : decode cX5_feed 77 = .ok (.aload_n 0, 1) := by decide +kernel
theorem dX5_feed_78 : decode cX5_feed 78 = .ok (.iload 5, 2) := by decide +kernel
theorem dX5_feed_80 : decode cX5_feed 80 = .ok (.iload_n 1, 1) := by decide +kernel
theorem dX5_feed_81 : decode cX5_feed 81 = .ok (.bipush 12, 2) := by decide +kernel
theorem dX5_feed_83 : decode cX5_feed 83 = .ok (.isub, 1) := by decide +kernel
theorem dX5_feed_84 : decode cX5_feed 84 = .ok (.iconst 4, 1) := by decide +kernel
theorem dX5_feed_85 : decode cX5_feed 85 = .ok (.invokestatic 58, 3) := by decide +kernel
theorem dX5_feed_88 : decode cX5_feed 88 = .ok (.invokevirtual 64, 3) := by decide +kernel
theorem dX5_feed_91 : decode cX5_feed 91 = .ok (.aload_n 0, 1) := by decide +kernel
theorem dX5_feed_92 : decode cX5_feed 92 = .ok (.getfield 14, 3) := by decide +kernel
theorem dX5_feed_95 : decode cX5_feed 95 = .ok (.invokevirtual 68, 3) := by decide +kernel
theorem dX5_feed_98 : decode cX5_feed 98 = .ok (.ireturn, 1) := by decide +kernel
set_option maxRecDepth 20000 in
theorem ggX5_feedFrom_X3_add : GoodIn wsX5_feedFrom wsX3_add := goodIn_r _ [6, 7, 8, 12, 13] (by decide +kernel) (by decide +kernel)
set_option maxRecDepth 20000 in
theorem gX5_feedFrom_X3_add : GoodIn wsX5_feedFrom (wsV RX5 72 RX3 yX3_add wsX3_add) := goodIn_app (goodIn_of _ (by decide +kernel)) ggX5_feedFrom_X3_add
theorem dX5_feedFrom_0 : decode cX5_feedFrom 0 = .ok (.iconst 0, 1) := by decide +kernel
theorem dX5_feedFrom_1 : decode cX5_feedFrom 1 = .ok (.istore_n 3, 1) := by decide +kernel
theorem dX5_feedFrom_2 : decode cX5_feedFrom 2 = .ok (.iload_n 3, 1) := by decide +kernel
theorem dX5_feedFrom_3 : decode cX5_feedFrom 3 = .ok (.iload_n 2, 1) := by decide +kernel
theorem dX5_feedFrom_4 : decode cX5_feedFrom 4 = .ok (.if_icmp .ge 25, 3) := by decide +kernel
theorem dX5_feedFrom_7 : decode cX5_feedFrom 7 = .ok (.aload_n 0, 1) := by decide +kernel
theorem dX5_feedFrom_8 : decode cX5_feedFrom 8 = .ok (.getfield 14, 3) := by decide +kernel
theorem dX5_feedFrom_11 : decode cX5_feedFrom 11 = .ok (.iload_n 1, 1) := by decide +kernel
theorem dX5_feedFrom_12 : decode cX5_feedFrom 12 = .ok (.bipush 24, 2) := by decide +kernel
theorem dX5_feedFrom_14 : decode cX5_feedFrom 14 = .ok (.bipush 8, 2) := by decide +kernel
theorem dX5_feedFrom_16 : decode cX5_feedFrom 16 = .ok (.iload_n 3, 1) := by decide +kernel
theorem dX5_feedFrom_17 : decode cX5_feedFrom 17 = .ok (.imul, 1) := by decide +kernel
theorem dX5_feedFrom_18 : decode cX5_feedFrom 18 = .ok (.isub, 1) := by decide +kernel
theorem dX5_feedFrom_19 : decode cX5_feedFrom 19 = .ok (.iushr, 1) := by decide +kernel
theorem dX5_feedFrom_20 : decode cX5_feedFrom 20 = .ok (.invokevirtual 72, 3) := by decide +kernel
theorem dX5_feedFrom_23 : decode cX5_feedFrom 23 = .ok (.iinc 3 1, 3) := by decide +kernel
theorem dX5_feedFrom_26 : decode cX5_feedFrom 26 = .ok (.goto (-24), 3) := by decide +kernel
theorem dX5_feedFrom_29 : decode cX5_feedFrom 29 = .ok (.return_, 1) := by decide +kernel
set_option maxRecDepth 20000 in
theorem ggX5_erase_X3_many : GoodIn wsX5_erase wsX3_many := goodIn_r _ [6, 7, 15, 16] (by decide +kernel) (by decide +kernel)
set_option maxRecDepth 20000 in
theorem gX5_erase_X3_many : GoodIn wsX5_erase (wsV RX5 68 RX3 yX3_many wsX3_many) := goodIn_app (goodIn_of _ (by decide +kernel)) ggX5_erase_X3_many
set_option maxRecDepth 20000 in
theorem ggX5_erase_X3_shorten : GoodIn wsX5_erase wsX3_shorten := goodIn_r _ [11, 7, 15, 16] (by decide +kernel) (by decide +kernel)
set_option maxRecDepth 20000 in
theorem gX5_erase_X3_shorten : GoodIn wsX5_erase (wsV RX5 75 RX3 yX3_shorten wsX3_shorten) := goodIn_app (goodIn_of _ (by decide +kernel)) ggX5_erase_X3_shorten
theorem dX5_erase_0 : decode cX5_erase 0 = .ok (.aload_n 0, 1) := by decide +kernel
theorem dX5_erase_1 : decode cX5_erase 1 = .ok (.getfield 14, 3) := by decide +kernel
theorem dX5_erase_4 : decode cX5_erase 4 = .ok (.invokevirtual 68, 3) := by decide +kernel
theorem dX5_erase_7 : decode cX5_erase 7 = .ok (.istore_n 1, 1) := by decide +kernel
theorem dX5_erase_8 : decode cX5_erase 8 = .ok (.aload_n 0, 1) := by decide +kernel
theorem dX5_erase_9 : decode cX5_erase 9 = .ok (.getfield 14, 3) := by decide +kernel
theorem dX5_erase_12 : decode cX5_erase 12 = .ok (.iconst 0, 1) := by decide +kernel
theorem dX5_erase_13 : decode cX5_erase 13 = .ok (.invokevirtual 75, 3) := by decide +kernel
theorem dX5_erase_16 : decode cX5_erase 16 = .ok (.iload_n 1, 1) := by decide +kernel
theorem dX5_erase_17 : decode cX5_erase 17 = .ok (.ireturn, 1) := by decide +kernel
set_option maxRecDepth 20000 in
theorem ggX5_check_X5_isByte : GoodIn wsX5_check wsX5_isByte := goodIn_r _ [7] (by decide +kernel) (by decide +kernel)
set_option maxRecDepth 20000 in
theorem gX5_check_X5_isByte : GoodIn wsX5_check (va_wsS RX5 78 yX5_isByte wsX5_isByte) := goodIn_app (goodIn_of _ (by decide +kernel)) ggX5_check_X5_isByte
set_option maxRecDepth 20000 in
theorem ggX5_check_X3_many : GoodIn wsX5_check wsX3_many := goodIn_r _ [12, 13, 31, 32] (by decide +kernel) (by decide +kernel)
set_option maxRecDepth 20000 in
theorem gX5_check_X3_many : GoodIn wsX5_check (wsV RX5 68 RX3 yX3_many wsX3_many) := goodIn_app (goodIn_of _ (by decide +kernel)) ggX5_check_X3_many
set_option maxRecDepth 20000 in
theorem ggX5_check_X4_of : GoodIn wsX5_check wsX4_of := goodIn_r _ [17, 18, 19, 20, 16, 21, 22, 23, 24, 25, 11, 26, 13, 27, 31, 32] (by decide +kernel) (by decide +kernel)
set_option maxRecDepth 20000 in
theorem gX5_check_X4_of : GoodIn wsX5_check (va_wsS RX5 83 yX4_of wsX4_of) := goodIn_app (goodIn_of _ (by decide +kernel)) ggX5_check_X4_of
theorem dX5_check_0 : decode cX5_check 0 = .ok (.iload_n 1, 1) := by decide +kernel
theorem dX5_check_1 : decode cX5_check 1 = .ok (.invokestatic 78, 3) := by decide +kernel
theorem dX5_check_4 : decode cX5_check 4 = .ok (.ifCond .ne 13, 3) := by decide +kernel
theorem dX5_check_7 : decode cX5_check 7 = .ok (.new 34, 3) := by decide +kernel
theorem dX5_check_10 : decode cX5_check 10 = .ok (.dup, 1) := by decide +kernel
theorem dX5_check_11 : decode cX5_check 11 = .ok (.ldc 81, 2) := by decide +kernel
theorem dX5_check_13 : decode cX5_check 13 = .ok (.invokespecial 38, 3) := by decide +kernel
theorem dX5_check_16 : decode cX5_check 16 = .ok (.athrow, 1) := by decide +kernel
theorem dX5_check_17 : decode cX5_check 17 = .ok (.iload_n 1, 1) := by decide +kernel
theorem dX5_check_18 : decode cX5_check 18 = .ok (.aload_n 0, 1) := by decide +kernel
theorem dX5_check_19 : decode cX5_check 19 = .ok (.getfield 14, 3) := by decide +kernel
theorem dX5_check_22 : decode cX5_check 22 = .ok (.iconst 0, 1) := by decide +kernel
theorem dX5_check_23 : decode cX5_check 23 = .ok (.aload_n 0, 1) := by decide +kernel
theorem dX5_check_24 : decode cX5_check 24 = .ok (.getfield 14, 3) := by decide +kernel
theorem dX5_check_27 : decode cX5_check 27 = .ok (.invokevirtual 68, 3) := by decide +kernel
theorem dX5_check_30 : decode cX5_check 30 = .ok (.invokestatic 83, 3) := by decide +kernel
theorem dX5_check_33 : decode cX5_check 33 = .ok (.ireturn, 1) := by decide +kernel
set_option maxRecDepth 20000 in
theorem ggX5_append_X0_addRecord : GoodIn wsX5_append wsX0_addRecord := goodIn_r _ [7, 8, 9, 10, 11, 12, 13, 14, 15, 16, 17, 6, 18, 19, 20, 21, 22, 23, 24, 25, 26, 27, 28, 29, 30, 31, 32, 33, 34, 35, 36, 37, 38, 39, 40, 41, 42, 43, 44, 45, 46, 47, 48, 49, 50, 51, 52, 53, 54, 55, 56, 57, 58, 59, 60, 61, 62, 63, 64, 65, 66, 67, 68, 69, 70, 71, 72, 73, 74, 75, 76, 77, 78, 79, 80, 81, 82, 91, 92, 93, 94] (by decide +kernel) (by decide +kernel)
set_option maxRecDepth 20000 in
theorem gX5_append_X0_addRecord : GoodIn wsX5_append (wsV RX5 89 RX0 yX0_addRecord wsX0_addRecord) := goodIn_app (goodIn_of _ (by decide +kernel)) ggX5_append_X0_addRecord
set_option maxRecDepth 20000 in
theorem ggX5_append_X0_bytes : GoodIn wsX5_append wsX0_bytes := goodIn_r _ [86, 8, 91, 92] (by decide +kernel) (by decide +kernel)
set_option maxRecDepth 20000 in
theorem gX5_append_X0_bytes : GoodIn wsX5_append (wsV RX5 93 RX0 yX0_bytes wsX0_bytes) := goodIn_app (goodIn_of _ (by decide +kernel)) ggX5_append_X0_bytes
set_option maxRecDepth 20000 in
theorem ggX5_append_X3_many : GoodIn wsX5_append wsX3_many := goodIn_r _ [13, 14, 93, 94] (by decide +kernel) (by decide +kernel)
set_option maxRecDepth 20000 in
theorem gX5_append_X3_many : GoodIn wsX5_append (wsV RX5 68 RX3 yX3_many wsX3_many) := goodIn_app (goodIn_of _ (by decide +kernel)) ggX5_append_X3_many
theorem dX5_append_0 : decode cX5_append 0 = .ok (.aload_n 0, 1) := by decide +kernel
theorem dX5_append_1 : decode cX5_append 1 = .ok (.getfield 21, 3) := by decide +kernel
theorem dX5_append_4 : decode cX5_append 4 = .ok (.aload_n 0, 1) := by decide +kernel
theorem dX5_append_5 : decode cX5_append 5 = .ok (.getfield 14, 3) := by decide +kernel
theorem dX5_append_8 : decode cX5_append 8 = .ok (.invokevirtual 89, 3) := by decide +kernel
theorem dX5_append_11 : decode cX5_append 11 = .ok (.ifCond .eq 16, 3) := by decide +kernel
theorem dX5_append_14 : decode cX5_append 14 = .ok (.aload_n 0, 1) := by decide +kernel
theorem dX5_append_15 : decode cX5_append 15 = .ok (.getfield 21, 3) := by decide +kernel
theorem dX5_append_18 : decode cX5_append 18 = .ok (.invokevirtual 93, 3) := by decide +kernel
theorem dX5_append_21 : decode cX5_append 21 = .ok (.invokevirtual 68, 3) := by decide +kernel
theorem dX5_append_24 : decode cX5_append 24 = .ok (.goto 5, 3) := by decide +kernel
theorem dX5_append_27 : decode cX5_append 27 = .ok (.bipush (-2), 2) := by decide +kernel
theorem dX5_append_29 : decode cX5_append 29 = .ok (.ireturn, 1) := by decide +kernel
set_option maxRecDepth 20000 in
theorem ggX5_raw_X5_isByte : GoodIn wsX5_raw wsX5_isByte := goodIn_r _ [8] (by decide +kernel) (by decide +kernel)
set_option maxRecDepth 20000 in
theorem gX5_raw_X5_isByte : GoodIn wsX5_raw (va_wsS RX5 78 yX5_isByte wsX5_isByte) := goodIn_app (goodIn_of _ (by decide +kernel)) ggX5_raw_X5_isByte
set_option maxRecDepth 20000 in
theorem ggX5_raw_X3_many : GoodIn wsX5_raw wsX3_many := goodIn_r _ [13, 14, 60, 61] (by decide +kernel) (by decide +kernel)
set_option maxRecDepth 20000 in
theorem gX5_raw_X3_many : GoodIn wsX5_raw (wsV RX5 68 RX3 yX3_many wsX3_many) := goodIn_app (goodIn_of _ (by decide +kernel)) ggX5_raw_X3_many
set_option maxRecDepth 20000 in
theorem ggX5_raw_X0_addFragment : GoodIn wsX5_raw wsX0_addFragment := goodIn_r _ [19, 20, 21, 22, 23, 12, 24, 25, 14, 26, 27, 28, 29, 30, 31, 32, 33, 34, 35, 36, 37, 38, 39, 40, 41, 42, 43, 44, 45, 46, 47, 48, 49, 50, 51, 52, 62, 63, 60, 61] (by decide +kernel) (by decide +kernel)
set_option maxRecDepth 20000 in
theorem gX5_raw_X0_addFragment : GoodIn wsX5_raw (wsV RX5 97 RX0 yX0_addFragment wsX0_addFragment) := goodIn_app (goodIn_of _ (by decide +kernel)) ggX5_raw_X0_addFragment
set_option maxRecDepth 20000 in
theorem ggX5_raw_X0_bytes : GoodIn wsX5_raw wsX0_bytes := goodIn_r _ [56, 20, 62, 63] (by decide +kernel) (by decide +kernel)
set_option maxRecDepth 20000 in
theorem gX5_raw_X0_bytes : GoodIn wsX5_raw (wsV RX5 93 RX0 yX0_bytes wsX0_bytes) := goodIn_app (goodIn_of _ (by decide +kernel)) ggX5_raw_X0_bytes
theorem dX5_raw_0 : decode cX5_raw 0 = .ok (.iload_n 1, 1) := by decide +kernel
theorem dX5_raw_1 : decode cX5_raw 1 = .ok (.invokestatic 78, 3) := by decide +kernel
theorem dX5_raw_4 : decode cX5_raw 4 = .ok (.ifCond .ne 13, 3) := by decide +kernel
theorem dX5_raw_7 : decode cX5_raw 7 = .ok (.new 34, 3) := by decide +kernel
theorem dX5_raw_10 : decode cX5_raw 10 = .ok (.dup, 1) := by decide +kernel
theorem dX5_raw_11 : decode cX5_raw 11 = .ok (.ldc 81, 2) := by decide +kernel
theorem dX5_raw_13 : decode cX5_raw 13 = .ok (.invokespecial 38, 3) := by decide +kernel
theorem dX5_raw_16 : decode cX5_raw 16 = .ok (.athrow, 1) := by decide +kernel
theorem dX5_raw_17 : decode cX5_raw 17 = .ok (.aload_n 0, 1) := by decide +kernel
theorem dX5_raw_18 : decode cX5_raw 18 = .ok (.getfield 21, 3) := by decide +kernel
theorem dX5_raw_21 : decode cX5_raw 21 = .ok (.iload_n 1, 1) := by decide +kernel
theorem dX5_raw_22 : decode cX5_raw 22 = .ok (.aload_n 0, 1) := by decide +kernel
theorem dX5_raw_23 : decode cX5_raw 23 = .ok (.getfield 14, 3) := by decide +kernel
theorem dX5_raw_26 : decode cX5_raw 26 = .ok (.iconst 0, 1) := by decide +kernel
theorem dX5_raw_27 : decode cX5_raw 27 = .ok (.aload_n 0, 1) := by decide +kernel
theorem dX5_raw_28 : decode cX5_raw 28 = .ok (.getfield 14, 3) := by decide +kernel
theorem dX5_raw_31 : decode cX5_raw 31 = .ok (.invokevirtual 68, 3) := by decide +kernel
theorem dX5_raw_34 : decode cX5_raw 34 = .ok (.invokevirtual 97, 3) := by decide +kernel
theorem dX5_raw_37 : decode cX5_raw 37 = .ok (.ifCond .eq 16, 3) := by decide +kernel
theorem dX5_raw_40 : decode cX5_raw 40 = .ok (.aload_n 0, 1) := by decide +kernel
theorem dX5_raw_41 : decode cX5_raw 41 = .ok (.getfield 21, 3) := by decide +kernel
theorem dX5_raw_44 : decode cX5_raw 44 = .ok (.invokevirtual 93, 3) := by decide +kernel
theorem dX5_raw_47 : decode cX5_raw 47 = .ok (.invokevirtual 68, 3) := by decide +kernel
theorem dX5_raw_50 : decode cX5_raw 50 = .ok (.goto 5, 3) := by decide +kernel
theorem dX5_raw_53 : decode cX5_raw 53 = .ok (.bipush (-2), 2) := by decide +kernel
theorem dX5_raw_55 : decode cX5_raw 55 = .ok (.ireturn, 1) := by decide +kernel
set_option maxRecDepth 20000 in
theorem ggX5_put_X0_bytes : GoodIn wsX5_put wsX0_bytes := goodIn_r _ [10, 11, 35, 36] (by decide +kernel) (by decide +kernel)
set_option maxRecDepth 20000 in
theorem gX5_put_X0_bytes : GoodIn wsX5_put (wsV RX5 93 RX0 yX0_bytes wsX0_bytes) := goodIn_app (goodIn_of _ (by decide +kernel)) ggX5_put_X0_bytes
set_option maxRecDepth 20000 in
theorem ggX5_put_X3_has : GoodIn wsX5_put wsX3_has := goodIn_r _ [16, 17, 37, 38] (by decide +kernel) (by decide +kernel)
set_option maxRecDepth 20000 in
theorem gX5_put_X3_has : GoodIn wsX5_put (wsV RX5 101 RX3 yX3_has wsX3_has) := goodIn_app (goodIn_of _ (by decide +kernel)) ggX5_put_X3_has
set_option maxRecDepth 20000 in
theorem ggX5_put_X5_isByte : GoodIn wsX5_put wsX5_isByte := goodIn_r _ [21] (by decide +kernel) (by decide +kernel)
set_option maxRecDepth 20000 in
theorem gX5_put_X5_isByte : GoodIn wsX5_put (va_wsS RX5 78 yX5_isByte wsX5_isByte) := goodIn_app (goodIn_of _ (by decide +kernel)) ggX5_put_X5_isByte
set_option maxRecDepth 20000 in
theorem ggX5_put_X3_at : GoodIn wsX5_put wsX3_at := goodIn_r _ [25, 17, 26, 37, 38] (by decide +kernel) (by decide +kernel)
set_option maxRecDepth 20000 in
theorem gX5_put_X3_at : GoodIn wsX5_put (wsV RX5 111 RX3 yX3_at wsX3_at) := goodIn_app (goodIn_of _ (by decide +kernel)) ggX5_put_X3_at
set_option maxRecDepth 20000 in
theorem ggX5_put_X3_replace : GoodIn wsX5_put wsX3_replace := goodIn_r _ [30, 26, 31, 13, 14, 15, 16, 17, 37, 38] (by decide +kernel) (by decide +kernel)
set_option maxRecDepth 20000 in
theorem gX5_put_X3_replace : GoodIn wsX5_put (wsV RX5 115 RX3 yX3_replace wsX3_replace) := goodIn_app (goodIn_of _ (by decide +kernel)) ggX5_put_X3_replace
theorem dX5_put_0 : decode cX5_put 0 = .ok (.aload_n 0, 1) := by decide +kernel
theorem dX5_put_1 : decode cX5_put 1 = .ok (.getfield 21, 3) := by decide +kernel
theorem dX5_put_4 : decode cX5_put 4 = .ok (.invokevirtual 93, 3) := by decide +kernel
theorem dX5_put_7 : decode cX5_put 7 = .ok (.iload_n 1, 1) := by decide +kernel
theorem dX5_put_8 : decode cX5_put 8 = .ok (.invokevirtual 101, 3) := by decide +kernel
theorem dX5_put_11 : decode cX5_put 11 = .ok (.ifCond .ne 13, 3) := by decide +kernel
theorem dX5_put_14 : decode cX5_put 14 = .ok (.new 104, 3) := by decide +kernel
theorem dX5_put_17 : decode cX5_put 17 = .ok (.dup, 1) := by decide +kernel
theorem dX5_put_18 : decode cX5_put 18 = .ok (.ldc 106, 2) := by decide +kernel
theorem dX5_put_20 : decode cX5_put 20 = .ok (.invokespecial 108, 3) := by decide +kernel
theorem dX5_put_23 : decode cX5_put 23 = .ok (.athrow, 1) := by decide +kernel
theorem dX5_put_24 : decode cX5_put 24 = .ok (.iload_n 2, 1) := by decide +kernel
theorem dX5_put_25 : decode cX5_put 25 = .ok (.invokestatic 78, 3) := by decide +kernel
theorem dX5_put_28 : decode cX5_put 28 = .ok (.ifCond .ne 13, 3) := by decide +kernel
theorem dX5_put_31 : decode cX5_put 31 = .ok (.new 34, 3) := by decide +kernel
theorem dX5_put_34 : decode cX5_put 34 = .ok (.dup, 1) := by decide +kernel
theorem dX5_put_35 : decode cX5_put 35 = .ok (.ldc 109, 2) := by decide +kernel
theorem dX5_put_37 : decode cX5_put 37 = .ok (.invokespecial 38, 3) := by decide +kernel
theorem dX5_put_40 : decode cX5_put 40 = .ok (.athrow, 1) := by decide +kernel
theorem dX5_put_41 : decode cX5_put 41 = .ok (.aload_n 0, 1) := by decide +kernel
theorem dX5_put_42 : decode cX5_put 42 = .ok (.getfield 21, 3) := by decide +kernel
theorem dX5_put_45 : decode cX5_put 45 = .ok (.invokevirtual 93, 3) := by decide +kernel
theorem dX5_put_48 : decode cX5_put 48 = .ok (.iload_n 1, 1) := by decide +kernel
theorem dX5_put_49 : decode cX5_put 49 = .ok (.invokevirtual 111, 3) := by decide +kernel
theorem dX5_put_52 : decode cX5_put 52 = .ok (.istore_n 3, 1) := by decide +kernel
theorem dX5_put_53 : decode cX5_put 53 = .ok (.aload_n 0, 1) := by decide +kernel
theorem dX5_put_54 : decode cX5_put 54 = .ok (.getfield 21, 3) := by decide +kernel
theorem dX5_put_57 : decode cX5_put 57 = .ok (.invokevirtual 93, 3) := by decide +kernel
theorem dX5_put_60 : decode cX5_put 60 = .ok (.iload_n 1, 1) := by decide +kernel
theorem dX5_put_61 : decode cX5_put 61 = .ok (.iload_n 2, 1) := by decide +kernel
theorem dX5_put_62 : decode cX5_put 62 = .ok (.invokevirtual 115, 3) := by decide +kernel
theorem dX5_put_65 : decode cX5_put 65 = .ok (.iload_n 3, 1) := by decide +kernel
theorem dX5_put_66 : decode cX5_put 66 = .ok (.ireturn, 1) := by decide +kernel
set_option maxRecDepth 20000 in
theorem ggX5_cut_X0_bytes : GoodIn wsX5_cut wsX0_bytes := goodIn_r _ [9, 10, 51, 52] (by decide +kernel) (by decide +kernel)
set_option maxRecDepth 20000 in
theorem gX5_cut_X0_bytes : GoodIn wsX5_cut (wsV RX5 93 RX0 yX0_bytes wsX0_bytes) := goodIn_app (goodIn_of _ (by decide +kernel)) ggX5_cut_X0_bytes
set_option maxRecDepth 20000 in
theorem ggX5_cut_X3_many : GoodIn wsX5_cut wsX3_many := goodIn_r _ [15, 16, 53, 54] (by decide +kernel) (by decide +kernel)
set_option maxRecDepth 20000 in
theorem gX5_cut_X3_many : GoodIn wsX5_cut (wsV RX5 68 RX3 yX3_many wsX3_many) := goodIn_app (goodIn_of _ (by decide +kernel)) ggX5_cut_X3_many
set_option maxRecDepth 20000 in
theorem ggX5_cut_X3_shorten : GoodIn wsX5_cut wsX3_shorten := goodIn_r _ [20, 16, 53, 54] (by decide +kernel) (by decide +kernel)
set_option maxRecDepth 20000 in
theorem gX5_cut_X3_shorten : GoodIn wsX5_cut (wsV RX5 75 RX3 yX3_shorten wsX3_shorten) := goodIn_app (goodIn_of _ (by decide +kernel)) ggX5_cut_X3_shorten
set_option maxRecDepth 20000 in
theorem ggX5_cut_X2_beginAt : GoodIn wsX5_cut wsX2_beginAt := goodIn_r _ [25, 26, 27, 28, 29, 30, 31, 32, 33, 8, 34, 35, 36, 37, 38, 39, 40, 41, 42, 43, 44, 45, 46, 47, 55, 56, 57, 58, 59, 60, 61, 62, 63, 64, 51, 52, 65, 66, 67, 68] (by decide +kernel) (by decide +kernel)
set_option maxRecDepth 20000 in
theorem gX5_cut_X2_beginAt : GoodIn wsX5_cut (wsV RX5 44 RX2 yX2_beginAt wsX2_beginAt) := goodIn_app (goodIn_of _ (by decide +kernel)) ggX5_cut_X2_beginAt
theorem dX5_cut_0 : decode cX5_cut 0 = .ok (.aload_n 0, 1) := by decide +kernel
theorem dX5_cut_1 : decode cX5_cut 1 = .ok (.getfield 21, 3) := by decide +kernel
theorem dX5_cut_4 : decode cX5_cut 4 = .ok (.invokevirtual 93, 3) := by decide +kernel
theorem dX5_cut_7 : decode cX5_cut 7 = .ok (.invokevirtual 68, 3) := by decide +kernel
theorem dX5_cut_10 : decode cX5_cut 10 = .ok (.istore_n 2, 1) := by decide +kernel
theorem dX5_cut_11 : decode cX5_cut 11 = .ok (.iload_n 1, 1) := by decide +kernel
theorem dX5_cut_12 : decode cX5_cut 12 = .ok (.ifCond .lt 8, 3) := by decide +kernel
theorem dX5_cut_15 : decode cX5_cut 15 = .ok (.iload_n 1, 1) := by decide +kernel
theorem dX5_cut_16 : decode cX5_cut 16 = .ok (.iload_n 2, 1) := by decide +kernel
theorem dX5_cut_17 : decode cX5_cut 17 = .ok (.if_icmp .le 13, 3) := by decide +kernel
theorem dX5_cut_20 : decode cX5_cut 20 = .ok (.new 34, 3) := by decide +kernel
theorem dX5_cut_23 : decode cX5_cut 23 = .ok (.dup, 1) := by decide +kernel
theorem dX5_cut_24 : decode cX5_cut 24 = .ok (.ldc 118, 2) := by decide +kernel
theorem dX5_cut_26 : decode cX5_cut 26 = .ok (.invokespecial 38, 3) := by decide +kernel
theorem dX5_cut_29 : decode cX5_cut 29 = .ok (.athrow, 1) := by decide +kernel
theorem dX5_cut_30 : decode cX5_cut 30 = .ok (.aload_n 0, 1) := by decide +kernel
theorem dX5_cut_31 : decode cX5_cut 31 = .ok (.getfield 21, 3) := by decide +kernel
theorem dX5_cut_34 : decode cX5_cut 34 = .ok (.invokevirtual 93, 3) := by decide +kernel
theorem dX5_cut_37 : decode cX5_cut 37 = .ok (.iload_n 1, 1) := by decide +kernel
theorem dX5_cut_38 : decode cX5_cut 38 = .ok (.invokevirtual 75, 3) := by decide +kernel
theorem dX5_cut_41 : decode cX5_cut 41 = .ok (.aload_n 0, 1) := by decide +kernel
theorem dX5_cut_42 : decode cX5_cut 42 = .ok (.getfield 30, 3) := by decide +kernel
theorem dX5_cut_45 : decode cX5_cut 45 = .ok (.iconst 0, 1) := by decide +kernel
theorem dX5_cut_46 : decode cX5_cut 46 = .ok (.invokevirtual 44, 3) := by decide +kernel
theorem dX5_cut_49 : decode cX5_cut 49 = .ok (.iload_n 2, 1) := by decide +kernel
theorem dX5_cut_50 : decode cX5_cut 50 = .ok (.iload_n 1, 1) := by decide +kernel
theorem dX5_cut_51 : decode cX5_cut 51 = .ok (.isub, 1) := by decide +kernel
theorem dX5_cut_52 : decode cX5_cut 52 = .ok (.ireturn, 1) := by decide +kernel
set_option maxRecDepth 20000 in
theorem ggX5_begin_X2_beginAt : GoodIn wsX5_begin wsX2_beginAt := goodIn_r _ [8, 9, 10, 11, 12, 13, 14, 15, 16, 17, 18, 19, 20, 21, 22, 23, 24, 25, 26, 27, 28, 29, 30, 31, 39, 40, 41, 42, 43, 44, 45, 46, 47, 48, 49, 50, 51, 52, 53, 54] (by decide +kernel) (by decide +kernel)
set_option maxRecDepth 20000 in
theorem gX5_begin_X2_beginAt : GoodIn wsX5_begin (wsV RX5 44 RX2 yX2_beginAt wsX2_beginAt) := goodIn_app (goodIn_of _ (by decide +kernel)) ggX5_begin_X2_beginAt
set_option maxRecDepth 20000 in
theorem ggX5_begin_X2_place : GoodIn wsX5_begin wsX2_place := goodIn_r _ [35, 10, 39, 40, 41, 42, 43, 44, 45, 46, 47, 48] (by decide +kernel) (by decide +kernel)
set_option maxRecDepth 20000 in
theorem gX5_begin_X2_place : GoodIn wsX5_begin (wsV RX5 122 RX2 yX2_place wsX2_place) := goodIn_app (goodIn_of _ (by decide +kernel)) ggX5_begin_X2_place
theorem dX5_begin_0 : decode cX5_begin 0 = .ok (.iload_n 1, 1) := by decide +kernel
theorem dX5_begin_1 : decode cX5_begin 1 = .ok (.ifCond .lt 10, 3) := by decide +kernel
theorem dX5_begin_4 : decode cX5_begin 4 = .ok (.iload_n 1, 1) := by decide +kernel
theorem dX5_begin_5 : decode cX5_begin 5 = .ok (.sipush 4096, 3) := by decide +kernel
theorem dX5_begin_8 : decode cX5_begin 8 = .ok (.if_icmp .le 13, 3) := by decide +kernel
theorem dX5_begin_11 : decode cX5_begin 11 = .ok (.new 34, 3) := by decide +kernel
theorem dX5_begin_14 : decode cX5_begin 14 = .ok (.dup, 1) := by decide +kernel
theorem dX5_begin_15 : decode cX5_begin 15 = .ok (.ldc 120, 2) := by decide +kernel
theorem dX5_begin_17 : decode cX5_begin 17 = .ok (.invokespecial 38, 3) := by decide +kernel
theorem dX5_begin_20 : decode cX5_begin 20 = .ok (.athrow, 1) := by decide +kernel
theorem dX5_begin_21 : decode cX5_begin 21 = .ok (.aload_n 0, 1) := by decide +kernel
theorem dX5_begin_22 : decode cX5_begin 22 = .ok (.getfield 30, 3) := by decide +kernel
theorem dX5_begin_25 : decode cX5_begin 25 = .ok (.iload_n 1, 1) := by decide +kernel
theorem dX5_begin_26 : decode cX5_begin 26 = .ok (.invokevirtual 44, 3) := by decide +kernel
theorem dX5_begin_29 : decode cX5_begin 29 = .ok (.aload_n 0, 1) := by decide +kernel
theorem dX5_begin_30 : decode cX5_begin 30 = .ok (.getfield 30, 3) := by decide +kernel
theorem dX5_begin_33 : decode cX5_begin 33 = .ok (.invokevirtual 122, 3) := by decide +kernel
theorem dX5_begin_36 : decode cX5_begin 36 = .ok (.ireturn, 1) := by decide +kernel
set_option maxRecDepth 20000 in
theorem ggX5_read_X2_findRecord : GoodIn wsX5_read wsX2_findRecord := goodIn_r _ [6, 7, 8, 9, 5, 10, 11, 12, 13, 14, 15, 16, 17, 18, 19, 20, 21, 22, 23, 24, 25, 26, 27, 28, 29, 30, 31, 32, 33, 34, 35, 36, 37, 38, 39, 40, 41, 42, 43, 44, 45, 46, 47, 48, 49, 50, 51, 52, 53, 54, 55, 56, 57, 58, 59, 60, 61, 62, 63, 64, 65, 66, 67, 68, 69, 70, 71, 72, 73, 74, 75, 76, 77, 78, 79, 80, 81, 82, 83, 84, 85, 86, 87, 88, 89, 90, 91, 92, 93, 94, 95, 96, 97, 98, 99, 100, 101, 102, 103, 104, 105, 106, 107, 108, 109, 110, 111, 112, 113, 114, 115, 116, 117, 118, 119, 120, 121, 122, 123, 124, 125, 126, 127, 128, 129, 130, 131, 132, 141, 142, 143, 144, 145, 146, 147, 148, 149, 150, 151, 152, 153, 154, 155, 156, 157, 158] (by decide +kernel) (by decide +kernel)
set_option maxRecDepth 20000 in
theorem gX5_read_X2_findRecord : GoodIn wsX5_read (wsV RX5 125 RX2 yX2_findRecord wsX2_findRecord) := goodIn_app (goodIn_of _ (by decide +kernel)) ggX5_read_X2_findRecord
set_option maxRecDepth 20000 in
theorem ggX5_read_X2_record : GoodIn wsX5_read wsX2_record := goodIn_r _ [136, 11, 141, 142, 143, 144, 145, 146, 147, 148, 149, 150] (by decide +kernel) (by decide +kernel)
set_option maxRecDepth 20000 in
theorem gX5_read_X2_record : GoodIn wsX5_read (wsV RX5 129 RX2 yX2_record wsX2_record) := goodIn_app (goodIn_of _ (by decide +kernel)) ggX5_read_X2_record
set_option maxRecDepth 20000 in
theorem ggX5_read_X3_many : GoodIn wsX5_read wsX3_many := goodIn_r _ [51, 19, 151, 152] (by decide +kernel) (by decide +kernel)
set_option maxRecDepth 20000 in
theorem gX5_read_X3_many : GoodIn wsX5_read (wsV RX5 68 RX3 yX3_many wsX3_many) := goodIn_app (goodIn_of _ (by decide +kernel)) ggX5_read_X3_many
theorem dX5_read_0 : decode cX5_read 0 = .ok (.aload_n 0, 1) := by decide +kernel
theorem dX5_read_1 : decode cX5_read 1 = .ok (.getfield 30, 3) := by decide +kernel
theorem dX5_read_4 : decode cX5_read 4 = .ok (.invokevirtual 125, 3) := by decide +kernel
theorem dX5_read_7 : decode cX5_read 7 = .ok (.ifCond .eq 16, 3) := by decide +kernel
theorem dX5_read_10 : decode cX5_read 10 = .ok (.aload_n 0, 1) := by decide +kernel
theorem dX5_read_11 : decode cX5_read 11 = .ok (.getfield 30, 3) := by decide +kernel
theorem dX5_read_14 : decode cX5_read 14 = .ok (.invokevirtual 129, 3) := by decide +kernel
theorem dX5_read_17 : decode cX5_read 17 = .ok (.invokevirtual 68, 3) := by decide +kernel
theorem dX5_read_20 : decode cX5_read 20 = .ok (.goto 4, 3) := by decide +kernel
theorem dX5_read_23 : decode cX5_read 23 = .ok (.iconst (-1), 1) := by decide +kernel
theorem dX5_read_24 : decode cX5_read 24 = .ok (.ireturn, 1) := by decide +kernel
set_option maxRecDepth 20000 in
theorem ggX5_octet_X2_record : GoodIn wsX5_octet wsX2_record := goodIn_r _ [6, 7, 18, 19, 20, 21, 22, 23, 24, 25, 26, 27] (by decide +kernel) (by decide +kernel)
set_option maxRecDepth 20000 in
theorem gX5_octet_X2_record : GoodIn wsX5_octet (wsV RX5 129 RX2 yX2_record wsX2_record) := goodIn_app (goodIn_of _ (by decide +kernel)) ggX5_octet_X2_record
set_option maxRecDepth 20000 in
theorem ggX5_octet_X3_at : GoodIn wsX5_octet wsX3_at := goodIn_r _ [12, 13, 14, 28, 29] (by decide +kernel) (by decide +kernel)
set_option maxRecDepth 20000 in
theorem gX5_octet_X3_at : GoodIn wsX5_octet (wsV RX5 111 RX3 yX3_at wsX3_at) := goodIn_app (goodIn_of _ (by decide +kernel)) ggX5_octet_X3_at
theorem dX5_octet_0 : decode cX5_octet 0 = .ok (.aload_n 0, 1) := by decide +kernel
theorem dX5_octet_1 : decode cX5_octet 1 = .ok (.getfield 30, 3) := by decide +kernel
theorem dX5_octet_4 : decode cX5_octet 4 = .ok (.invokevirtual 129, 3) := by decide +kernel
theorem dX5_octet_7 : decode cX5_octet 7 = .ok (.iload_n 1, 1) := by decide +kernel
theorem dX5_octet_8 : decode cX5_octet 8 = .ok (.invokevirtual 111, 3) := by decide +kernel
theorem dX5_octet_11 : decode cX5_octet 11 = .ok (.ireturn, 1) := by decide +kernel
set_option maxRecDepth 20000 in
theorem ggX5_first_X2_recordPlace : GoodIn wsX5_first wsX2_recordPlace := goodIn_r _ [6, 7, 11, 12, 13, 14, 15, 16, 17, 18, 19, 20] (by decide +kernel) (by decide +kernel)
set_option maxRecDepth 20000 in
theorem gX5_first_X2_recordPlace : GoodIn wsX5_first (wsV RX5 132 RX2 yX2_recordPlace wsX2_recordPlace) := goodIn_app (goodIn_of _ (by decide +kernel)) ggX5_first_X2_recordPlace
theorem dX5_first_0 : decode cX5_first 0 = .ok (.aload_n 0, 1) := by decide +kernel
theorem dX5_first_1 : decode cX5_first 1 = .ok (.getfield 30, 3) := by decide +kernel
theorem dX5_first_4 : decode cX5_first 4 = .ok (.invokevirtual 132, 3) := by decide +kernel
theorem dX5_first_7 : decode cX5_first 7 = .ok (.ireturn, 1) := by decide +kernel
set_option maxRecDepth 20000 in
theorem ggX5_count_X0_bytes : GoodIn wsX5_count wsX0_bytes := goodIn_r _ [10, 11, 48, 49] (by decide +kernel) (by decide +kernel)
set_option maxRecDepth 20000 in
theorem gX5_count_X0_bytes : GoodIn wsX5_count (wsV RX5 93 RX0 yX0_bytes wsX0_bytes) := goodIn_app (goodIn_of _ (by decide +kernel)) ggX5_count_X0_bytes
set_option maxRecDepth 20000 in
theorem ggX5_count_X3_many : GoodIn wsX5_count wsX3_many := goodIn_r _ [16, 17, 50, 51] (by decide +kernel) (by decide +kernel)
set_option maxRecDepth 20000 in
theorem gX5_count_X3_many : GoodIn wsX5_count (wsV RX5 68 RX3 yX3_many wsX3_many) := goodIn_app (goodIn_of _ (by decide +kernel)) ggX5_count_X3_many
set_option maxRecDepth 20000 in
theorem ggX5_count_X2_place : GoodIn wsX5_count wsX2_place := goodIn_r _ [22, 23, 52, 53, 54, 55, 56, 57, 58, 59, 60, 61] (by decide +kernel) (by decide +kernel)
set_option maxRecDepth 20000 in
theorem gX5_count_X2_place : GoodIn wsX5_count (wsV RX5 122 RX2 yX2_place wsX2_place) := goodIn_app (goodIn_of _ (by decide +kernel)) ggX5_count_X2_place
set_option maxRecDepth 20000 in
theorem ggX5_count_X2_isLost : GoodIn wsX5_count wsX2_isLost := goodIn_r _ [27, 28, 52, 53, 54, 55, 56, 57, 58, 59, 60, 61] (by decide +kernel) (by decide +kernel)
set_option maxRecDepth 20000 in
theorem gX5_count_X2_isLost : GoodIn wsX5_count (wsV RX5 135 RX2 yX2_isLost wsX2_isLost) := goodIn_app (goodIn_of _ (by decide +kernel)) ggX5_count_X2_isLost
set_option maxRecDepth 20000 in
theorem ggX5_count_X2_drops : GoodIn wsX5_count wsX2_drops := goodIn_r _ [32, 33, 52, 53, 54, 55, 56, 57, 58, 59, 60, 61] (by decide +kernel) (by decide +kernel)
set_option maxRecDepth 20000 in
theorem gX5_count_X2_drops : GoodIn wsX5_count (wsV RX5 138 RX2 yX2_drops wsX2_drops) := goodIn_app (goodIn_of _ (by decide +kernel)) ggX5_count_X2_drops
set_option maxRecDepth 20000 in
theorem ggX5_count_X1_many : GoodIn wsX5_count wsX1_many := goodIn_r _ [38, 39, 62, 63, 64, 65] (by decide +kernel) (by decide +kernel)
set_option maxRecDepth 20000 in
theorem gX5_count_X1_many : GoodIn wsX5_count (wsV RX5 142 RX1 yX1_many wsX1_many) := goodIn_app (goodIn_of _ (by decide +kernel)) ggX5_count_X1_many
set_option maxRecDepth 20000 in
theorem ggX5_count_X1_allBytes : GoodIn wsX5_count wsX1_allBytes := goodIn_r _ [43, 44, 62, 63, 64, 65] (by decide +kernel) (by decide +kernel)
set_option maxRecDepth 20000 in
theorem gX5_count_X1_allBytes : GoodIn wsX5_count (wsV RX5 145 RX1 yX1_allBytes wsX1_allBytes) := goodIn_app (goodIn_of _ (by decide +kernel)) ggX5_count_X1_allBytes
theorem dX5_count_0 : decode cX5_count 0 = .ok (.iload_n 1, 1) := by decide +kernel
theorem dX5_count_1 : decode cX5_count 1 = .ok (.tableswitch 104 0 5 #[39, 50, 58, 74, 85, 96], 39) := by decide +kernel
theorem dX5_count_40 : decode cX5_count 40 = .ok (.aload_n 0, 1) := by decide +kernel
theorem dX5_count_41 : decode cX5_count 41 = .ok (.getfield 21, 3) := by decide +kernel
theorem dX5_count_44 : decode cX5_count 44 = .ok (.invokevirtual 93, 3) := by decide +kernel
theorem dX5_count_47 : decode cX5_count 47 = .ok (.invokevirtual 68, 3) := by decide +kernel
theorem dX5_count_50 : decode cX5_count 50 = .ok (.ireturn, 1) := by decide +kernel
theorem dX5_count_51 : decode cX5_count 51 = .ok (.aload_n 0, 1) := by decide +kernel
theorem dX5_count_52 : decode cX5_count 52 = .ok (.getfield 30, 3) := by decide +kernel
theorem dX5_count_55 : decode cX5_count 55 = .ok (.invokevirtual 122, 3) := by decide +kernel
theorem dX5_count_58 : decode cX5_count 58 = .ok (.ireturn, 1) := by decide +kernel
theorem dX5_count_59 : decode cX5_count 59 = .ok (.aload_n 0, 1) := by decide +kernel
theorem dX5_count_60 : decode cX5_count 60 = .ok (.getfield 30, 3) := by decide +kernel
theorem dX5_count_63 : decode cX5_count 63 = .ok (.invokevirtual 135, 3) := by decide +kernel
theorem dX5_count_66 : decode cX5_count 66 = .ok (.ifCond .eq 7, 3) := by decide +kernel
theorem dX5_count_69 : decode cX5_count 69 = .ok (.iconst 1, 1) := by decide +kernel
theorem dX5_count_70 : decode cX5_count 70 = .ok (.goto 4, 3) := by decide +kernel
theorem dX5_count_73 : decode cX5_count 73 = .ok (.iconst 0, 1) := by decide +kernel
theorem dX5_count_74 : decode cX5_count 74 = .ok (.ireturn, 1) := by decide +kernel
theorem dX5_count_75 : decode cX5_count 75 = .ok (.aload_n 0, 1) := by decide +kernel
theorem dX5_count_76 : decode cX5_count 76 = .ok (.getfield 30, 3) := by decide +kernel
theorem dX5_count_79 : decode cX5_count 79 = .ok (.invokevirtual 138, 3) := by decide +kernel
theorem dX5_count_82 : decode cX5_count 82 = .ok (.invokevirtual 142, 3) := by decide +kernel
theorem dX5_count_85 : decode cX5_count 85 = .ok (.ireturn, 1) := by decide +kernel
theorem dX5_count_86 : decode cX5_count 86 = .ok (.aload_n 0, 1) := by decide +kernel
theorem dX5_count_87 : decode cX5_count 87 = .ok (.getfield 30, 3) := by decide +kernel
theorem dX5_count_90 : decode cX5_count 90 = .ok (.invokevirtual 138, 3) := by decide +kernel
theorem dX5_count_93 : decode cX5_count 93 = .ok (.invokevirtual 145, 3) := by decide +kernel
theorem dX5_count_96 : decode cX5_count 96 = .ok (.ireturn, 1) := by decide +kernel
theorem dX5_count_97 : decode cX5_count 97 = .ok (.aload_n 0, 1) := by decide +kernel
theorem dX5_count_98 : decode cX5_count 98 = .ok (.getfield 14, 3) := by decide +kernel
theorem dX5_count_101 : decode cX5_count 101 = .ok (.invokevirtual 68, 3) := by decide +kernel
theorem dX5_count_104 : decode cX5_count 104 = .ok (.ireturn, 1) := by decide +kernel
theorem dX5_count_105 : decode cX5_count 105 = .ok (.new 34, 3) := by decide +kernel
theorem dX5_count_108 : decode cX5_count 108 = .ok (.dup, 1) := by decide +kernel
theorem dX5_count_109 : decode cX5_count 109 = .ok (.ldc 148, 2) := by decide +kernel
theorem dX5_count_111 : decode cX5_count 111 = .ok (.invokespecial 38, 3) := by decide +kernel
theorem dX5_count_114 : decode cX5_count 114 = .ok (.athrow, 1) := by decide +kernel
set_option maxRecDepth 20000 in
theorem ggX5_told_X2_drops : GoodIn wsX5_told wsX2_drops := goodIn_r _ [8, 9, 29, 30, 31, 32, 33, 34, 35, 36, 37, 38] (by decide +kernel) (by decide +kernel)
set_option maxRecDepth 20000 in
theorem gX5_told_X2_drops : GoodIn wsX5_told (wsV RX5 138 RX2 yX2_drops wsX2_drops) := goodIn_app (goodIn_of _ (by decide +kernel)) ggX5_told_X2_drops
end
section
set_option maxRecDepth 20000 in
theorem ggX5_told_X1_whichAt : GoodIn wsX5_told wsX1_whichAt := goodIn_r _ [14, 15, 16, 17, 18, 13, 19, 20, 39, 40, 41, 42] (by decide +kernel) (by decide +kernel)
set_option maxRecDepth 20000 in
theorem gX5_told_X1_whichAt : GoodIn wsX5_told (wsV RX5 152 RX1 yX1_whichAt wsX1_whichAt) := goodIn_app (goodIn_of _ (by decide +kernel)) ggX5_told_X1_whichAt
set_option maxRecDepth 20000 in
theorem ggX5_told_X1_bytesAt : GoodIn wsX5_told wsX1_bytesAt := goodIn_r _ [24, 25, 16, 17, 18, 13, 19, 20, 39, 40, 41, 42] (by decide +kernel) (by decide +kernel)
set_option maxRecDepth 20000 in
theorem gX5_told_X1_bytesAt : GoodIn wsX5_told (wsV RX5 155 RX1 yX1_bytesAt wsX1_bytesAt) := goodIn_app (goodIn_of _ (by decide +kernel)) ggX5_told_X1_bytesAt
theorem dX5_told_0 : decode cX5_told 0 = .ok (.iload_n 2, 1) := by decide +kernel
theorem dX5_told_1 : decode cX5_told 1 = .ok (.ifCond .eq 18, 3) := by decide +kernel
theorem dX5_told_4 : decode cX5_told 4 = .ok (.iload_n 2, 1) := by decide +kernel
theorem dX5_told_5 : decode cX5_told 5 = .ok (.iconst 1, 1) := by decide +kernel
theorem dX5_told_6 : decode cX5_told 6 = .ok (.if_icmp .eq 13, 3) := by decide +kernel
theorem dX5_told_9 : decode cX5_told 9 = .ok (.new 34, 3) := by decide +kernel
theorem dX5_told_12 : decode cX5_told 12 = .ok (.dup, 1) := by decide +kernel
theorem dX5_told_13 : decode cX5_told 13 = .ok (.ldc 150, 2) := by decide +kernel
theorem dX5_told_15 : decode cX5_told 15 = .ok (.invokespecial 38, 3) := by decide +kernel
theorem dX5_told_18 : decode cX5_told 18 = .ok (.athrow, 1) := by decide +kernel
theorem dX5_told_19 : decode cX5_told 19 = .ok (.iload_n 2, 1) := by decide +kernel
theorem dX5_told_20 : decode cX5_told 20 = .ok (.ifCond .ne 17, 3) := by decide +kernel
theorem dX5_told_23 : decode cX5_told 23 = .ok (.aload_n 0, 1) := by decide +kernel
theorem dX5_told_24 : decode cX5_told 24 = .ok (.getfield 30, 3) := by decide +kernel
theorem dX5_told_27 : decode cX5_told 27 = .ok (.invokevirtual 138, 3) := by decide +kernel
theorem dX5_told_30 : decode cX5_told 30 = .ok (.iload_n 1, 1) := by decide +kernel
theorem dX5_told_31 : decode cX5_told 31 = .ok (.invokevirtual 152, 3) := by decide +kernel
theorem dX5_told_34 : decode cX5_told 34 = .ok (.goto 14, 3) := by decide +kernel
theorem dX5_told_37 : decode cX5_told 37 = .ok (.aload_n 0, 1) := by decide +kernel
theorem dX5_told_38 : decode cX5_told 38 = .ok (.getfield 30, 3) := by decide +kernel
theorem dX5_told_41 : decode cX5_told 41 = .ok (.invokevirtual 138, 3) := by decide +kernel
theorem dX5_told_44 : decode cX5_told 44 = .ok (.iload_n 1, 1) := by decide +kernel
theorem dX5_told_45 : decode cX5_told 45 = .ok (.invokevirtual 155, 3) := by decide +kernel
theorem dX5_told_48 : decode cX5_told 48 = .ok (.ireturn, 1) := by decide +kernel
set_option maxRecDepth 20000 in
theorem ggX5_log_X0_bytes : GoodIn wsX5_log wsX0_bytes := goodIn_r _ [6, 7, 18, 19] (by decide +kernel) (by decide +kernel)
set_option maxRecDepth 20000 in
theorem gX5_log_X0_bytes : GoodIn wsX5_log (wsV RX5 93 RX0 yX0_bytes wsX0_bytes) := goodIn_app (goodIn_of _ (by decide +kernel)) ggX5_log_X0_bytes
set_option maxRecDepth 20000 in
theorem ggX5_log_X3_at : GoodIn wsX5_log wsX3_at := goodIn_r _ [12, 13, 14, 20, 21] (by decide +kernel) (by decide +kernel)
set_option maxRecDepth 20000 in
theorem gX5_log_X3_at : GoodIn wsX5_log (wsV RX5 111 RX3 yX3_at wsX3_at) := goodIn_app (goodIn_of _ (by decide +kernel)) ggX5_log_X3_at
theorem dX5_log_0 : decode cX5_log 0 = .ok (.aload_n 0, 1) := by decide +kernel
theorem dX5_log_1 : decode cX5_log 1 = .ok (.getfield 21, 3) := by decide +kernel
theorem dX5_log_4 : decode cX5_log 4 = .ok (.invokevirtual 93, 3) := by decide +kernel
theorem dX5_log_7 : decode cX5_log 7 = .ok (.iload_n 1, 1) := by decide +kernel
theorem dX5_log_8 : decode cX5_log 8 = .ok (.invokevirtual 111, 3) := by decide +kernel
theorem dX5_log_11 : decode cX5_log 11 = .ok (.ireturn, 1) := by decide +kernel
theorem dX5_isByte_0 : decode cX5_isByte 0 = .ok (.iload_n 0, 1) := by decide +kernel
theorem dX5_isByte_1 : decode cX5_isByte 1 = .ok (.ifCond .lt 14, 3) := by decide +kernel
theorem dX5_isByte_4 : decode cX5_isByte 4 = .ok (.iload_n 0, 1) := by decide +kernel
theorem dX5_isByte_5 : decode cX5_isByte 5 = .ok (.sipush 255, 3) := by decide +kernel
theorem dX5_isByte_8 : decode cX5_isByte 8 = .ok (.if_icmp .gt 7, 3) := by decide +kernel
theorem dX5_isByte_11 : decode cX5_isByte 11 = .ok (.iconst 1, 1) := by decide +kernel
theorem dX5_isByte_12 : decode cX5_isByte 12 = .ok (.goto 4, 3) := by decide +kernel
theorem dX5_isByte_15 : decode cX5_isByte 15 = .ok (.iconst 0, 1) := by decide +kernel
theorem dX5_isByte_16 : decode cX5_isByte 16 = .ok (.ireturn, 1) := by decide +kernel
end
section
theorem dX6_init_0 : decode cX6_init 0 = .ok (.aload_n 0, 1) := by decide +kernel
theorem dX6_init_1 : decode cX6_init 1 = .ok (.invokespecial 1, 3) := by decide +kernel
theorem dX6_init_4 : decode cX6_init 4 = .ok (.aload_n 0, 1) := by decide +kernel
theorem dX6_init_5 : decode cX6_init 5 = .ok (.bipush 64, 2) := by decide +kernel
theorem dX6_init_7 : decode cX6_init 7 = .ok (.putfield 7, 3) := by decide +kernel
theorem dX6_init_10 : decode cX6_init 10 = .ok (.aload_n 0, 1) := by decide +kernel
theorem dX6_init_11 : decode cX6_init 11 = .ok (.sipush 4096, 3) := by decide +kernel
theorem dX6_init_14 : decode cX6_init 14 = .ok (.newarray .int, 2) := by decide +kernel
theorem dX6_init_16 : decode cX6_init 16 = .ok (.putfield 13, 3) := by decide +kernel
theorem dX6_init_19 : decode cX6_init 19 = .ok (.aload_n 0, 1) := by decide +kernel
theorem dX6_init_20 : decode cX6_init 20 = .ok (.sipush 400, 3) := by decide +kernel
theorem dX6_init_23 : decode cX6_init 23 = .ok (.newarray .int, 2) := by decide +kernel
theorem dX6_init_25 : decode cX6_init 25 = .ok (.putfield 17, 3) := by decide +kernel
theorem dX6_init_28 : decode cX6_init 28 = .ok (.aload_n 0, 1) := by decide +kernel
theorem dX6_init_29 : decode cX6_init 29 = .ok (.sipush 4096, 3) := by decide +kernel
theorem dX6_init_32 : decode cX6_init 32 = .ok (.newarray .int, 2) := by decide +kernel
theorem dX6_init_34 : decode cX6_init 34 = .ok (.putfield 20, 3) := by decide +kernel
theorem dX6_init_37 : decode cX6_init 37 = .ok (.aload_n 0, 1) := by decide +kernel
theorem dX6_init_38 : decode cX6_init 38 = .ok (.iconst (-1), 1) := by decide +kernel
theorem dX6_init_39 : decode cX6_init 39 = .ok (.putfield 23, 3) := by decide +kernel
theorem dX6_init_42 : decode cX6_init 42 = .ok (.aload_n 0, 1) := by decide +kernel
theorem dX6_init_43 : decode cX6_init 43 = .ok (.iconst (-1), 1) := by decide +kernel
theorem dX6_init_44 : decode cX6_init 44 = .ok (.putfield 26, 3) := by decide +kernel
theorem dX6_init_47 : decode cX6_init 47 = .ok (.aload_n 0, 1) := by decide +kernel
theorem dX6_init_48 : decode cX6_init 48 = .ok (.sipush 4096, 3) := by decide +kernel
theorem dX6_init_51 : decode cX6_init 51 = .ok (.newarray .int, 2) := by decide +kernel
theorem dX6_init_53 : decode cX6_init 53 = .ok (.putfield 29, 3) := by decide +kernel
theorem dX6_init_56 : decode cX6_init 56 = .ok (.aload_n 0, 1) := by decide +kernel
theorem dX6_init_57 : decode cX6_init 57 = .ok (.bipush 100, 2) := by decide +kernel
theorem dX6_init_59 : decode cX6_init 59 = .ok (.newarray .int, 2) := by decide +kernel
theorem dX6_init_61 : decode cX6_init 61 = .ok (.putfield 32, 3) := by decide +kernel
theorem dX6_init_64 : decode cX6_init 64 = .ok (.aload_n 0, 1) := by decide +kernel
theorem dX6_init_65 : decode cX6_init 65 = .ok (.bipush 100, 2) := by decide +kernel
theorem dX6_init_67 : decode cX6_init 67 = .ok (.newarray .int, 2) := by decide +kernel
theorem dX6_init_69 : decode cX6_init 69 = .ok (.putfield 35, 3) := by decide +kernel
theorem dX6_init_72 : decode cX6_init 72 = .ok (.return_, 1) := by decide +kernel
theorem dX6_thrown_0 : decode cX6_thrown 0 = .ok (.aload_n 0, 1) := by decide +kernel
theorem dX6_thrown_1 : decode cX6_thrown 1 = .ok (.getfield 38, 3) := by decide +kernel
theorem dX6_thrown_4 : decode cX6_thrown 4 = .ok (.ireturn, 1) := by decide +kernel
theorem dX6_refused_0 : decode cX6_refused 0 = .ok (.aload_n 0, 1) := by decide +kernel
theorem dX6_refused_1 : decode cX6_refused 1 = .ok (.iload_n 1, 1) := by decide +kernel
theorem dX6_refused_2 : decode cX6_refused 2 = .ok (.putfield 38, 3) := by decide +kernel
theorem dX6_refused_5 : decode cX6_refused 5 = .ok (.iload_n 1, 1) := by decide +kernel
theorem dX6_refused_6 : decode cX6_refused 6 = .ok (.ifCond .le 7, 3) := by decide +kernel
theorem dX6_refused_9 : decode cX6_refused 9 = .ok (.iconst 1, 1) := by decide +kernel
theorem dX6_refused_10 : decode cX6_refused 10 = .ok (.goto 4, 3) := by decide +kernel
theorem dX6_refused_13 : decode cX6_refused 13 = .ok (.iconst 0, 1) := by decide +kernel
theorem dX6_refused_14 : decode cX6_refused 14 = .ok (.ireturn, 1) := by decide +kernel
theorem dX6_isIn_0 : decode cX6_isIn 0 = .ok (.iload_n 0, 1) := by decide +kernel
theorem dX6_isIn_1 : decode cX6_isIn 1 = .ok (.iload_n 1, 1) := by decide +kernel
theorem dX6_isIn_2 : decode cX6_isIn 2 = .ok (.if_icmp .lt 12, 3) := by decide +kernel
theorem dX6_isIn_5 : decode cX6_isIn 5 = .ok (.iload_n 0, 1) := by decide +kernel
theorem dX6_isIn_6 : decode cX6_isIn 6 = .ok (.iload_n 2, 1) := by decide +kernel
theorem dX6_isIn_7 : decode cX6_isIn 7 = .ok (.if_icmp .gt 7, 3) := by decide +kernel
theorem dX6_isIn_10 : decode cX6_isIn 10 = .ok (.iconst 1, 1) := by decide +kernel
theorem dX6_isIn_11 : decode cX6_isIn 11 = .ok (.goto 4, 3) := by decide +kernel
theorem dX6_isIn_14 : decode cX6_isIn 14 = .ok (.iconst 0, 1) := by decide +kernel
theorem dX6_isIn_15 : decode cX6_isIn 15 = .ok (.ireturn, 1) := by decide +kernel
theorem dX6_beginAt_0 : decode cX6_beginAt 0 = .ok (.aload_n 0, 1) := by decide +kernel
theorem dX6_beginAt_1 : decode cX6_beginAt 1 = .ok (.iload_n 1, 1) := by decide +kernel
theorem dX6_beginAt_2 : decode cX6_beginAt 2 = .ok (.putfield 41, 3) := by decide +kernel
theorem dX6_beginAt_5 : decode cX6_beginAt 5 = .ok (.aload_n 0, 1) := by decide +kernel
theorem dX6_beginAt_6 : decode cX6_beginAt 6 = .ok (.aload_n 0, 1) := by decide +kernel
theorem dX6_beginAt_7 : decode cX6_beginAt 7 = .ok (.getfield 7, 3) := by decide +kernel
theorem dX6_beginAt_10 : decode cX6_beginAt 10 = .ok (.iload_n 1, 1) := by decide +kernel
theorem dX6_beginAt_11 : decode cX6_beginAt 11 = .ok (.aload_n 0, 1) := by decide +kernel
theorem dX6_beginAt_12 : decode cX6_beginAt 12 = .ok (.getfield 7, 3) := by decide +kernel
theorem dX6_beginAt_15 : decode cX6_beginAt 15 = .ok (.irem, 1) := by decide +kernel
theorem dX6_beginAt_16 : decode cX6_beginAt 16 = .ok (.isub, 1) := by decide +kernel
theorem dX6_beginAt_17 : decode cX6_beginAt 17 = .ok (.bipush 7, 2) := by decide +kernel
theorem dX6_beginAt_19 : decode cX6_beginAt 19 = .ok (.if_icmp .ge 19, 3) := by decide +kernel
theorem dX6_beginAt_22 : decode cX6_beginAt 22 = .ok (.iload_n 1, 1) := by decide +kernel
theorem dX6_beginAt_23 : decode cX6_beginAt 23 = .ok (.aload_n 0, 1) := by decide +kernel
theorem dX6_beginAt_24 : decode cX6_beginAt 24 = .ok (.getfield 7, 3) := by decide +kernel
theorem dX6_beginAt_27 : decode cX6_beginAt 27 = .ok (.idiv, 1) := by decide +kernel
theorem dX6_beginAt_28 : decode cX6_beginAt 28 = .ok (.iconst 1, 1) := by decide +kernel
theorem dX6_beginAt_29 : decode cX6_beginAt 29 = .ok (.iadd, 1) := by decide +kernel
theorem dX6_beginAt_30 : decode cX6_beginAt 30 = .ok (.aload_n 0, 1) := by decide +kernel
theorem dX6_beginAt_31 : decode cX6_beginAt 31 = .ok (.getfield 7, 3) := by decide +kernel
theorem dX6_beginAt_34 : decode cX6_beginAt 34 = .ok (.imul, 1) := by decide +kernel
theorem dX6_beginAt_35 : decode cX6_beginAt 35 = .ok (.goto 14, 3) := by decide +kernel
theorem dX6_beginAt_38 : decode cX6_beginAt 38 = .ok (.iload_n 1, 1) := by decide +kernel
theorem dX6_beginAt_39 : decode cX6_beginAt 39 = .ok (.aload_n 0, 1) := by decide +kernel
theorem dX6_beginAt_40 : decode cX6_beginAt 40 = .ok (.getfield 7, 3) := by decide +kernel
theorem dX6_beginAt_43 : decode cX6_beginAt 43 = .ok (.idiv, 1) := by decide +kernel
theorem dX6_beginAt_44 : decode cX6_beginAt 44 = .ok (.aload_n 0, 1) := by decide +kernel
theorem dX6_beginAt_45 : decode cX6_beginAt 45 = .ok (.getfield 7, 3) := by decide +kernel
theorem dX6_beginAt_48 : decode cX6_beginAt 48 = .ok (.imul, 1) := by decide +kernel
theorem dX6_beginAt_49 : decode cX6_beginAt 49 = .ok (.putfield 44, 3) := by decide +kernel
theorem dX6_beginAt_52 : decode cX6_beginAt 52 = .ok (.aload_n 0, 1) := by decide +kernel
theorem dX6_beginAt_53 : decode cX6_beginAt 53 = .ok (.iload_n 1, 1) := by decide +kernel
theorem dX6_beginAt_54 : decode cX6_beginAt 54 = .ok (.ifCond .le 7, 3) := by decide +kernel
theorem dX6_beginAt_57 : decode cX6_beginAt 57 = .ok (.iconst 1, 1) := by decide +kernel
theorem dX6_beginAt_58 : decode cX6_beginAt 58 = .ok (.goto 4, 3) := by decide +kernel
theorem dX6_beginAt_61 : decode cX6_beginAt 61 = .ok (.iconst 0, 1) := by decide +kernel
theorem dX6_beginAt_62 : decode cX6_beginAt 62 = .ok (.putfield 47, 3) := by decide +kernel
theorem dX6_beginAt_65 : decode cX6_beginAt 65 = .ok (.aload_n 0, 1) := by decide +kernel
theorem dX6_beginAt_66 : decode cX6_beginAt 66 = .ok (.iconst 0, 1) := by decide +kernel
theorem dX6_beginAt_67 : decode cX6_beginAt 67 = .ok (.putfield 51, 3) := by decide +kernel
theorem dX6_beginAt_70 : decode cX6_beginAt 70 = .ok (.aload_n 0, 1) := by decide +kernel
theorem dX6_beginAt_71 : decode cX6_beginAt 71 = .ok (.iconst 0, 1) := by decide +kernel
theorem dX6_beginAt_72 : decode cX6_beginAt 72 = .ok (.putfield 54, 3) := by decide +kernel
theorem dX6_beginAt_75 : decode cX6_beginAt 75 = .ok (.aload_n 0, 1) := by decide +kernel
theorem dX6_beginAt_76 : decode cX6_beginAt 76 = .ok (.iconst 0, 1) := by decide +kernel
theorem dX6_beginAt_77 : decode cX6_beginAt 77 = .ok (.putfield 57, 3) := by decide +kernel
theorem dX6_beginAt_80 : decode cX6_beginAt 80 = .ok (.aload_n 0, 1) := by decide +kernel
theorem dX6_beginAt_81 : decode cX6_beginAt 81 = .ok (.iconst 0, 1) := by decide +kernel
theorem dX6_beginAt_82 : decode cX6_beginAt 82 = .ok (.putfield 60, 3) := by decide +kernel
theorem dX6_beginAt_85 : decode cX6_beginAt 85 = .ok (.aload_n 0, 1) := by decide +kernel
theorem dX6_beginAt_86 : decode cX6_beginAt 86 = .ok (.iconst (-1), 1) := by decide +kernel
theorem dX6_beginAt_87 : decode cX6_beginAt 87 = .ok (.putfield 23, 3) := by decide +kernel
theorem dX6_beginAt_90 : decode cX6_beginAt 90 = .ok (.aload_n 0, 1) := by decide +kernel
theorem dX6_beginAt_91 : decode cX6_beginAt 91 = .ok (.iconst (-1), 1) := by decide +kernel
theorem dX6_beginAt_92 : decode cX6_beginAt 92 = .ok (.putfield 26, 3) := by decide +kernel
theorem dX6_beginAt_95 : decode cX6_beginAt 95 = .ok (.return_, 1) := by decide +kernel
set_option maxRecDepth 20000 in
theorem ggX6_clear_X6_isIn : GoodIn wsX6_clear wsX6_isIn := goodIn_r _ [6] (by decide +kernel) (by decide +kernel)
set_option maxRecDepth 20000 in
theorem gX6_clear_X6_isIn : GoodIn wsX6_clear (va_wsS RX6 63 yX6_isIn wsX6_isIn) := goodIn_app (goodIn_of _ (by decide +kernel)) ggX6_clear_X6_isIn
set_option maxRecDepth 20000 in
theorem ggX6_clear_X6_refused : GoodIn wsX6_clear wsX6_refused := goodIn_r _ [10, 11, 25, 26, 27, 28, 29, 30, 31, 32, 33, 34, 35, 36, 37, 38, 39, 40, 41, 42, 43, 44, 45, 46, 47] (by decide +kernel) (by decide +kernel)
set_option maxRecDepth 20000 in
theorem gX6_clear_X6_refused : GoodIn wsX6_clear (wsV RX6 67 RX6 yX6_refused wsX6_refused) := goodIn_app (goodIn_of _ (by decide +kernel)) ggX6_clear_X6_refused
set_option maxRecDepth 20000 in
theorem ggX6_clear_X6_beginAt : GoodIn wsX6_clear wsX6_beginAt := goodIn_r _ [15, 16, 1, 17, 18, 19, 20, 21, 22, 23, 24, 25, 26, 27, 28, 29, 30, 31, 32, 33, 34, 35, 36, 37, 38, 39, 40, 41, 42, 43, 44, 45, 46, 47] (by decide +kernel) (by decide +kernel)
set_option maxRecDepth 20000 in
theorem gX6_clear_X6_beginAt : GoodIn wsX6_clear (wsV RX6 74 RX6 yX6_beginAt wsX6_beginAt) := goodIn_app (goodIn_of _ (by decide +kernel)) ggX6_clear_X6_beginAt
theorem dX6_clear_0 : decode cX6_clear 0 = .ok (.aload_n 0, 1) := by decide +kernel
theorem dX6_clear_1 : decode cX6_clear 1 = .ok (.iload_n 1, 1) := by decide +kernel
theorem dX6_clear_2 : decode cX6_clear 2 = .ok (.bipush 16, 2) := by decide +kernel
theorem dX6_clear_4 : decode cX6_clear 4 = .ok (.sipush 512, 3) := by decide +kernel
theorem dX6_clear_7 : decode cX6_clear 7 = .ok (.invokestatic 63, 3) := by decide +kernel
theorem dX6_clear_10 : decode cX6_clear 10 = .ok (.ifCond .eq 7, 3) := by decide +kernel
theorem dX6_clear_13 : decode cX6_clear 13 = .ok (.iconst 0, 1) := by decide +kernel
theorem dX6_clear_14 : decode cX6_clear 14 = .ok (.goto 4, 3) := by decide +kernel
theorem dX6_clear_17 : decode cX6_clear 17 = .ok (.iconst 1, 1) := by decide +kernel
theorem dX6_clear_18 : decode cX6_clear 18 = .ok (.invokevirtual 67, 3) := by decide +kernel
theorem dX6_clear_21 : decode cX6_clear 21 = .ok (.ifCond .eq 4, 3) := by decide +kernel
theorem dX6_clear_24 : decode cX6_clear 24 = .ok (.return_, 1) := by decide +kernel
theorem dX6_clear_25 : decode cX6_clear 25 = .ok (.aload_n 0, 1) := by decide +kernel
theorem dX6_clear_26 : decode cX6_clear 26 = .ok (.iload_n 1, 1) := by decide +kernel
theorem dX6_clear_27 : decode cX6_clear 27 = .ok (.putfield 7, 3) := by decide +kernel
theorem dX6_clear_30 : decode cX6_clear 30 = .ok (.aload_n 0, 1) := by decide +kernel
theorem dX6_clear_31 : decode cX6_clear 31 = .ok (.iconst 0, 1) := by decide +kernel
theorem dX6_clear_32 : decode cX6_clear 32 = .ok (.putfield 71, 3) := by decide +kernel
theorem dX6_clear_35 : decode cX6_clear 35 = .ok (.aload_n 0, 1) := by decide +kernel
theorem dX6_clear_36 : decode cX6_clear 36 = .ok (.iconst 0, 1) := by decide +kernel
theorem dX6_clear_37 : decode cX6_clear 37 = .ok (.invokevirtual 74, 3) := by decide +kernel
theorem dX6_clear_40 : decode cX6_clear 40 = .ok (.return_, 1) := by decide +kernel
set_option maxRecDepth 20000 in
theorem ggX6_feed_X6_isIn : GoodIn wsX6_feed wsX6_isIn := goodIn_r _ [6] (by decide +kernel) (by decide +kernel)
set_option maxRecDepth 20000 in
theorem gX6_feed_X6_isIn : GoodIn wsX6_feed (va_wsS RX6 63 yX6_isIn wsX6_isIn) := goodIn_app (goodIn_of _ (by decide +kernel)) ggX6_feed_X6_isIn
set_option maxRecDepth 20000 in
theorem ggX6_feed_X6_refused : GoodIn wsX6_feed wsX6_refused := goodIn_r _ [10, 11, 12, 13, 14, 15, 16, 17, 18, 19, 20, 21, 22, 23, 24, 25, 26, 27, 28, 29, 30, 31, 32, 33, 34] (by decide +kernel) (by decide +kernel)
set_option maxRecDepth 20000 in
theorem gX6_feed_X6_refused : GoodIn wsX6_feed (wsV RX6 67 RX6 yX6_refused wsX6_refused) := goodIn_app (goodIn_of _ (by decide +kernel)) ggX6_feed_X6_refused
theorem dX6_feed_0 : decode cX6_feed 0 = .ok (.aload_n 0, 1) := by decide +kernel
theorem dX6_feed_1 : decode cX6_feed 1 = .ok (.iload_n 1, 1) := by decide +kernel
theorem dX6_feed_2 : decode cX6_feed 2 = .ok (.iconst 0, 1) := by decide +kernel
theorem dX6_feed_3 : decode cX6_feed 3 = .ok (.bipush 16, 2) := by decide +kernel
theorem dX6_feed_5 : decode cX6_feed 5 = .ok (.invokestatic 63, 3) := by decide +kernel
theorem dX6_feed_8 : decode cX6_feed 8 = .ok (.ifCond .ne 7, 3) := by decide +kernel
theorem dX6_feed_11 : decode cX6_feed 11 = .ok (.iconst 1, 1) := by decide +kernel
theorem dX6_feed_12 : decode cX6_feed 12 = .ok (.goto 20, 3) := by decide +kernel
theorem dX6_feed_15 : decode cX6_feed 15 = .ok (.aload_n 0, 1) := by decide +kernel
theorem dX6_feed_16 : decode cX6_feed 16 = .ok (.getfield 78, 3) := by decide +kernel
theorem dX6_feed_19 : decode cX6_feed 19 = .ok (.iload_n 1, 1) := by decide +kernel
theorem dX6_feed_20 : decode cX6_feed 20 = .ok (.iadd, 1) := by decide +kernel
theorem dX6_feed_21 : decode cX6_feed 21 = .ok (.sipush 400, 3) := by decide +kernel
theorem dX6_feed_24 : decode cX6_feed 24 = .ok (.if_icmp .le 7, 3) := by decide +kernel
theorem dX6_feed_27 : decode cX6_feed 27 = .ok (.iconst 2, 1) := by decide +kernel
theorem dX6_feed_28 : decode cX6_feed 28 = .ok (.goto 4, 3) := by decide +kernel
theorem dX6_feed_31 : decode cX6_feed 31 = .ok (.iconst 0, 1) := by decide +kernel
theorem dX6_feed_32 : decode cX6_feed 32 = .ok (.invokevirtual 67, 3) := by decide +kernel
theorem dX6_feed_35 : decode cX6_feed 35 = .ok (.ifCond .eq 5, 3) := by decide +kernel
theorem dX6_feed_38 : decode cX6_feed 38 = .ok (.iconst 0, 1) := by decide +kernel
theorem dX6_feed_39 : decode cX6_feed 39 = .ok (.ireturn, 1) := by decide +kernel
theorem dX6_feed_40 : decode cX6_feed 40 = .ok (.iconst 0, 1) := by decide +kernel
theorem dX6_feed_41 : decode cX6_feed 41 = .ok (.istore 6, 2) := by decide +kernel
theorem dX6_feed_43 : decode cX6_feed 43 = .ok (.iload 6, 2) := by decide +kernel
theorem dX6_feed_45 : decode cX6_feed 45 = .ok (.iload_n 1, 1) := by decide +kernel
theorem dX6_feed_46 : decode cX6_feed 46 = .ok (.if_icmp .ge 82, 3) := by decide +kernel
theorem dX6_feed_49 : decode cX6_feed 49 = .ok (.iload 6, 2) := by decide +kernel
theorem dX6_feed_51 : decode cX6_feed 51 = .ok (.iconst 4, 1) := by decide +kernel
theorem dX6_feed_52 : decode cX6_feed 52 = .ok (.if_icmp .ge 7, 3) := by decide +kernel
theorem dX6_feed_55 : decode cX6_feed 55 = .ok (.iload_n 2, 1) := by decide +kernel
theorem dX6_feed_56 : decode cX6_feed 56 = .ok (.goto 28, 3) := by decide +kernel
theorem dX6_feed_59 : decode cX6_feed 59 = .ok (.iload 6, 2) := by decide +kernel
theorem dX6_feed_61 : decode cX6_feed 61 = .ok (.bipush 8, 2) := by decide +kernel
theorem dX6_feed_63 : decode cX6_feed 63 = .ok (.if_icmp .ge 7, 3) := by decide +kernel
theorem dX6_feed_66 : decode cX6_feed 66 = .ok (.iload_n 3, 1) := by decide +kernel
theorem dX6_feed_67 : decode cX6_feed 67 = .ok (.goto 17, 3) := by decide +kernel
theorem dX6_feed_70 : decode cX6_feed 70 = .ok (.iload 6, 2) := by decide +kernel
theorem dX6_feed_72 : decode cX6_feed 72 = .ok (.bipush 12, 2) := by decide +kernel
theorem dX6_feed_74 : decode cX6_feed 74 = .ok (.if_icmp .ge 8, 3) := by decide +kernel
theorem dX6_feed_77 : decode cX6_feed 77 = .ok (.iload 4, 2) := by decide +kernel
theorem dX6_feed_79 : decode cX6_feed 79 = .ok (.goto 5, 3) := by decide +kernel
theorem dX6_feed_82 : decode cX6_feed 82 = .ok (.iload 5, 2) := by decide +kernel
theorem dX6_feed_84 : decode cX6_feed 84 = .ok (.istore 7, 2) := by decide +kernel
theorem dX6_feed_86 : decode cX6_feed 86 = .ok (.aload_n 0, 1) := by decide +kernel
theorem dX6_feed_87 : decode cX6_feed 87 = .ok (.getfield 17, 3) := by decide +kernel
theorem dX6_feed_90 : decode cX6_feed 90 = .ok (.aload_n 0, 1) := by decide +kernel
theorem dX6_feed_91 : decode cX6_feed 91 = .ok (.getfield 78, 3) := by decide +kernel
theorem dX6_feed_94 : decode cX6_feed 94 = .ok (.iload 7, 2) := by decide +kernel
theorem dX6_feed_96 : decode cX6_feed 96 = .ok (.bipush 24, 2) := by decide +kernel
theorem dX6_feed_98 : decode cX6_feed 98 = .ok (.bipush 8, 2) := by decide +kernel
theorem dX6_feed_100 : decode cX6_feed 100 = .ok (.iload 6, 2) := by decide +kernel
theorem dX6_feed_102 : decode cX6_feed 102 = .ok (.iconst 4, 1) := by decide +kernel
theorem dX6_feed_103 : decode cX6_feed 103 = .ok (.irem, 1) := by decide +kernel
theorem dX6_feed_104 : decode cX6_feed 104 = .ok (.imul, 1) := by decide +kernel
theorem dX6_feed_105 : decode cX6_feed 105 = .ok (.isub, 1) := by decide +kernel
theorem dX6_feed_106 : decode cX6_feed 106 = .ok (.ishr, 1) := by decide +kernel
theorem dX6_feed_107 : decode cX6_feed 107 = .ok (.sipush 255, 3) := by decide +kernel
theorem dX6_feed_110 : decode cX6_feed 110 = .ok (.iand, 1) := by decide +kernel
theorem dX6_feed_111 : decode cX6_feed 111 = .ok (.iastore, 1) := by decide +kernel
theorem dX6_feed_112 : decode cX6_feed 112 = .ok (.aload_n 0, 1) := by decide +kernel
theorem dX6_feed_113 : decode cX6_feed 113 = .ok (.dup, 1) := by decide +kernel
theorem dX6_feed_114 : decode cX6_feed 114 = .ok (.getfield 78, 3) := by decide +kernel
theorem dX6_feed_117 : decode cX6_feed 117 = .ok (.iconst 1, 1) := by decide +kernel
theorem dX6_feed_118 : decode cX6_feed 118 = .ok (.iadd, 1) := by decide +kernel
theorem dX6_feed_119 : decode cX6_feed 119 = .ok (.putfield 78, 3) := by decide +kernel
theorem dX6_feed_122 : decode cX6_feed 122 = .ok (.iinc 6 1, 3) := by decide +kernel
theorem dX6_feed_125 : decode cX6_feed 125 = .ok (.goto (-82), 3) := by decide +kernel
theorem dX6_feed_128 : decode cX6_feed 128 = .ok (.aload_n 0, 1) := by decide +kernel
theorem dX6_feed_129 : decode cX6_feed 129 = .ok (.getfield 78, 3) := by decide +kernel
theorem dX6_feed_132 : decode cX6_feed 132 = .ok (.ireturn, 1) := by decide +kernel
theorem dX6_erase_0 : decode cX6_erase 0 = .ok (.aload_n 0, 1) := by decide +kernel
theorem dX6_erase_1 : decode cX6_erase 1 = .ok (.iconst 0, 1) := by decide +kernel
theorem dX6_erase_2 : decode cX6_erase 2 = .ok (.putfield 38, 3) := by decide +kernel
theorem dX6_erase_5 : decode cX6_erase 5 = .ok (.aload_n 0, 1) := by decide +kernel
theorem dX6_erase_6 : decode cX6_erase 6 = .ok (.getfield 78, 3) := by decide +kernel
theorem dX6_erase_9 : decode cX6_erase 9 = .ok (.istore_n 1, 1) := by decide +kernel
theorem dX6_erase_10 : decode cX6_erase 10 = .ok (.aload_n 0, 1) := by decide +kernel
theorem dX6_erase_11 : decode cX6_erase 11 = .ok (.iconst 0, 1) := by decide +kernel
theorem dX6_erase_12 : decode cX6_erase 12 = .ok (.putfield 78, 3) := by decide +kernel
theorem dX6_erase_15 : decode cX6_erase 15 = .ok (.iload_n 1, 1) := by decide +kernel
theorem dX6_erase_16 : decode cX6_erase 16 = .ok (.ireturn, 1) := by decide +kernel
theorem dX6_more_0 : decode cX6_more 0 = .ok (.iload_n 0, 1) := by decide +kernel
theorem dX6_more_1 : decode cX6_more 1 = .ok (.iload_n 1, 1) := by decide +kernel
theorem dX6_more_2 : decode cX6_more 2 = .ok (.ixor, 1) := by decide +kernel
theorem dX6_more_3 : decode cX6_more 3 = .ok (.istore_n 2, 1) := by decide +kernel
theorem dX6_more_4 : decode cX6_more 4 = .ok (.iconst 0, 1) := by decide +kernel
theorem dX6_more_5 : decode cX6_more 5 = .ok (.istore_n 3, 1) := by decide +kernel
theorem dX6_more_6 : decode cX6_more 6 = .ok (.iload_n 3, 1) := by decide +kernel
theorem dX6_more_7 : decode cX6_more 7 = .ok (.bipush 8, 2) := by decide +kernel
theorem dX6_more_9 : decode cX6_more 9 = .ok (.if_icmp .ge 28, 3) := by decide +kernel
theorem dX6_more_12 : decode cX6_more 12 = .ok (.iload_n 2, 1) := by decide +kernel
theorem dX6_more_13 : decode cX6_more 13 = .ok (.iconst 1, 1) := by decide +kernel
theorem dX6_more_14 : decode cX6_more 14 = .ok (.iand, 1) := by decide +kernel
theorem dX6_more_15 : decode cX6_more 15 = .ok (.ifCond .eq 12, 3) := by decide +kernel
theorem dX6_more_18 : decode cX6_more 18 = .ok (.iload_n 2, 1) := by decide +kernel
theorem dX6_more_19 : decode cX6_more 19 = .ok (.iconst 1, 1) := by decide +kernel
theorem dX6_more_20 : decode cX6_more 20 = .ok (.iushr, 1) := by decide +kernel
theorem dX6_more_21 : decode cX6_more 21 = .ok (.ldc 81, 2) := by decide +kernel
theorem dX6_more_23 : decode cX6_more 23 = .ok (.ixor, 1) := by decide +kernel
theorem dX6_more_24 : decode cX6_more 24 = .ok (.goto 6, 3) := by decide +kernel
theorem dX6_more_27 : decode cX6_more 27 = .ok (.iload_n 2, 1) := by decide +kernel
theorem dX6_more_28 : decode cX6_more 28 = .ok (.iconst 1, 1) := by decide +kernel
theorem dX6_more_29 : decode cX6_more 29 = .ok (.iushr, 1) := by decide +kernel
theorem dX6_more_30 : decode cX6_more 30 = .ok (.istore_n 2, 1) := by decide +kernel
theorem dX6_more_31 : decode cX6_more 31 = .ok (.iinc 3 1, 3) := by decide +kernel
theorem dX6_more_34 : decode cX6_more 34 = .ok (.goto (-28), 3) := by decide +kernel
theorem dX6_more_37 : decode cX6_more 37 = .ok (.iload_n 2, 1) := by decide +kernel
theorem dX6_more_38 : decode cX6_more 38 = .ok (.ireturn, 1) := by decide +kernel
theorem dX6_masked_0 : decode cX6_masked 0 = .ok (.iload_n 0, 1) := by decide +kernel
theorem dX6_masked_1 : decode cX6_masked 1 = .ok (.iconst (-1), 1) := by decide +kernel
theorem dX6_masked_2 : decode cX6_masked 2 = .ok (.ixor, 1) := by decide +kernel
theorem dX6_masked_3 : decode cX6_masked 3 = .ok (.istore_n 1, 1) := by decide +kernel
theorem dX6_masked_4 : decode cX6_masked 4 = .ok (.iload_n 1, 1) := by decide +kernel
theorem dX6_masked_5 : decode cX6_masked 5 = .ok (.bipush 15, 2) := by decide +kernel
theorem dX6_masked_7 : decode cX6_masked 7 = .ok (.iushr, 1) := by decide +kernel
theorem dX6_masked_8 : decode cX6_masked 8 = .ok (.iload_n 1, 1) := by decide +kernel
theorem dX6_masked_9 : decode cX6_masked 9 = .ok (.bipush 17, 2) := by decide +kernel
theorem dX6_masked_11 : decode cX6_masked 11 = .ok (.ishl, 1) := by decide +kernel
theorem dX6_masked_12 : decode cX6_masked 12 = .ok (.ior, 1) := by decide +kernel
theorem dX6_masked_13 : decode cX6_masked 13 = .ok (.ldc 82, 2) := by decide +kernel
theorem dX6_masked_15 : decode cX6_masked 15 = .ok (.iadd, 1) := by decide +kernel
theorem dX6_masked_16 : decode cX6_masked 16 = .ok (.ireturn, 1) := by decide +kernel
set_option maxRecDepth 20000 in
theorem ggX6_checkOf_X6_more : GoodIn wsX6_checkOf wsX6_more := goodIn_r _ [5, 6] (by decide +kernel) (by decide +kernel)
set_option maxRecDepth 20000 in
theorem gX6_checkOf_X6_more : GoodIn wsX6_checkOf (va_wsS RX6 83 yX6_more wsX6_more) := goodIn_app (goodIn_of _ (by decide +kernel)) ggX6_checkOf_X6_more
set_option maxRecDepth 20000 in
theorem ggX6_checkOf_X6_masked : GoodIn wsX6_checkOf wsX6_masked := goodIn_r _ [9, 10] (by decide +kernel) (by decide +kernel)
set_option maxRecDepth 20000 in
theorem gX6_checkOf_X6_masked : GoodIn wsX6_checkOf (va_wsS RX6 87 yX6_masked wsX6_masked) := goodIn_app (goodIn_of _ (by decide +kernel)) ggX6_checkOf_X6_masked
theorem dX6_checkOf_0 : decode cX6_checkOf 0 = .ok (.iconst (-1), 1) := by decide +kernel
theorem dX6_checkOf_1 : decode cX6_checkOf 1 = .ok (.iload_n 1, 1) := by decide +kernel
theorem dX6_checkOf_2 : decode cX6_checkOf 2 = .ok (.invokestatic 83, 3) := by decide +kernel
theorem dX6_checkOf_5 : decode cX6_checkOf 5 = .ok (.istore 4, 2) := by decide +kernel
theorem dX6_checkOf_7 : decode cX6_checkOf 7 = .ok (.iconst 0, 1) := by decide +kernel
theorem dX6_checkOf_8 : decode cX6_checkOf 8 = .ok (.istore 5, 2) := by decide +kernel
theorem dX6_checkOf_10 : decode cX6_checkOf 10 = .ok (.iload 5, 2) := by decide +kernel
theorem dX6_checkOf_12 : decode cX6_checkOf 12 = .ok (.iload_n 3, 1) := by decide +kernel
theorem dX6_checkOf_13 : decode cX6_checkOf 13 = .ok (.if_icmp .ge 25, 3) := by decide +kernel
theorem dX6_checkOf_16 : decode cX6_checkOf 16 = .ok (.iload 4, 2) := by decide +kernel
theorem dX6_checkOf_18 : decode cX6_checkOf 18 = .ok (.aload_n 0, 1) := by decide +kernel
theorem dX6_checkOf_19 : decode cX6_checkOf 19 = .ok (.getfield 17, 3) := by decide +kernel
theorem dX6_checkOf_22 : decode cX6_checkOf 22 = .ok (.iload_n 2, 1) := by decide +kernel
theorem dX6_checkOf_23 : decode cX6_checkOf 23 = .ok (.iload 5, 2) := by decide +kernel
theorem dX6_checkOf_25 : decode cX6_checkOf 25 = .ok (.iadd, 1) := by decide +kernel
theorem dX6_checkOf_26 : decode cX6_checkOf 26 = .ok (.iaload, 1) := by decide +kernel
theorem dX6_checkOf_27 : decode cX6_checkOf 27 = .ok (.invokestatic 83, 3) := by decide +kernel
theorem dX6_checkOf_30 : decode cX6_checkOf 30 = .ok (.istore 4, 2) := by decide +kernel
theorem dX6_checkOf_32 : decode cX6_checkOf 32 = .ok (.iinc 5 1, 3) := by decide +kernel
theorem dX6_checkOf_35 : decode cX6_checkOf 35 = .ok (.goto (-25), 3) := by decide +kernel
theorem dX6_checkOf_38 : decode cX6_checkOf 38 = .ok (.iload 4, 2) := by decide +kernel
theorem dX6_checkOf_40 : decode cX6_checkOf 40 = .ok (.invokestatic 87, 3) := by decide +kernel
theorem dX6_checkOf_43 : decode cX6_checkOf 43 = .ok (.ireturn, 1) := by decide +kernel
set_option maxRecDepth 20000 in
theorem ggX6_check_X6_isIn : GoodIn wsX6_check wsX6_isIn := goodIn_r _ [5] (by decide +kernel) (by decide +kernel)
set_option maxRecDepth 20000 in
theorem gX6_check_X6_isIn : GoodIn wsX6_check (va_wsS RX6 63 yX6_isIn wsX6_isIn) := goodIn_app (goodIn_of _ (by decide +kernel)) ggX6_check_X6_isIn
set_option maxRecDepth 20000 in
theorem ggX6_check_X6_refused : GoodIn wsX6_check wsX6_refused := goodIn_r _ [9, 10, 24, 25, 26, 27, 28, 29, 30, 31, 32, 33, 34, 35, 36, 37, 38, 39, 40, 41, 42, 43, 44, 45, 46] (by decide +kernel) (by decide +kernel)
set_option maxRecDepth 20000 in
theorem gX6_check_X6_refused : GoodIn wsX6_check (wsV RX6 67 RX6 yX6_refused wsX6_refused) := goodIn_app (goodIn_of _ (by decide +kernel)) ggX6_check_X6_refused
set_option maxRecDepth 20000 in
theorem ggX6_check_X6_checkOf : GoodIn wsX6_check wsX6_checkOf := goodIn_r _ [14, 15, 16, 17, 4, 18, 19, 20, 21, 22, 23, 24, 25, 26, 27, 28, 29, 30, 31, 32, 33, 34, 35, 36, 37, 38, 39, 40, 41, 42, 43, 44, 45, 46] (by decide +kernel) (by decide +kernel)
set_option maxRecDepth 20000 in
theorem gX6_check_X6_checkOf : GoodIn wsX6_check (wsV RX6 91 RX6 yX6_checkOf wsX6_checkOf) := goodIn_app (goodIn_of _ (by decide +kernel)) ggX6_check_X6_checkOf
theorem dX6_check_0 : decode cX6_check 0 = .ok (.aload_n 0, 1) := by decide +kernel
theorem dX6_check_1 : decode cX6_check 1 = .ok (.iload_n 1, 1) := by decide +kernel
theorem dX6_check_2 : decode cX6_check 2 = .ok (.iconst 0, 1) := by decide +kernel
theorem dX6_check_3 : decode cX6_check 3 = .ok (.sipush 255, 3) := by decide +kernel
theorem dX6_check_6 : decode cX6_check 6 = .ok (.invokestatic 63, 3) := by decide +kernel
theorem dX6_check_9 : decode cX6_check 9 = .ok (.ifCond .eq 7, 3) := by decide +kernel
theorem dX6_check_12 : decode cX6_check 12 = .ok (.iconst 0, 1) := by decide +kernel
theorem dX6_check_13 : decode cX6_check 13 = .ok (.goto 4, 3) := by decide +kernel
theorem dX6_check_16 : decode cX6_check 16 = .ok (.iconst 1, 1) := by decide +kernel
theorem dX6_check_17 : decode cX6_check 17 = .ok (.invokevirtual 67, 3) := by decide +kernel
theorem dX6_check_20 : decode cX6_check 20 = .ok (.ifCond .eq 5, 3) := by decide +kernel
theorem dX6_check_23 : decode cX6_check 23 = .ok (.iconst 0, 1) := by decide +kernel
theorem dX6_check_24 : decode cX6_check 24 = .ok (.ireturn, 1) := by decide +kernel
theorem dX6_check_25 : decode cX6_check 25 = .ok (.aload_n 0, 1) := by decide +kernel
theorem dX6_check_26 : decode cX6_check 26 = .ok (.iload_n 1, 1) := by decide +kernel
theorem dX6_check_27 : decode cX6_check 27 = .ok (.iconst 0, 1) := by decide +kernel
theorem dX6_check_28 : decode cX6_check 28 = .ok (.aload_n 0, 1) := by decide +kernel
theorem dX6_check_29 : decode cX6_check 29 = .ok (.getfield 78, 3) := by decide +kernel
theorem dX6_check_32 : decode cX6_check 32 = .ok (.invokevirtual 91, 3) := by decide +kernel
theorem dX6_check_35 : decode cX6_check 35 = .ok (.ireturn, 1) := by decide +kernel
theorem dX6_put_0 : decode cX6_put 0 = .ok (.aload_n 0, 1) := by decide +kernel
theorem dX6_put_1 : decode cX6_put 1 = .ok (.getfield 13, 3) := by decide +kernel
theorem dX6_put_4 : decode cX6_put 4 = .ok (.aload_n 0, 1) := by decide +kernel
theorem dX6_put_5 : decode cX6_put 5 = .ok (.getfield 71, 3) := by decide +kernel
theorem dX6_put_8 : decode cX6_put 8 = .ok (.iload_n 1, 1) := by decide +kernel
theorem dX6_put_9 : decode cX6_put 9 = .ok (.sipush 255, 3) := by decide +kernel
theorem dX6_put_12 : decode cX6_put 12 = .ok (.iand, 1) := by decide +kernel
theorem dX6_put_13 : decode cX6_put 13 = .ok (.iastore, 1) := by decide +kernel
theorem dX6_put_14 : decode cX6_put 14 = .ok (.aload_n 0, 1) := by decide +kernel
theorem dX6_put_15 : decode cX6_put 15 = .ok (.dup, 1) := by decide +kernel
theorem dX6_put_16 : decode cX6_put 16 = .ok (.getfield 71, 3) := by decide +kernel
theorem dX6_put_19 : decode cX6_put 19 = .ok (.iconst 1, 1) := by decide +kernel
theorem dX6_put_20 : decode cX6_put 20 = .ok (.iadd, 1) := by decide +kernel
theorem dX6_put_21 : decode cX6_put 21 = .ok (.putfield 71, 3) := by decide +kernel
theorem dX6_put_24 : decode cX6_put 24 = .ok (.return_, 1) := by decide +kernel
set_option maxRecDepth 20000 in
theorem ggX6_putFragment_X6_checkOf : GoodIn wsX6_putFragment wsX6_checkOf := goodIn_r _ [6, 1, 7, 8, 5, 9, 10, 11, 12, 13, 14, 21, 22, 23, 24, 25, 26, 27, 28, 29, 30, 31, 32, 33, 34, 35, 36, 37, 38, 39, 40, 41, 42, 43] (by decide +kernel) (by decide +kernel)
set_option maxRecDepth 20000 in
theorem gX6_putFragment_X6_checkOf : GoodIn wsX6_putFragment (wsV RX6 91 RX6 yX6_checkOf wsX6_checkOf) := goodIn_app (goodIn_of _ (by decide +kernel)) ggX6_putFragment_X6_checkOf
set_option maxRecDepth 20000 in
theorem ggX6_putFragment_X6_put : GoodIn wsX6_putFragment wsX6_put := goodIn_r _ [18, 19, 20, 21, 22, 23, 24, 25, 26, 27, 28, 29, 30, 31, 32, 33, 34, 35, 36, 37, 38, 39, 40, 41, 42, 43] (by decide +kernel) (by decide +kernel)
set_option maxRecDepth 20000 in
theorem gX6_putFragment_X6_put : GoodIn wsX6_putFragment (wsV RX6 95 RX6 yX6_put wsX6_put) := goodIn_app (goodIn_of _ (by decide +kernel)) ggX6_putFragment_X6_put
theorem dX6_putFragment_0 : decode cX6_putFragment 0 = .ok (.aload_n 0, 1) := by decide +kernel
theorem dX6_putFragment_1 : decode cX6_putFragment 1 = .ok (.iload_n 1, 1) := by decide +kernel
theorem dX6_putFragment_2 : decode cX6_putFragment 2 = .ok (.iload_n 2, 1) := by decide +kernel
theorem dX6_putFragment_3 : decode cX6_putFragment 3 = .ok (.iload_n 3, 1) := by decide +kernel
theorem dX6_putFragment_4 : decode cX6_putFragment 4 = .ok (.invokevirtual 91, 3) := by decide +kernel
theorem dX6_putFragment_7 : decode cX6_putFragment 7 = .ok (.istore 4, 2) := by decide +kernel
theorem dX6_putFragment_9 : decode cX6_putFragment 9 = .ok (.iconst 0, 1) := by decide +kernel
theorem dX6_putFragment_10 : decode cX6_putFragment 10 = .ok (.istore 5, 2) := by decide +kernel
theorem dX6_putFragment_12 : decode cX6_putFragment 12 = .ok (.iload 5, 2) := by decide +kernel
theorem dX6_putFragment_14 : decode cX6_putFragment 14 = .ok (.iconst 4, 1) := by decide +kernel
theorem dX6_putFragment_15 : decode cX6_putFragment 15 = .ok (.if_icmp .ge 21, 3) := by decide +kernel
theorem dX6_putFragment_18 : decode cX6_putFragment 18 = .ok (.aload_n 0, 1) := by decide +kernel
theorem dX6_putFragment_19 : decode cX6_putFragment 19 = .ok (.iload 4, 2) := by decide +kernel
theorem dX6_putFragment_21 : decode cX6_putFragment 21 = .ok (.bipush 8, 2) := by decide +kernel
theorem dX6_putFragment_23 : decode cX6_putFragment 23 = .ok (.iload 5, 2) := by decide +kernel
theorem dX6_putFragment_25 : decode cX6_putFragment 25 = .ok (.imul, 1) := by decide +kernel
theorem dX6_putFragment_26 : decode cX6_putFragment 26 = .ok (.ishr, 1) := by decide +kernel
theorem dX6_putFragment_27 : decode cX6_putFragment 27 = .ok (.invokevirtual 95, 3) := by decide +kernel
theorem dX6_putFragment_30 : decode cX6_putFragment 30 = .ok (.iinc 5 1, 3) := by decide +kernel
theorem dX6_putFragment_33 : decode cX6_putFragment 33 = .ok (.goto (-21), 3) := by decide +kernel
theorem dX6_putFragment_36 : decode cX6_putFragment 36 = .ok (.aload_n 0, 1) := by decide +kernel
theorem dX6_putFragment_37 : decode cX6_putFragment 37 = .ok (.iload_n 3, 1) := by decide +kernel
theorem dX6_putFragment_38 : decode cX6_putFragment 38 = .ok (.invokevirtual 95, 3) := by decide +kernel
theorem dX6_putFragment_41 : decode cX6_putFragment 41 = .ok (.aload_n 0, 1) := by decide +kernel
theorem dX6_putFragment_42 : decode cX6_putFragment 42 = .ok (.iload_n 3, 1) := by decide +kernel
theorem dX6_putFragment_43 : decode cX6_putFragment 43 = .ok (.bipush 8, 2) := by decide +kernel
theorem dX6_putFragment_45 : decode cX6_putFragment 45 = .ok (.ishr, 1) := by decide +kernel
theorem dX6_putFragment_46 : decode cX6_putFragment 46 = .ok (.invokevirtual 95, 3) := by decide +kernel
theorem dX6_putFragment_49 : decode cX6_putFragment 49 = .ok (.aload_n 0, 1) := by decide +kernel
theorem dX6_putFragment_50 : decode cX6_putFragment 50 = .ok (.iload_n 1, 1) := by decide +kernel
theorem dX6_putFragment_51 : decode cX6_putFragment 51 = .ok (.invokevirtual 95, 3) := by decide +kernel
theorem dX6_putFragment_54 : decode cX6_putFragment 54 = .ok (.iconst 0, 1) := by decide +kernel
theorem dX6_putFragment_55 : decode cX6_putFragment 55 = .ok (.istore 5, 2) := by decide +kernel
theorem dX6_putFragment_57 : decode cX6_putFragment 57 = .ok (.iload 5, 2) := by decide +kernel
theorem dX6_putFragment_59 : decode cX6_putFragment 59 = .ok (.iload_n 3, 1) := by decide +kernel
theorem dX6_putFragment_60 : decode cX6_putFragment 60 = .ok (.if_icmp .ge 22, 3) := by decide +kernel
theorem dX6_putFragment_63 : decode cX6_putFragment 63 = .ok (.aload_n 0, 1) := by decide +kernel
theorem dX6_putFragment_64 : decode cX6_putFragment 64 = .ok (.aload_n 0, 1) := by decide +kernel
theorem dX6_putFragment_65 : decode cX6_putFragment 65 = .ok (.getfield 17, 3) := by decide +kernel
theorem dX6_putFragment_68 : decode cX6_putFragment 68 = .ok (.iload_n 2, 1) := by decide +kernel
theorem dX6_putFragment_69 : decode cX6_putFragment 69 = .ok (.iload 5, 2) := by decide +kernel
theorem dX6_putFragment_71 : decode cX6_putFragment 71 = .ok (.iadd, 1) := by decide +kernel
theorem dX6_putFragment_72 : decode cX6_putFragment 72 = .ok (.iaload, 1) := by decide +kernel
theorem dX6_putFragment_73 : decode cX6_putFragment 73 = .ok (.invokevirtual 95, 3) := by decide +kernel
theorem dX6_putFragment_76 : decode cX6_putFragment 76 = .ok (.iinc 5 1, 3) := by decide +kernel
theorem dX6_putFragment_79 : decode cX6_putFragment 79 = .ok (.goto (-22), 3) := by decide +kernel
theorem dX6_putFragment_82 : decode cX6_putFragment 82 = .ok (.return_, 1) := by decide +kernel
theorem dX6_appendedSize_0 : decode cX6_appendedSize 0 = .ok (.aload_n 0, 1) := by decide +kernel
theorem dX6_appendedSize_1 : decode cX6_appendedSize 1 = .ok (.getfield 71, 3) := by decide +kernel
theorem dX6_appendedSize_4 : decode cX6_appendedSize 4 = .ok (.istore_n 1, 1) := by decide +kernel
theorem dX6_appendedSize_5 : decode cX6_appendedSize 5 = .ok (.aload_n 0, 1) := by decide +kernel
theorem dX6_appendedSize_6 : decode cX6_appendedSize 6 = .ok (.getfield 78, 3) := by decide +kernel
theorem dX6_appendedSize_9 : decode cX6_appendedSize 9 = .ok (.istore_n 2, 1) := by decide +kernel
theorem dX6_appendedSize_10 : decode cX6_appendedSize 10 = .ok (.iconst 1, 1) := by decide +kernel
theorem dX6_appendedSize_11 : decode cX6_appendedSize 11 = .ok (.istore_n 3, 1) := by decide +kernel
theorem dX6_appendedSize_12 : decode cX6_appendedSize 12 = .ok (.iload_n 3, 1) := by decide +kernel
theorem dX6_appendedSize_13 : decode cX6_appendedSize 13 = .ok (.ifCond .eq 80, 3) := by decide +kernel
theorem dX6_appendedSize_16 : decode cX6_appendedSize 16 = .ok (.aload_n 0, 1) := by decide +kernel
theorem dX6_appendedSize_17 : decode cX6_appendedSize 17 = .ok (.getfield 7, 3) := by decide +kernel
theorem dX6_appendedSize_20 : decode cX6_appendedSize 20 = .ok (.iload_n 1, 1) := by decide +kernel
theorem dX6_appendedSize_21 : decode cX6_appendedSize 21 = .ok (.aload_n 0, 1) := by decide +kernel
theorem dX6_appendedSize_22 : decode cX6_appendedSize 22 = .ok (.getfield 7, 3) := by decide +kernel
theorem dX6_appendedSize_25 : decode cX6_appendedSize 25 = .ok (.irem, 1) := by decide +kernel
theorem dX6_appendedSize_26 : decode cX6_appendedSize 26 = .ok (.isub, 1) := by decide +kernel
theorem dX6_appendedSize_27 : decode cX6_appendedSize 27 = .ok (.istore 4, 2) := by decide +kernel
theorem dX6_appendedSize_29 : decode cX6_appendedSize 29 = .ok (.iload 4, 2) := by decide +kernel
theorem dX6_appendedSize_31 : decode cX6_appendedSize 31 = .ok (.bipush 7, 2) := by decide +kernel
theorem dX6_appendedSize_33 : decode cX6_appendedSize 33 = .ok (.if_icmp .ge 14, 3) := by decide +kernel
theorem dX6_appendedSize_36 : decode cX6_appendedSize 36 = .ok (.iload_n 1, 1) := by decide +kernel
theorem dX6_appendedSize_37 : decode cX6_appendedSize 37 = .ok (.iload 4, 2) := by decide +kernel
theorem dX6_appendedSize_39 : decode cX6_appendedSize 39 = .ok (.iadd, 1) := by decide +kernel
theorem dX6_appendedSize_40 : decode cX6_appendedSize 40 = .ok (.istore_n 1, 1) := by decide +kernel
theorem dX6_appendedSize_41 : decode cX6_appendedSize 41 = .ok (.aload_n 0, 1) := by decide +kernel
theorem dX6_appendedSize_42 : decode cX6_appendedSize 42 = .ok (.getfield 7, 3) := by decide +kernel
theorem dX6_appendedSize_45 : decode cX6_appendedSize 45 = .ok (.istore 4, 2) := by decide +kernel
theorem dX6_appendedSize_47 : decode cX6_appendedSize 47 = .ok (.iload_n 2, 1) := by decide +kernel
theorem dX6_appendedSize_48 : decode cX6_appendedSize 48 = .ok (.iload 4, 2) := by decide +kernel
theorem dX6_appendedSize_50 : decode cX6_appendedSize 50 = .ok (.bipush 7, 2) := by decide +kernel
theorem dX6_appendedSize_52 : decode cX6_appendedSize 52 = .ok (.isub, 1) := by decide +kernel
theorem dX6_appendedSize_53 : decode cX6_appendedSize 53 = .ok (.if_icmp .ge 7, 3) := by decide +kernel
theorem dX6_appendedSize_56 : decode cX6_appendedSize 56 = .ok (.iload_n 2, 1) := by decide +kernel
theorem dX6_appendedSize_57 : decode cX6_appendedSize 57 = .ok (.goto 8, 3) := by decide +kernel
theorem dX6_appendedSize_60 : decode cX6_appendedSize 60 = .ok (.iload 4, 2) := by decide +kernel
theorem dX6_appendedSize_62 : decode cX6_appendedSize 62 = .ok (.bipush 7, 2) := by decide +kernel
theorem dX6_appendedSize_64 : decode cX6_appendedSize 64 = .ok (.isub, 1) := by decide +kernel
theorem dX6_appendedSize_65 : decode cX6_appendedSize 65 = .ok (.istore 5, 2) := by decide +kernel
theorem dX6_appendedSize_67 : decode cX6_appendedSize 67 = .ok (.iload_n 1, 1) := by decide +kernel
theorem dX6_appendedSize_68 : decode cX6_appendedSize 68 = .ok (.bipush 7, 2) := by decide +kernel
theorem dX6_appendedSize_70 : decode cX6_appendedSize 70 = .ok (.iadd, 1) := by decide +kernel
theorem dX6_appendedSize_71 : decode cX6_appendedSize 71 = .ok (.iload 5, 2) := by decide +kernel
theorem dX6_appendedSize_73 : decode cX6_appendedSize 73 = .ok (.iadd, 1) := by decide +kernel
theorem dX6_appendedSize_74 : decode cX6_appendedSize 74 = .ok (.istore_n 1, 1) := by decide +kernel
theorem dX6_appendedSize_75 : decode cX6_appendedSize 75 = .ok (.iload_n 2, 1) := by decide +kernel
theorem dX6_appendedSize_76 : decode cX6_appendedSize 76 = .ok (.iload 5, 2) := by decide +kernel
theorem dX6_appendedSize_78 : decode cX6_appendedSize 78 = .ok (.isub, 1) := by decide +kernel
theorem dX6_appendedSize_79 : decode cX6_appendedSize 79 = .ok (.istore_n 2, 1) := by decide +kernel
theorem dX6_appendedSize_80 : decode cX6_appendedSize 80 = .ok (.iload_n 2, 1) := by decide +kernel
theorem dX6_appendedSize_81 : decode cX6_appendedSize 81 = .ok (.ifCond .le 7, 3) := by decide +kernel
theorem dX6_appendedSize_84 : decode cX6_appendedSize 84 = .ok (.iconst 1, 1) := by decide +kernel
theorem dX6_appendedSize_85 : decode cX6_appendedSize 85 = .ok (.goto 4, 3) := by decide +kernel
theorem dX6_appendedSize_88 : decode cX6_appendedSize 88 = .ok (.iconst 0, 1) := by decide +kernel
theorem dX6_appendedSize_89 : decode cX6_appendedSize 89 = .ok (.istore_n 3, 1) := by decide +kernel
theorem dX6_appendedSize_90 : decode cX6_appendedSize 90 = .ok (.goto (-78), 3) := by decide +kernel
theorem dX6_appendedSize_93 : decode cX6_appendedSize 93 = .ok (.iload_n 1, 1) := by decide +kernel
theorem dX6_appendedSize_94 : decode cX6_appendedSize 94 = .ok (.ireturn, 1) := by decide +kernel
set_option maxRecDepth 20000 in
theorem ggX6_append_X6_appendedSize : GoodIn wsX6_append wsX6_appendedSize := goodIn_r _ [10, 3, 4, 2, 33, 34, 35, 36, 37, 38, 39, 40, 41, 42, 43, 44, 45, 46, 47, 48, 49, 50, 51, 52, 53, 54, 55] (by decide +kernel) (by decide +kernel)
set_option maxRecDepth 20000 in
theorem gX6_append_X6_appendedSize : GoodIn wsX6_append (wsV RX6 98 RX6 yX6_appendedSize wsX6_appendedSize) := goodIn_app (goodIn_of _ (by decide +kernel)) ggX6_append_X6_appendedSize
set_option maxRecDepth 20000 in
theorem ggX6_append_X6_put : GoodIn wsX6_append wsX6_put := goodIn_r _ [14, 15, 3, 33, 34, 35, 36, 37, 38, 39, 40, 41, 42, 43, 44, 45, 46, 47, 48, 49, 50, 51, 52, 53, 54, 55] (by decide +kernel) (by decide +kernel)
set_option maxRecDepth 20000 in
theorem gX6_append_X6_put : GoodIn wsX6_append (wsV RX6 95 RX6 yX6_put wsX6_put) := goodIn_app (goodIn_of _ (by decide +kernel)) ggX6_append_X6_put
set_option maxRecDepth 20000 in
theorem ggX6_append_X6_putFragment : GoodIn wsX6_append wsX6_putFragment := goodIn_r _ [19, 20, 21, 22, 23, 9, 24, 25, 26, 27, 28, 29, 30, 31, 32, 11, 12, 13, 14, 15, 3, 33, 34, 35, 36, 37, 38, 39, 40, 41, 42, 43, 44, 45, 46, 47, 48, 49, 50, 51, 52, 53, 54, 55] (by decide +kernel) (by decide +kernel)
set_option maxRecDepth 20000 in
theorem gX6_append_X6_putFragment : GoodIn wsX6_append (wsV RX6 105 RX6 yX6_putFragment wsX6_putFragment) := goodIn_app (goodIn_of _ (by decide +kernel)) ggX6_append_X6_putFragment
theorem dX6_append_0 : decode cX6_append 0 = .ok (.aload_n 0, 1) := by decide +kernel
theorem dX6_append_1 : decode cX6_append 1 = .ok (.iconst 0, 1) := by decide +kernel
theorem dX6_append_2 : decode cX6_append 2 = .ok (.putfield 38, 3) := by decide +kernel
theorem dX6_append_5 : decode cX6_append 5 = .ok (.aload_n 0, 1) := by decide +kernel
theorem dX6_append_6 : decode cX6_append 6 = .ok (.invokevirtual 98, 3) := by decide +kernel
theorem dX6_append_9 : decode cX6_append 9 = .ok (.sipush 4096, 3) := by decide +kernel
theorem dX6_append_12 : decode cX6_append 12 = .ok (.if_icmp .le 6, 3) := by decide +kernel
theorem dX6_append_15 : decode cX6_append 15 = .ok (.bipush (-2), 2) := by decide +kernel
theorem dX6_append_17 : decode cX6_append 17 = .ok (.ireturn, 1) := by decide +kernel
theorem dX6_append_18 : decode cX6_append 18 = .ok (.iconst 0, 1) := by decide +kernel
theorem dX6_append_19 : decode cX6_append 19 = .ok (.istore_n 1, 1) := by decide +kernel
theorem dX6_append_20 : decode cX6_append 20 = .ok (.iconst 1, 1) := by decide +kernel
theorem dX6_append_21 : decode cX6_append 21 = .ok (.istore_n 2, 1) := by decide +kernel
theorem dX6_append_22 : decode cX6_append 22 = .ok (.iload_n 2, 1) := by decide +kernel
theorem dX6_append_23 : decode cX6_append 23 = .ok (.ifCond .eq 156, 3) := by decide +kernel
theorem dX6_append_26 : decode cX6_append 26 = .ok (.aload_n 0, 1) := by decide +kernel
theorem dX6_append_27 : decode cX6_append 27 = .ok (.getfield 7, 3) := by decide +kernel
theorem dX6_append_30 : decode cX6_append 30 = .ok (.aload_n 0, 1) := by decide +kernel
end
section
theorem dX6_append_31 : decode cX6_append 31 = .ok (.getfield 71, 3) := by decide +kernel
theorem dX6_append_34 : decode cX6_append 34 = .ok (.aload_n 0, 1) := by decide +kernel
theorem dX6_append_35 : decode cX6_append 35 = .ok (.getfield 7, 3) := by decide +kernel
theorem dX6_append_38 : decode cX6_append 38 = .ok (.irem, 1) := by decide +kernel
theorem dX6_append_39 : decode cX6_append 39 = .ok (.isub, 1) := by decide +kernel
theorem dX6_append_40 : decode cX6_append 40 = .ok (.istore_n 3, 1) := by decide +kernel
theorem dX6_append_41 : decode cX6_append 41 = .ok (.iload_n 3, 1) := by decide +kernel
theorem dX6_append_42 : decode cX6_append 42 = .ok (.bipush 7, 2) := by decide +kernel
theorem dX6_append_44 : decode cX6_append 44 = .ok (.if_icmp .ge 28, 3) := by decide +kernel
theorem dX6_append_47 : decode cX6_append 47 = .ok (.iconst 0, 1) := by decide +kernel
theorem dX6_append_48 : decode cX6_append 48 = .ok (.istore 4, 2) := by decide +kernel
theorem dX6_append_50 : decode cX6_append 50 = .ok (.iload 4, 2) := by decide +kernel
theorem dX6_append_52 : decode cX6_append 52 = .ok (.iload_n 3, 1) := by decide +kernel
theorem dX6_append_53 : decode cX6_append 53 = .ok (.if_icmp .ge 14, 3) := by decide +kernel
theorem dX6_append_56 : decode cX6_append 56 = .ok (.aload_n 0, 1) := by decide +kernel
theorem dX6_append_57 : decode cX6_append 57 = .ok (.iconst 0, 1) := by decide +kernel
theorem dX6_append_58 : decode cX6_append 58 = .ok (.invokevirtual 95, 3) := by decide +kernel
theorem dX6_append_61 : decode cX6_append 61 = .ok (.iinc 4 1, 3) := by decide +kernel
theorem dX6_append_64 : decode cX6_append 64 = .ok (.goto (-14), 3) := by decide +kernel
theorem dX6_append_67 : decode cX6_append 67 = .ok (.aload_n 0, 1) := by decide +kernel
theorem dX6_append_68 : decode cX6_append 68 = .ok (.getfield 7, 3) := by decide +kernel
theorem dX6_append_71 : decode cX6_append 71 = .ok (.istore_n 3, 1) := by decide +kernel
theorem dX6_append_72 : decode cX6_append 72 = .ok (.aload_n 0, 1) := by decide +kernel
theorem dX6_append_73 : decode cX6_append 73 = .ok (.getfield 78, 3) := by decide +kernel
theorem dX6_append_76 : decode cX6_append 76 = .ok (.iload_n 1, 1) := by decide +kernel
theorem dX6_append_77 : decode cX6_append 77 = .ok (.isub, 1) := by decide +kernel
theorem dX6_append_78 : decode cX6_append 78 = .ok (.istore 4, 2) := by decide +kernel
theorem dX6_append_80 : decode cX6_append 80 = .ok (.iload 4, 2) := by decide +kernel
theorem dX6_append_82 : decode cX6_append 82 = .ok (.iload_n 3, 1) := by decide +kernel
theorem dX6_append_83 : decode cX6_append 83 = .ok (.bipush 7, 2) := by decide +kernel
theorem dX6_append_85 : decode cX6_append 85 = .ok (.isub, 1) := by decide +kernel
theorem dX6_append_86 : decode cX6_append 86 = .ok (.if_icmp .ge 8, 3) := by decide +kernel
theorem dX6_append_89 : decode cX6_append 89 = .ok (.iload 4, 2) := by decide +kernel
theorem dX6_append_91 : decode cX6_append 91 = .ok (.goto 7, 3) := by decide +kernel
theorem dX6_append_94 : decode cX6_append 94 = .ok (.iload_n 3, 1) := by decide +kernel
theorem dX6_append_95 : decode cX6_append 95 = .ok (.bipush 7, 2) := by decide +kernel
theorem dX6_append_97 : decode cX6_append 97 = .ok (.isub, 1) := by decide +kernel
theorem dX6_append_98 : decode cX6_append 98 = .ok (.istore 5, 2) := by decide +kernel
theorem dX6_append_100 : decode cX6_append 100 = .ok (.iload 5, 2) := by decide +kernel
theorem dX6_append_102 : decode cX6_append 102 = .ok (.iload 4, 2) := by decide +kernel
theorem dX6_append_104 : decode cX6_append 104 = .ok (.if_icmp .ne 7, 3) := by decide +kernel
theorem dX6_append_107 : decode cX6_append 107 = .ok (.iconst 1, 1) := by decide +kernel
theorem dX6_append_108 : decode cX6_append 108 = .ok (.goto 4, 3) := by decide +kernel
theorem dX6_append_111 : decode cX6_append 111 = .ok (.iconst 0, 1) := by decide +kernel
theorem dX6_append_112 : decode cX6_append 112 = .ok (.istore 6, 2) := by decide +kernel
theorem dX6_append_114 : decode cX6_append 114 = .ok (.aload_n 0, 1) := by decide +kernel
theorem dX6_append_115 : decode cX6_append 115 = .ok (.iload_n 1, 1) := by decide +kernel
theorem dX6_append_116 : decode cX6_append 116 = .ok (.ifCond .ne 23, 3) := by decide +kernel
theorem dX6_append_119 : decode cX6_append 119 = .ok (.aload_n 0, 1) := by decide +kernel
theorem dX6_append_120 : decode cX6_append 120 = .ok (.getfield 102, 3) := by decide +kernel
theorem dX6_append_123 : decode cX6_append 123 = .ok (.ifCond .ne 16, 3) := by decide +kernel
theorem dX6_append_126 : decode cX6_append 126 = .ok (.iload 6, 2) := by decide +kernel
theorem dX6_append_128 : decode cX6_append 128 = .ok (.ifCond .eq 7, 3) := by decide +kernel
theorem dX6_append_131 : decode cX6_append 131 = .ok (.iconst 1, 1) := by decide +kernel
theorem dX6_append_132 : decode cX6_append 132 = .ok (.goto 17, 3) := by decide +kernel
theorem dX6_append_135 : decode cX6_append 135 = .ok (.iconst 2, 1) := by decide +kernel
theorem dX6_append_136 : decode cX6_append 136 = .ok (.goto 13, 3) := by decide +kernel
theorem dX6_append_139 : decode cX6_append 139 = .ok (.iload 6, 2) := by decide +kernel
theorem dX6_append_141 : decode cX6_append 141 = .ok (.ifCond .eq 7, 3) := by decide +kernel
theorem dX6_append_144 : decode cX6_append 144 = .ok (.iconst 4, 1) := by decide +kernel
theorem dX6_append_145 : decode cX6_append 145 = .ok (.goto 4, 3) := by decide +kernel
theorem dX6_append_148 : decode cX6_append 148 = .ok (.iconst 3, 1) := by decide +kernel
theorem dX6_append_149 : decode cX6_append 149 = .ok (.iload_n 1, 1) := by decide +kernel
theorem dX6_append_150 : decode cX6_append 150 = .ok (.iload 5, 2) := by decide +kernel
theorem dX6_append_152 : decode cX6_append 152 = .ok (.invokevirtual 105, 3) := by decide +kernel
theorem dX6_append_155 : decode cX6_append 155 = .ok (.aload_n 0, 1) := by decide +kernel
theorem dX6_append_156 : decode cX6_append 156 = .ok (.iconst 1, 1) := by decide +kernel
theorem dX6_append_157 : decode cX6_append 157 = .ok (.putfield 102, 3) := by decide +kernel
theorem dX6_append_160 : decode cX6_append 160 = .ok (.iload_n 1, 1) := by decide +kernel
theorem dX6_append_161 : decode cX6_append 161 = .ok (.iload 5, 2) := by decide +kernel
theorem dX6_append_163 : decode cX6_append 163 = .ok (.iadd, 1) := by decide +kernel
theorem dX6_append_164 : decode cX6_append 164 = .ok (.istore_n 1, 1) := by decide +kernel
theorem dX6_append_165 : decode cX6_append 165 = .ok (.iload 6, 2) := by decide +kernel
theorem dX6_append_167 : decode cX6_append 167 = .ok (.ifCond .ne 7, 3) := by decide +kernel
theorem dX6_append_170 : decode cX6_append 170 = .ok (.iconst 1, 1) := by decide +kernel
theorem dX6_append_171 : decode cX6_append 171 = .ok (.goto 4, 3) := by decide +kernel
theorem dX6_append_174 : decode cX6_append 174 = .ok (.iconst 0, 1) := by decide +kernel
theorem dX6_append_175 : decode cX6_append 175 = .ok (.istore_n 2, 1) := by decide +kernel
theorem dX6_append_176 : decode cX6_append 176 = .ok (.goto (-154), 3) := by decide +kernel
theorem dX6_append_179 : decode cX6_append 179 = .ok (.aload_n 0, 1) := by decide +kernel
theorem dX6_append_180 : decode cX6_append 180 = .ok (.iconst 0, 1) := by decide +kernel
theorem dX6_append_181 : decode cX6_append 181 = .ok (.putfield 102, 3) := by decide +kernel
theorem dX6_append_184 : decode cX6_append 184 = .ok (.aload_n 0, 1) := by decide +kernel
theorem dX6_append_185 : decode cX6_append 185 = .ok (.getfield 71, 3) := by decide +kernel
theorem dX6_append_188 : decode cX6_append 188 = .ok (.ireturn, 1) := by decide +kernel
set_option maxRecDepth 20000 in
theorem ggX6_raw_X6_isIn : GoodIn wsX6_raw wsX6_isIn := goodIn_r _ [6] (by decide +kernel) (by decide +kernel)
set_option maxRecDepth 20000 in
theorem gX6_raw_X6_isIn : GoodIn wsX6_raw (va_wsS RX6 63 yX6_isIn wsX6_isIn) := goodIn_app (goodIn_of _ (by decide +kernel)) ggX6_raw_X6_isIn
set_option maxRecDepth 20000 in
theorem ggX6_raw_X6_refused : GoodIn wsX6_raw wsX6_refused := goodIn_r _ [10, 11, 34, 35, 36, 37, 38, 39, 40, 41, 42, 43, 44, 45, 46, 47, 48, 49, 50, 51, 52, 53, 54, 55, 56] (by decide +kernel) (by decide +kernel)
set_option maxRecDepth 20000 in
theorem gX6_raw_X6_refused : GoodIn wsX6_raw (wsV RX6 67 RX6 yX6_refused wsX6_refused) := goodIn_app (goodIn_of _ (by decide +kernel)) ggX6_raw_X6_refused
set_option maxRecDepth 20000 in
theorem ggX6_raw_X6_putFragment : GoodIn wsX6_raw wsX6_putFragment := goodIn_r _ [15, 16, 17, 18, 19, 5, 20, 21, 22, 23, 24, 25, 26, 27, 28, 29, 30, 31, 32, 33, 1, 34, 35, 36, 37, 38, 39, 40, 41, 42, 43, 44, 45, 46, 47, 48, 49, 50, 51, 52, 53, 54, 55, 56] (by decide +kernel) (by decide +kernel)
set_option maxRecDepth 20000 in
theorem gX6_raw_X6_putFragment : GoodIn wsX6_raw (wsV RX6 105 RX6 yX6_putFragment wsX6_putFragment) := goodIn_app (goodIn_of _ (by decide +kernel)) ggX6_raw_X6_putFragment
theorem dX6_raw_0 : decode cX6_raw 0 = .ok (.aload_n 0, 1) := by decide +kernel
theorem dX6_raw_1 : decode cX6_raw 1 = .ok (.iload_n 1, 1) := by decide +kernel
theorem dX6_raw_2 : decode cX6_raw 2 = .ok (.iconst 0, 1) := by decide +kernel
theorem dX6_raw_3 : decode cX6_raw 3 = .ok (.sipush 255, 3) := by decide +kernel
theorem dX6_raw_6 : decode cX6_raw 6 = .ok (.invokestatic 63, 3) := by decide +kernel
theorem dX6_raw_9 : decode cX6_raw 9 = .ok (.ifCond .eq 7, 3) := by decide +kernel
theorem dX6_raw_12 : decode cX6_raw 12 = .ok (.iconst 0, 1) := by decide +kernel
theorem dX6_raw_13 : decode cX6_raw 13 = .ok (.goto 4, 3) := by decide +kernel
theorem dX6_raw_16 : decode cX6_raw 16 = .ok (.iconst 1, 1) := by decide +kernel
theorem dX6_raw_17 : decode cX6_raw 17 = .ok (.invokevirtual 67, 3) := by decide +kernel
theorem dX6_raw_20 : decode cX6_raw 20 = .ok (.ifCond .eq 5, 3) := by decide +kernel
theorem dX6_raw_23 : decode cX6_raw 23 = .ok (.iconst 0, 1) := by decide +kernel
theorem dX6_raw_24 : decode cX6_raw 24 = .ok (.ireturn, 1) := by decide +kernel
theorem dX6_raw_25 : decode cX6_raw 25 = .ok (.aload_n 0, 1) := by decide +kernel
theorem dX6_raw_26 : decode cX6_raw 26 = .ok (.getfield 71, 3) := by decide +kernel
theorem dX6_raw_29 : decode cX6_raw 29 = .ok (.bipush 7, 2) := by decide +kernel
theorem dX6_raw_31 : decode cX6_raw 31 = .ok (.iadd, 1) := by decide +kernel
theorem dX6_raw_32 : decode cX6_raw 32 = .ok (.aload_n 0, 1) := by decide +kernel
theorem dX6_raw_33 : decode cX6_raw 33 = .ok (.getfield 78, 3) := by decide +kernel
theorem dX6_raw_36 : decode cX6_raw 36 = .ok (.iadd, 1) := by decide +kernel
theorem dX6_raw_37 : decode cX6_raw 37 = .ok (.sipush 4096, 3) := by decide +kernel
theorem dX6_raw_40 : decode cX6_raw 40 = .ok (.if_icmp .le 6, 3) := by decide +kernel
theorem dX6_raw_43 : decode cX6_raw 43 = .ok (.bipush (-2), 2) := by decide +kernel
theorem dX6_raw_45 : decode cX6_raw 45 = .ok (.ireturn, 1) := by decide +kernel
theorem dX6_raw_46 : decode cX6_raw 46 = .ok (.aload_n 0, 1) := by decide +kernel
theorem dX6_raw_47 : decode cX6_raw 47 = .ok (.iload_n 1, 1) := by decide +kernel
theorem dX6_raw_48 : decode cX6_raw 48 = .ok (.iconst 0, 1) := by decide +kernel
theorem dX6_raw_49 : decode cX6_raw 49 = .ok (.aload_n 0, 1) := by decide +kernel
theorem dX6_raw_50 : decode cX6_raw 50 = .ok (.getfield 78, 3) := by decide +kernel
theorem dX6_raw_53 : decode cX6_raw 53 = .ok (.invokevirtual 105, 3) := by decide +kernel
theorem dX6_raw_56 : decode cX6_raw 56 = .ok (.aload_n 0, 1) := by decide +kernel
theorem dX6_raw_57 : decode cX6_raw 57 = .ok (.getfield 71, 3) := by decide +kernel
theorem dX6_raw_60 : decode cX6_raw 60 = .ok (.ireturn, 1) := by decide +kernel
set_option maxRecDepth 20000 in
theorem ggX6_put__X6_isIn : GoodIn wsX6_put_ wsX6_isIn := goodIn_r _ [6] (by decide +kernel) (by decide +kernel)
set_option maxRecDepth 20000 in
theorem gX6_put__X6_isIn : GoodIn wsX6_put_ (va_wsS RX6 63 yX6_isIn wsX6_isIn) := goodIn_app (goodIn_of _ (by decide +kernel)) ggX6_put__X6_isIn
set_option maxRecDepth 20000 in
theorem ggX6_put__X6_refused : GoodIn wsX6_put_ wsX6_refused := goodIn_r _ [10, 11, 12, 13, 14, 15, 16, 17, 18, 19, 20, 21, 22, 23, 24, 25, 26, 27, 28, 29, 30, 31, 32, 33, 34] (by decide +kernel) (by decide +kernel)
set_option maxRecDepth 20000 in
theorem gX6_put__X6_refused : GoodIn wsX6_put_ (wsV RX6 67 RX6 yX6_refused wsX6_refused) := goodIn_app (goodIn_of _ (by decide +kernel)) ggX6_put__X6_refused
theorem dX6_put__0 : decode cX6_put_ 0 = .ok (.aload_n 0, 1) := by decide +kernel
theorem dX6_put__1 : decode cX6_put_ 1 = .ok (.iload_n 1, 1) := by decide +kernel
theorem dX6_put__2 : decode cX6_put_ 2 = .ok (.iconst 0, 1) := by decide +kernel
theorem dX6_put__3 : decode cX6_put_ 3 = .ok (.aload_n 0, 1) := by decide +kernel
theorem dX6_put__4 : decode cX6_put_ 4 = .ok (.getfield 71, 3) := by decide +kernel
theorem dX6_put__7 : decode cX6_put_ 7 = .ok (.iconst 1, 1) := by decide +kernel
theorem dX6_put__8 : decode cX6_put_ 8 = .ok (.isub, 1) := by decide +kernel
theorem dX6_put__9 : decode cX6_put_ 9 = .ok (.invokestatic 63, 3) := by decide +kernel
theorem dX6_put__12 : decode cX6_put_ 12 = .ok (.ifCond .ne 7, 3) := by decide +kernel
theorem dX6_put__15 : decode cX6_put_ 15 = .ok (.iconst 1, 1) := by decide +kernel
theorem dX6_put__16 : decode cX6_put_ 16 = .ok (.goto 19, 3) := by decide +kernel
theorem dX6_put__19 : decode cX6_put_ 19 = .ok (.iload_n 2, 1) := by decide +kernel
theorem dX6_put__20 : decode cX6_put_ 20 = .ok (.iconst 0, 1) := by decide +kernel
theorem dX6_put__21 : decode cX6_put_ 21 = .ok (.sipush 255, 3) := by decide +kernel
theorem dX6_put__24 : decode cX6_put_ 24 = .ok (.invokestatic 63, 3) := by decide +kernel
theorem dX6_put__27 : decode cX6_put_ 27 = .ok (.ifCond .ne 7, 3) := by decide +kernel
theorem dX6_put__30 : decode cX6_put_ 30 = .ok (.iconst 2, 1) := by decide +kernel
theorem dX6_put__31 : decode cX6_put_ 31 = .ok (.goto 4, 3) := by decide +kernel
theorem dX6_put__34 : decode cX6_put_ 34 = .ok (.iconst 0, 1) := by decide +kernel
theorem dX6_put__35 : decode cX6_put_ 35 = .ok (.invokevirtual 67, 3) := by decide +kernel
theorem dX6_put__38 : decode cX6_put_ 38 = .ok (.ifCond .eq 5, 3) := by decide +kernel
theorem dX6_put__41 : decode cX6_put_ 41 = .ok (.iconst 0, 1) := by decide +kernel
theorem dX6_put__42 : decode cX6_put_ 42 = .ok (.ireturn, 1) := by decide +kernel
theorem dX6_put__43 : decode cX6_put_ 43 = .ok (.aload_n 0, 1) := by decide +kernel
theorem dX6_put__44 : decode cX6_put_ 44 = .ok (.getfield 13, 3) := by decide +kernel
theorem dX6_put__47 : decode cX6_put_ 47 = .ok (.iload_n 1, 1) := by decide +kernel
theorem dX6_put__48 : decode cX6_put_ 48 = .ok (.iaload, 1) := by decide +kernel
theorem dX6_put__49 : decode cX6_put_ 49 = .ok (.istore_n 3, 1) := by decide +kernel
theorem dX6_put__50 : decode cX6_put_ 50 = .ok (.aload_n 0, 1) := by decide +kernel
theorem dX6_put__51 : decode cX6_put_ 51 = .ok (.getfield 13, 3) := by decide +kernel
theorem dX6_put__54 : decode cX6_put_ 54 = .ok (.iload_n 1, 1) := by decide +kernel
theorem dX6_put__55 : decode cX6_put_ 55 = .ok (.iload_n 2, 1) := by decide +kernel
theorem dX6_put__56 : decode cX6_put_ 56 = .ok (.iastore, 1) := by decide +kernel
theorem dX6_put__57 : decode cX6_put_ 57 = .ok (.iload_n 3, 1) := by decide +kernel
theorem dX6_put__58 : decode cX6_put_ 58 = .ok (.ireturn, 1) := by decide +kernel
set_option maxRecDepth 20000 in
theorem ggX6_cut_X6_isIn : GoodIn wsX6_cut wsX6_isIn := goodIn_r _ [5] (by decide +kernel) (by decide +kernel)
set_option maxRecDepth 20000 in
theorem gX6_cut_X6_isIn : GoodIn wsX6_cut (va_wsS RX6 63 yX6_isIn wsX6_isIn) := goodIn_app (goodIn_of _ (by decide +kernel)) ggX6_cut_X6_isIn
set_option maxRecDepth 20000 in
theorem ggX6_cut_X6_refused : GoodIn wsX6_cut wsX6_refused := goodIn_r _ [9, 10, 25, 26, 27, 28, 29, 30, 31, 32, 33, 34, 35, 36, 37, 38, 39, 40, 41, 42, 43, 44, 45, 46, 47] (by decide +kernel) (by decide +kernel)
set_option maxRecDepth 20000 in
theorem gX6_cut_X6_refused : GoodIn wsX6_cut (wsV RX6 67 RX6 yX6_refused wsX6_refused) := goodIn_app (goodIn_of _ (by decide +kernel)) ggX6_cut_X6_refused
set_option maxRecDepth 20000 in
theorem ggX6_cut_X6_beginAt : GoodIn wsX6_cut wsX6_beginAt := goodIn_r _ [14, 15, 16, 17, 18, 19, 20, 21, 22, 23, 24, 25, 26, 27, 28, 29, 30, 31, 32, 33, 34, 35, 36, 37, 38, 39, 40, 41, 42, 43, 44, 45, 46, 47] (by decide +kernel) (by decide +kernel)
set_option maxRecDepth 20000 in
theorem gX6_cut_X6_beginAt : GoodIn wsX6_cut (wsV RX6 74 RX6 yX6_beginAt wsX6_beginAt) := goodIn_app (goodIn_of _ (by decide +kernel)) ggX6_cut_X6_beginAt
theorem dX6_cut_0 : decode cX6_cut 0 = .ok (.aload_n 0, 1) := by decide +kernel
theorem dX6_cut_1 : decode cX6_cut 1 = .ok (.iload_n 1, 1) := by decide +kernel
theorem dX6_cut_2 : decode cX6_cut 2 = .ok (.iconst 0, 1) := by decide +kernel
theorem dX6_cut_3 : decode cX6_cut 3 = .ok (.aload_n 0, 1) := by decide +kernel
theorem dX6_cut_4 : decode cX6_cut 4 = .ok (.getfield 71, 3) := by decide +kernel
theorem dX6_cut_7 : decode cX6_cut 7 = .ok (.invokestatic 63, 3) := by decide +kernel
theorem dX6_cut_10 : decode cX6_cut 10 = .ok (.ifCond .eq 7, 3) := by decide +kernel
theorem dX6_cut_13 : decode cX6_cut 13 = .ok (.iconst 0, 1) := by decide +kernel
theorem dX6_cut_14 : decode cX6_cut 14 = .ok (.goto 4, 3) := by decide +kernel
theorem dX6_cut_17 : decode cX6_cut 17 = .ok (.iconst 1, 1) := by decide +kernel
theorem dX6_cut_18 : decode cX6_cut 18 = .ok (.invokevirtual 67, 3) := by decide +kernel
theorem dX6_cut_21 : decode cX6_cut 21 = .ok (.ifCond .eq 5, 3) := by decide +kernel
theorem dX6_cut_24 : decode cX6_cut 24 = .ok (.iconst 0, 1) := by decide +kernel
theorem dX6_cut_25 : decode cX6_cut 25 = .ok (.ireturn, 1) := by decide +kernel
theorem dX6_cut_26 : decode cX6_cut 26 = .ok (.aload_n 0, 1) := by decide +kernel
theorem dX6_cut_27 : decode cX6_cut 27 = .ok (.getfield 71, 3) := by decide +kernel
theorem dX6_cut_30 : decode cX6_cut 30 = .ok (.iload_n 1, 1) := by decide +kernel
theorem dX6_cut_31 : decode cX6_cut 31 = .ok (.isub, 1) := by decide +kernel
theorem dX6_cut_32 : decode cX6_cut 32 = .ok (.istore_n 2, 1) := by decide +kernel
theorem dX6_cut_33 : decode cX6_cut 33 = .ok (.aload_n 0, 1) := by decide +kernel
theorem dX6_cut_34 : decode cX6_cut 34 = .ok (.iload_n 1, 1) := by decide +kernel
theorem dX6_cut_35 : decode cX6_cut 35 = .ok (.putfield 71, 3) := by decide +kernel
theorem dX6_cut_38 : decode cX6_cut 38 = .ok (.aload_n 0, 1) := by decide +kernel
theorem dX6_cut_39 : decode cX6_cut 39 = .ok (.iconst 0, 1) := by decide +kernel
theorem dX6_cut_40 : decode cX6_cut 40 = .ok (.invokevirtual 74, 3) := by decide +kernel
theorem dX6_cut_43 : decode cX6_cut 43 = .ok (.iload_n 2, 1) := by decide +kernel
theorem dX6_cut_44 : decode cX6_cut 44 = .ok (.ireturn, 1) := by decide +kernel
set_option maxRecDepth 20000 in
theorem ggX6_begin_X6_isIn : GoodIn wsX6_begin wsX6_isIn := goodIn_r _ [5] (by decide +kernel) (by decide +kernel)
set_option maxRecDepth 20000 in
theorem gX6_begin_X6_isIn : GoodIn wsX6_begin (va_wsS RX6 63 yX6_isIn wsX6_isIn) := goodIn_app (goodIn_of _ (by decide +kernel)) ggX6_begin_X6_isIn
set_option maxRecDepth 20000 in
theorem ggX6_begin_X6_refused : GoodIn wsX6_begin wsX6_refused := goodIn_r _ [9, 10, 24, 25, 26, 27, 28, 29, 30, 31, 32, 33, 34, 35, 36, 37, 38, 39, 40, 41, 42, 43, 44, 45, 46] (by decide +kernel) (by decide +kernel)
set_option maxRecDepth 20000 in
theorem gX6_begin_X6_refused : GoodIn wsX6_begin (wsV RX6 67 RX6 yX6_refused wsX6_refused) := goodIn_app (goodIn_of _ (by decide +kernel)) ggX6_begin_X6_refused
set_option maxRecDepth 20000 in
theorem ggX6_begin_X6_beginAt : GoodIn wsX6_begin wsX6_beginAt := goodIn_r _ [14, 15, 16, 1, 17, 18, 19, 20, 21, 22, 23, 24, 25, 26, 27, 28, 29, 30, 31, 32, 33, 34, 35, 36, 37, 38, 39, 40, 41, 42, 43, 44, 45, 46] (by decide +kernel) (by decide +kernel)
set_option maxRecDepth 20000 in
theorem gX6_begin_X6_beginAt : GoodIn wsX6_begin (wsV RX6 74 RX6 yX6_beginAt wsX6_beginAt) := goodIn_app (goodIn_of _ (by decide +kernel)) ggX6_begin_X6_beginAt
theorem dX6_begin_0 : decode cX6_begin 0 = .ok (.aload_n 0, 1) := by decide +kernel
theorem dX6_begin_1 : decode cX6_begin 1 = .ok (.iload_n 1, 1) := by decide +kernel
theorem dX6_begin_2 : decode cX6_begin 2 = .ok (.iconst 0, 1) := by decide +kernel
theorem dX6_begin_3 : decode cX6_begin 3 = .ok (.sipush 4096, 3) := by decide +kernel
theorem dX6_begin_6 : decode cX6_begin 6 = .ok (.invokestatic 63, 3) := by decide +kernel
theorem dX6_begin_9 : decode cX6_begin 9 = .ok (.ifCond .eq 7, 3) := by decide +kernel
theorem dX6_begin_12 : decode cX6_begin 12 = .ok (.iconst 0, 1) := by decide +kernel
theorem dX6_begin_13 : decode cX6_begin 13 = .ok (.goto 4, 3) := by decide +kernel
theorem dX6_begin_16 : decode cX6_begin 16 = .ok (.iconst 1, 1) := by decide +kernel
theorem dX6_begin_17 : decode cX6_begin 17 = .ok (.invokevirtual 67, 3) := by decide +kernel
theorem dX6_begin_20 : decode cX6_begin 20 = .ok (.ifCond .eq 5, 3) := by decide +kernel
theorem dX6_begin_23 : decode cX6_begin 23 = .ok (.iconst 0, 1) := by decide +kernel
theorem dX6_begin_24 : decode cX6_begin 24 = .ok (.ireturn, 1) := by decide +kernel
theorem dX6_begin_25 : decode cX6_begin 25 = .ok (.aload_n 0, 1) := by decide +kernel
theorem dX6_begin_26 : decode cX6_begin 26 = .ok (.iload_n 1, 1) := by decide +kernel
theorem dX6_begin_27 : decode cX6_begin 27 = .ok (.invokevirtual 74, 3) := by decide +kernel
theorem dX6_begin_30 : decode cX6_begin 30 = .ok (.aload_n 0, 1) := by decide +kernel
theorem dX6_begin_31 : decode cX6_begin 31 = .ok (.getfield 44, 3) := by decide +kernel
theorem dX6_begin_34 : decode cX6_begin 34 = .ok (.ireturn, 1) := by decide +kernel
theorem dX6_tell_0 : decode cX6_tell 0 = .ok (.aload_n 0, 1) := by decide +kernel
theorem dX6_tell_1 : decode cX6_tell 1 = .ok (.getfield 57, 3) := by decide +kernel
theorem dX6_tell_4 : decode cX6_tell 4 = .ok (.bipush 100, 2) := by decide +kernel
theorem dX6_tell_6 : decode cX6_tell 6 = .ok (.if_icmp .ge 23, 3) := by decide +kernel
theorem dX6_tell_9 : decode cX6_tell 9 = .ok (.aload_n 0, 1) := by decide +kernel
theorem dX6_tell_10 : decode cX6_tell 10 = .ok (.getfield 32, 3) := by decide +kernel
theorem dX6_tell_13 : decode cX6_tell 13 = .ok (.aload_n 0, 1) := by decide +kernel
theorem dX6_tell_14 : decode cX6_tell 14 = .ok (.getfield 57, 3) := by decide +kernel
theorem dX6_tell_17 : decode cX6_tell 17 = .ok (.iload_n 1, 1) := by decide +kernel
theorem dX6_tell_18 : decode cX6_tell 18 = .ok (.iastore, 1) := by decide +kernel
theorem dX6_tell_19 : decode cX6_tell 19 = .ok (.aload_n 0, 1) := by decide +kernel
theorem dX6_tell_20 : decode cX6_tell 20 = .ok (.getfield 35, 3) := by decide +kernel
theorem dX6_tell_23 : decode cX6_tell 23 = .ok (.aload_n 0, 1) := by decide +kernel
theorem dX6_tell_24 : decode cX6_tell 24 = .ok (.getfield 57, 3) := by decide +kernel
theorem dX6_tell_27 : decode cX6_tell 27 = .ok (.iload_n 2, 1) := by decide +kernel
theorem dX6_tell_28 : decode cX6_tell 28 = .ok (.iastore, 1) := by decide +kernel
theorem dX6_tell_29 : decode cX6_tell 29 = .ok (.aload_n 0, 1) := by decide +kernel
theorem dX6_tell_30 : decode cX6_tell 30 = .ok (.dup, 1) := by decide +kernel
theorem dX6_tell_31 : decode cX6_tell 31 = .ok (.getfield 57, 3) := by decide +kernel
theorem dX6_tell_34 : decode cX6_tell 34 = .ok (.iconst 1, 1) := by decide +kernel
theorem dX6_tell_35 : decode cX6_tell 35 = .ok (.iadd, 1) := by decide +kernel
theorem dX6_tell_36 : decode cX6_tell 36 = .ok (.putfield 57, 3) := by decide +kernel
theorem dX6_tell_39 : decode cX6_tell 39 = .ok (.aload_n 0, 1) := by decide +kernel
theorem dX6_tell_40 : decode cX6_tell 40 = .ok (.aload_n 0, 1) := by decide +kernel
theorem dX6_tell_41 : decode cX6_tell 41 = .ok (.getfield 60, 3) := by decide +kernel
theorem dX6_tell_44 : decode cX6_tell 44 = .ok (.iload_n 2, 1) := by decide +kernel
theorem dX6_tell_45 : decode cX6_tell 45 = .ok (.iadd, 1) := by decide +kernel
theorem dX6_tell_46 : decode cX6_tell 46 = .ok (.putfield 60, 3) := by decide +kernel
theorem dX6_tell_49 : decode cX6_tell 49 = .ok (.return_, 1) := by decide +kernel
set_option maxRecDepth 20000 in
theorem ggX6_fragment_X6_tell : GoodIn wsX6_fragment wsX6_tell := goodIn_r _ [12, 13, 14, 15, 16, 25, 26, 27, 28, 29, 30, 31, 32, 33, 34, 35, 36, 37, 38, 39, 40, 41, 42, 43, 44, 45, 46, 47] (by decide +kernel) (by decide +kernel)
set_option maxRecDepth 20000 in
theorem gX6_fragment_X6_tell : GoodIn wsX6_fragment (wsV RX6 115 RX6 yX6_tell wsX6_tell) := goodIn_app (goodIn_of _ (by decide +kernel)) ggX6_fragment_X6_tell
set_option maxRecDepth 20000 in
theorem ggX6_fragment_X6_more : GoodIn wsX6_fragment wsX6_more := goodIn_r _ [19, 20] (by decide +kernel) (by decide +kernel)
set_option maxRecDepth 20000 in
theorem gX6_fragment_X6_more : GoodIn wsX6_fragment (va_wsS RX6 83 yX6_more wsX6_more) := goodIn_app (goodIn_of _ (by decide +kernel)) ggX6_fragment_X6_more
set_option maxRecDepth 20000 in
theorem ggX6_fragment_X6_masked : GoodIn wsX6_fragment wsX6_masked := goodIn_r _ [23, 24] (by decide +kernel) (by decide +kernel)
set_option maxRecDepth 20000 in
theorem gX6_fragment_X6_masked : GoodIn wsX6_fragment (va_wsS RX6 87 yX6_masked wsX6_masked) := goodIn_app (goodIn_of _ (by decide +kernel)) ggX6_fragment_X6_masked
theorem dX6_fragment_0 : decode cX6_fragment 0 = .ok (.aload_n 0, 1) := by decide +kernel
theorem dX6_fragment_1 : decode cX6_fragment 1 = .ok (.getfield 44, 3) := by decide +kernel
theorem dX6_fragment_4 : decode cX6_fragment 4 = .ok (.aload_n 0, 1) := by decide +kernel
theorem dX6_fragment_5 : decode cX6_fragment 5 = .ok (.getfield 7, 3) := by decide +kernel
theorem dX6_fragment_8 : decode cX6_fragment 8 = .ok (.idiv, 1) := by decide +kernel
theorem dX6_fragment_9 : decode cX6_fragment 9 = .ok (.iconst 1, 1) := by decide +kernel
theorem dX6_fragment_10 : decode cX6_fragment 10 = .ok (.iadd, 1) := by decide +kernel
theorem dX6_fragment_11 : decode cX6_fragment 11 = .ok (.aload_n 0, 1) := by decide +kernel
theorem dX6_fragment_12 : decode cX6_fragment 12 = .ok (.getfield 7, 3) := by decide +kernel
theorem dX6_fragment_15 : decode cX6_fragment 15 = .ok (.imul, 1) := by decide +kernel
theorem dX6_fragment_16 : decode cX6_fragment 16 = .ok (.aload_n 0, 1) := by decide +kernel
theorem dX6_fragment_17 : decode cX6_fragment 17 = .ok (.getfield 71, 3) := by decide +kernel
theorem dX6_fragment_20 : decode cX6_fragment 20 = .ok (.if_icmp .gt 7, 3) := by decide +kernel
theorem dX6_fragment_23 : decode cX6_fragment 23 = .ok (.iconst 1, 1) := by decide +kernel
theorem dX6_fragment_24 : decode cX6_fragment 24 = .ok (.goto 4, 3) := by decide +kernel
theorem dX6_fragment_27 : decode cX6_fragment 27 = .ok (.iconst 0, 1) := by decide +kernel
theorem dX6_fragment_28 : decode cX6_fragment 28 = .ok (.istore_n 1, 1) := by decide +kernel
theorem dX6_fragment_29 : decode cX6_fragment 29 = .ok (.iload_n 1, 1) := by decide +kernel
theorem dX6_fragment_30 : decode cX6_fragment 30 = .ok (.ifCond .eq 22, 3) := by decide +kernel
theorem dX6_fragment_33 : decode cX6_fragment 33 = .ok (.aload_n 0, 1) := by decide +kernel
theorem dX6_fragment_34 : decode cX6_fragment 34 = .ok (.getfield 44, 3) := by decide +kernel
theorem dX6_fragment_37 : decode cX6_fragment 37 = .ok (.aload_n 0, 1) := by decide +kernel
theorem dX6_fragment_38 : decode cX6_fragment 38 = .ok (.getfield 7, 3) := by decide +kernel
theorem dX6_fragment_41 : decode cX6_fragment 41 = .ok (.idiv, 1) := by decide +kernel
theorem dX6_fragment_42 : decode cX6_fragment 42 = .ok (.iconst 1, 1) := by decide +kernel
theorem dX6_fragment_43 : decode cX6_fragment 43 = .ok (.iadd, 1) := by decide +kernel
theorem dX6_fragment_44 : decode cX6_fragment 44 = .ok (.aload_n 0, 1) := by decide +kernel
theorem dX6_fragment_45 : decode cX6_fragment 45 = .ok (.getfield 7, 3) := by decide +kernel
theorem dX6_fragment_48 : decode cX6_fragment 48 = .ok (.imul, 1) := by decide +kernel
theorem dX6_fragment_49 : decode cX6_fragment 49 = .ok (.goto 7, 3) := by decide +kernel
theorem dX6_fragment_52 : decode cX6_fragment 52 = .ok (.aload_n 0, 1) := by decide +kernel
theorem dX6_fragment_53 : decode cX6_fragment 53 = .ok (.getfield 71, 3) := by decide +kernel
theorem dX6_fragment_56 : decode cX6_fragment 56 = .ok (.istore_n 2, 1) := by decide +kernel
theorem dX6_fragment_57 : decode cX6_fragment 57 = .ok (.iload_n 2, 1) := by decide +kernel
theorem dX6_fragment_58 : decode cX6_fragment 58 = .ok (.aload_n 0, 1) := by decide +kernel
theorem dX6_fragment_59 : decode cX6_fragment 59 = .ok (.getfield 44, 3) := by decide +kernel
theorem dX6_fragment_62 : decode cX6_fragment 62 = .ok (.isub, 1) := by decide +kernel
theorem dX6_fragment_63 : decode cX6_fragment 63 = .ok (.bipush 7, 2) := by decide +kernel
theorem dX6_fragment_65 : decode cX6_fragment 65 = .ok (.if_icmp .ge 60, 3) := by decide +kernel
theorem dX6_fragment_68 : decode cX6_fragment 68 = .ok (.iload_n 1, 1) := by decide +kernel
theorem dX6_fragment_69 : decode cX6_fragment 69 = .ok (.ifCond .ne 5, 3) := by decide +kernel
theorem dX6_fragment_72 : decode cX6_fragment 72 = .ok (.iconst (-1), 1) := by decide +kernel
theorem dX6_fragment_73 : decode cX6_fragment 73 = .ok (.ireturn, 1) := by decide +kernel
theorem dX6_fragment_74 : decode cX6_fragment 74 = .ok (.aload_n 0, 1) := by decide +kernel
theorem dX6_fragment_75 : decode cX6_fragment 75 = .ok (.iload_n 2, 1) := by decide +kernel
theorem dX6_fragment_76 : decode cX6_fragment 76 = .ok (.putfield 44, 3) := by decide +kernel
theorem dX6_fragment_79 : decode cX6_fragment 79 = .ok (.aload_n 0, 1) := by decide +kernel
theorem dX6_fragment_80 : decode cX6_fragment 80 = .ok (.getfield 44, 3) := by decide +kernel
theorem dX6_fragment_83 : decode cX6_fragment 83 = .ok (.aload_n 0, 1) := by decide +kernel
theorem dX6_fragment_84 : decode cX6_fragment 84 = .ok (.getfield 7, 3) := by decide +kernel
theorem dX6_fragment_87 : decode cX6_fragment 87 = .ok (.iadd, 1) := by decide +kernel
theorem dX6_fragment_88 : decode cX6_fragment 88 = .ok (.aload_n 0, 1) := by decide +kernel
theorem dX6_fragment_89 : decode cX6_fragment 89 = .ok (.getfield 71, 3) := by decide +kernel
theorem dX6_fragment_92 : decode cX6_fragment 92 = .ok (.if_icmp .gt 7, 3) := by decide +kernel
theorem dX6_fragment_95 : decode cX6_fragment 95 = .ok (.iconst 1, 1) := by decide +kernel
theorem dX6_fragment_96 : decode cX6_fragment 96 = .ok (.goto 4, 3) := by decide +kernel
theorem dX6_fragment_99 : decode cX6_fragment 99 = .ok (.iconst 0, 1) := by decide +kernel
theorem dX6_fragment_100 : decode cX6_fragment 100 = .ok (.istore_n 1, 1) := by decide +kernel
theorem dX6_fragment_101 : decode cX6_fragment 101 = .ok (.iload_n 1, 1) := by decide +kernel
theorem dX6_fragment_102 : decode cX6_fragment 102 = .ok (.ifCond .eq 15, 3) := by decide +kernel
theorem dX6_fragment_105 : decode cX6_fragment 105 = .ok (.aload_n 0, 1) := by decide +kernel
theorem dX6_fragment_106 : decode cX6_fragment 106 = .ok (.getfield 44, 3) := by decide +kernel
theorem dX6_fragment_109 : decode cX6_fragment 109 = .ok (.aload_n 0, 1) := by decide +kernel
theorem dX6_fragment_110 : decode cX6_fragment 110 = .ok (.getfield 7, 3) := by decide +kernel
theorem dX6_fragment_113 : decode cX6_fragment 113 = .ok (.iadd, 1) := by decide +kernel
theorem dX6_fragment_114 : decode cX6_fragment 114 = .ok (.goto 7, 3) := by decide +kernel
theorem dX6_fragment_117 : decode cX6_fragment 117 = .ok (.aload_n 0, 1) := by decide +kernel
theorem dX6_fragment_118 : decode cX6_fragment 118 = .ok (.getfield 71, 3) := by decide +kernel
theorem dX6_fragment_121 : decode cX6_fragment 121 = .ok (.istore_n 2, 1) := by decide +kernel
theorem dX6_fragment_122 : decode cX6_fragment 122 = .ok (.goto (-65), 3) := by decide +kernel
theorem dX6_fragment_125 : decode cX6_fragment 125 = .ok (.aload_n 0, 1) := by decide +kernel
theorem dX6_fragment_126 : decode cX6_fragment 126 = .ok (.aload_n 0, 1) := by decide +kernel
theorem dX6_fragment_127 : decode cX6_fragment 127 = .ok (.getfield 44, 3) := by decide +kernel
theorem dX6_fragment_130 : decode cX6_fragment 130 = .ok (.putfield 109, 3) := by decide +kernel
theorem dX6_fragment_133 : decode cX6_fragment 133 = .ok (.aload_n 0, 1) := by decide +kernel
theorem dX6_fragment_134 : decode cX6_fragment 134 = .ok (.aload_n 0, 1) := by decide +kernel
theorem dX6_fragment_135 : decode cX6_fragment 135 = .ok (.getfield 13, 3) := by decide +kernel
theorem dX6_fragment_138 : decode cX6_fragment 138 = .ok (.aload_n 0, 1) := by decide +kernel
theorem dX6_fragment_139 : decode cX6_fragment 139 = .ok (.getfield 44, 3) := by decide +kernel
theorem dX6_fragment_142 : decode cX6_fragment 142 = .ok (.iconst 4, 1) := by decide +kernel
theorem dX6_fragment_143 : decode cX6_fragment 143 = .ok (.iadd, 1) := by decide +kernel
theorem dX6_fragment_144 : decode cX6_fragment 144 = .ok (.iaload, 1) := by decide +kernel
theorem dX6_fragment_145 : decode cX6_fragment 145 = .ok (.aload_n 0, 1) := by decide +kernel
theorem dX6_fragment_146 : decode cX6_fragment 146 = .ok (.getfield 13, 3) := by decide +kernel
theorem dX6_fragment_149 : decode cX6_fragment 149 = .ok (.aload_n 0, 1) := by decide +kernel
theorem dX6_fragment_150 : decode cX6_fragment 150 = .ok (.getfield 44, 3) := by decide +kernel
theorem dX6_fragment_153 : decode cX6_fragment 153 = .ok (.iconst 5, 1) := by decide +kernel
theorem dX6_fragment_154 : decode cX6_fragment 154 = .ok (.iadd, 1) := by decide +kernel
theorem dX6_fragment_155 : decode cX6_fragment 155 = .ok (.iaload, 1) := by decide +kernel
theorem dX6_fragment_156 : decode cX6_fragment 156 = .ok (.bipush 8, 2) := by decide +kernel
theorem dX6_fragment_158 : decode cX6_fragment 158 = .ok (.ishl, 1) := by decide +kernel
theorem dX6_fragment_159 : decode cX6_fragment 159 = .ok (.ior, 1) := by decide +kernel
theorem dX6_fragment_160 : decode cX6_fragment 160 = .ok (.putfield 112, 3) := by decide +kernel
theorem dX6_fragment_163 : decode cX6_fragment 163 = .ok (.aload_n 0, 1) := by decide +kernel
theorem dX6_fragment_164 : decode cX6_fragment 164 = .ok (.getfield 13, 3) := by decide +kernel
theorem dX6_fragment_167 : decode cX6_fragment 167 = .ok (.aload_n 0, 1) := by decide +kernel
theorem dX6_fragment_168 : decode cX6_fragment 168 = .ok (.getfield 44, 3) := by decide +kernel
theorem dX6_fragment_171 : decode cX6_fragment 171 = .ok (.bipush 6, 2) := by decide +kernel
theorem dX6_fragment_173 : decode cX6_fragment 173 = .ok (.iadd, 1) := by decide +kernel
theorem dX6_fragment_174 : decode cX6_fragment 174 = .ok (.iaload, 1) := by decide +kernel
theorem dX6_fragment_175 : decode cX6_fragment 175 = .ok (.istore_n 3, 1) := by decide +kernel
theorem dX6_fragment_176 : decode cX6_fragment 176 = .ok (.iload_n 2, 1) := by decide +kernel
theorem dX6_fragment_177 : decode cX6_fragment 177 = .ok (.aload_n 0, 1) := by decide +kernel
theorem dX6_fragment_178 : decode cX6_fragment 178 = .ok (.getfield 44, 3) := by decide +kernel
theorem dX6_fragment_181 : decode cX6_fragment 181 = .ok (.isub, 1) := by decide +kernel
theorem dX6_fragment_182 : decode cX6_fragment 182 = .ok (.istore 4, 2) := by decide +kernel
theorem dX6_fragment_184 : decode cX6_fragment 184 = .ok (.bipush 7, 2) := by decide +kernel
theorem dX6_fragment_186 : decode cX6_fragment 186 = .ok (.aload_n 0, 1) := by decide +kernel
theorem dX6_fragment_187 : decode cX6_fragment 187 = .ok (.getfield 112, 3) := by decide +kernel
theorem dX6_fragment_190 : decode cX6_fragment 190 = .ok (.iadd, 1) := by decide +kernel
theorem dX6_fragment_191 : decode cX6_fragment 191 = .ok (.iload 4, 2) := by decide +kernel
theorem dX6_fragment_193 : decode cX6_fragment 193 = .ok (.if_icmp .le 24, 3) := by decide +kernel
theorem dX6_fragment_196 : decode cX6_fragment 196 = .ok (.iload_n 1, 1) := by decide +kernel
theorem dX6_fragment_197 : decode cX6_fragment 197 = .ok (.ifCond .ne 5, 3) := by decide +kernel
theorem dX6_fragment_200 : decode cX6_fragment 200 = .ok (.iconst (-1), 1) := by decide +kernel
theorem dX6_fragment_201 : decode cX6_fragment 201 = .ok (.ireturn, 1) := by decide +kernel
theorem dX6_fragment_202 : decode cX6_fragment 202 = .ok (.aload_n 0, 1) := by decide +kernel
theorem dX6_fragment_203 : decode cX6_fragment 203 = .ok (.iload_n 2, 1) := by decide +kernel
theorem dX6_fragment_204 : decode cX6_fragment 204 = .ok (.putfield 44, 3) := by decide +kernel
theorem dX6_fragment_207 : decode cX6_fragment 207 = .ok (.aload_n 0, 1) := by decide +kernel
theorem dX6_fragment_208 : decode cX6_fragment 208 = .ok (.iconst 1, 1) := by decide +kernel
theorem dX6_fragment_209 : decode cX6_fragment 209 = .ok (.iload 4, 2) := by decide +kernel
theorem dX6_fragment_211 : decode cX6_fragment 211 = .ok (.invokevirtual 115, 3) := by decide +kernel
theorem dX6_fragment_214 : decode cX6_fragment 214 = .ok (.bipush (-2), 2) := by decide +kernel
theorem dX6_fragment_216 : decode cX6_fragment 216 = .ok (.ireturn, 1) := by decide +kernel
theorem dX6_fragment_217 : decode cX6_fragment 217 = .ok (.iload_n 3, 1) := by decide +kernel
theorem dX6_fragment_218 : decode cX6_fragment 218 = .ok (.ifCond .ne 18, 3) := by decide +kernel
theorem dX6_fragment_221 : decode cX6_fragment 221 = .ok (.aload_n 0, 1) := by decide +kernel
theorem dX6_fragment_222 : decode cX6_fragment 222 = .ok (.getfield 112, 3) := by decide +kernel
theorem dX6_fragment_225 : decode cX6_fragment 225 = .ok (.ifCond .ne 11, 3) := by decide +kernel
theorem dX6_fragment_228 : decode cX6_fragment 228 = .ok (.aload_n 0, 1) := by decide +kernel
theorem dX6_fragment_229 : decode cX6_fragment 229 = .ok (.iload_n 2, 1) := by decide +kernel
theorem dX6_fragment_230 : decode cX6_fragment 230 = .ok (.putfield 44, 3) := by decide +kernel
theorem dX6_fragment_233 : decode cX6_fragment 233 = .ok (.bipush (-2), 2) := by decide +kernel
theorem dX6_fragment_235 : decode cX6_fragment 235 = .ok (.ireturn, 1) := by decide +kernel
theorem dX6_fragment_236 : decode cX6_fragment 236 = .ok (.iconst (-1), 1) := by decide +kernel
theorem dX6_fragment_237 : decode cX6_fragment 237 = .ok (.istore 5, 2) := by decide +kernel
theorem dX6_fragment_239 : decode cX6_fragment 239 = .ok (.iconst 0, 1) := by decide +kernel
theorem dX6_fragment_240 : decode cX6_fragment 240 = .ok (.istore 6, 2) := by decide +kernel
theorem dX6_fragment_242 : decode cX6_fragment 242 = .ok (.iload 6, 2) := by decide +kernel
theorem dX6_fragment_244 : decode cX6_fragment 244 = .ok (.aload_n 0, 1) := by decide +kernel
theorem dX6_fragment_245 : decode cX6_fragment 245 = .ok (.getfield 112, 3) := by decide +kernel
theorem dX6_fragment_248 : decode cX6_fragment 248 = .ok (.if_icmp .gt 31, 3) := by decide +kernel
theorem dX6_fragment_251 : decode cX6_fragment 251 = .ok (.iload 5, 2) := by decide +kernel
theorem dX6_fragment_253 : decode cX6_fragment 253 = .ok (.aload_n 0, 1) := by decide +kernel
theorem dX6_fragment_254 : decode cX6_fragment 254 = .ok (.getfield 13, 3) := by decide +kernel
theorem dX6_fragment_257 : decode cX6_fragment 257 = .ok (.aload_n 0, 1) := by decide +kernel
theorem dX6_fragment_258 : decode cX6_fragment 258 = .ok (.getfield 44, 3) := by decide +kernel
theorem dX6_fragment_261 : decode cX6_fragment 261 = .ok (.bipush 6, 2) := by decide +kernel
theorem dX6_fragment_263 : decode cX6_fragment 263 = .ok (.iadd, 1) := by decide +kernel
theorem dX6_fragment_264 : decode cX6_fragment 264 = .ok (.iload 6, 2) := by decide +kernel
theorem dX6_fragment_266 : decode cX6_fragment 266 = .ok (.iadd, 1) := by decide +kernel
theorem dX6_fragment_267 : decode cX6_fragment 267 = .ok (.iaload, 1) := by decide +kernel
theorem dX6_fragment_268 : decode cX6_fragment 268 = .ok (.invokestatic 83, 3) := by decide +kernel
theorem dX6_fragment_271 : decode cX6_fragment 271 = .ok (.istore 5, 2) := by decide +kernel
theorem dX6_fragment_273 : decode cX6_fragment 273 = .ok (.iinc 6 1, 3) := by decide +kernel
theorem dX6_fragment_276 : decode cX6_fragment 276 = .ok (.goto (-34), 3) := by decide +kernel
theorem dX6_fragment_279 : decode cX6_fragment 279 = .ok (.iload 5, 2) := by decide +kernel
theorem dX6_fragment_281 : decode cX6_fragment 281 = .ok (.invokestatic 87, 3) := by decide +kernel
theorem dX6_fragment_284 : decode cX6_fragment 284 = .ok (.istore 5, 2) := by decide +kernel
theorem dX6_fragment_286 : decode cX6_fragment 286 = .ok (.iload 5, 2) := by decide +kernel
theorem dX6_fragment_288 : decode cX6_fragment 288 = .ok (.aload_n 0, 1) := by decide +kernel
theorem dX6_fragment_289 : decode cX6_fragment 289 = .ok (.getfield 13, 3) := by decide +kernel
theorem dX6_fragment_292 : decode cX6_fragment 292 = .ok (.aload_n 0, 1) := by decide +kernel
theorem dX6_fragment_293 : decode cX6_fragment 293 = .ok (.getfield 44, 3) := by decide +kernel
theorem dX6_fragment_296 : decode cX6_fragment 296 = .ok (.iaload, 1) := by decide +kernel
theorem dX6_fragment_297 : decode cX6_fragment 297 = .ok (.aload_n 0, 1) := by decide +kernel
theorem dX6_fragment_298 : decode cX6_fragment 298 = .ok (.getfield 13, 3) := by decide +kernel
theorem dX6_fragment_301 : decode cX6_fragment 301 = .ok (.aload_n 0, 1) := by decide +kernel
theorem dX6_fragment_302 : decode cX6_fragment 302 = .ok (.getfield 44, 3) := by decide +kernel
theorem dX6_fragment_305 : decode cX6_fragment 305 = .ok (.iconst 1, 1) := by decide +kernel
theorem dX6_fragment_306 : decode cX6_fragment 306 = .ok (.iadd, 1) := by decide +kernel
theorem dX6_fragment_307 : decode cX6_fragment 307 = .ok (.iaload, 1) := by decide +kernel
theorem dX6_fragment_308 : decode cX6_fragment 308 = .ok (.bipush 8, 2) := by decide +kernel
theorem dX6_fragment_310 : decode cX6_fragment 310 = .ok (.ishl, 1) := by decide +kernel
theorem dX6_fragment_311 : decode cX6_fragment 311 = .ok (.ior, 1) := by decide +kernel
theorem dX6_fragment_312 : decode cX6_fragment 312 = .ok (.aload_n 0, 1) := by decide +kernel
theorem dX6_fragment_313 : decode cX6_fragment 313 = .ok (.getfield 13, 3) := by decide +kernel
theorem dX6_fragment_316 : decode cX6_fragment 316 = .ok (.aload_n 0, 1) := by decide +kernel
theorem dX6_fragment_317 : decode cX6_fragment 317 = .ok (.getfield 44, 3) := by decide +kernel
theorem dX6_fragment_320 : decode cX6_fragment 320 = .ok (.iconst 2, 1) := by decide +kernel
theorem dX6_fragment_321 : decode cX6_fragment 321 = .ok (.iadd, 1) := by decide +kernel
theorem dX6_fragment_322 : decode cX6_fragment 322 = .ok (.iaload, 1) := by decide +kernel
theorem dX6_fragment_323 : decode cX6_fragment 323 = .ok (.bipush 16, 2) := by decide +kernel
theorem dX6_fragment_325 : decode cX6_fragment 325 = .ok (.ishl, 1) := by decide +kernel
theorem dX6_fragment_326 : decode cX6_fragment 326 = .ok (.ior, 1) := by decide +kernel
theorem dX6_fragment_327 : decode cX6_fragment 327 = .ok (.aload_n 0, 1) := by decide +kernel
theorem dX6_fragment_328 : decode cX6_fragment 328 = .ok (.getfield 13, 3) := by decide +kernel
theorem dX6_fragment_331 : decode cX6_fragment 331 = .ok (.aload_n 0, 1) := by decide +kernel
theorem dX6_fragment_332 : decode cX6_fragment 332 = .ok (.getfield 44, 3) := by decide +kernel
theorem dX6_fragment_335 : decode cX6_fragment 335 = .ok (.iconst 3, 1) := by decide +kernel
theorem dX6_fragment_336 : decode cX6_fragment 336 = .ok (.iadd, 1) := by decide +kernel
theorem dX6_fragment_337 : decode cX6_fragment 337 = .ok (.iaload, 1) := by decide +kernel
theorem dX6_fragment_338 : decode cX6_fragment 338 = .ok (.bipush 24, 2) := by decide +kernel
theorem dX6_fragment_340 : decode cX6_fragment 340 = .ok (.ishl, 1) := by decide +kernel
theorem dX6_fragment_341 : decode cX6_fragment 341 = .ok (.ior, 1) := by decide +kernel
theorem dX6_fragment_342 : decode cX6_fragment 342 = .ok (.if_icmp .eq 18, 3) := by decide +kernel
theorem dX6_fragment_345 : decode cX6_fragment 345 = .ok (.aload_n 0, 1) := by decide +kernel
theorem dX6_fragment_346 : decode cX6_fragment 346 = .ok (.iload_n 2, 1) := by decide +kernel
theorem dX6_fragment_347 : decode cX6_fragment 347 = .ok (.putfield 44, 3) := by decide +kernel
theorem dX6_fragment_350 : decode cX6_fragment 350 = .ok (.aload_n 0, 1) := by decide +kernel
theorem dX6_fragment_351 : decode cX6_fragment 351 = .ok (.iconst 2, 1) := by decide +kernel
theorem dX6_fragment_352 : decode cX6_fragment 352 = .ok (.iload 4, 2) := by decide +kernel
theorem dX6_fragment_354 : decode cX6_fragment 354 = .ok (.invokevirtual 115, 3) := by decide +kernel
theorem dX6_fragment_357 : decode cX6_fragment 357 = .ok (.bipush (-2), 2) := by decide +kernel
theorem dX6_fragment_359 : decode cX6_fragment 359 = .ok (.ireturn, 1) := by decide +kernel
theorem dX6_fragment_360 : decode cX6_fragment 360 = .ok (.aload_n 0, 1) := by decide +kernel
theorem dX6_fragment_361 : decode cX6_fragment 361 = .ok (.aload_n 0, 1) := by decide +kernel
theorem dX6_fragment_362 : decode cX6_fragment 362 = .ok (.getfield 44, 3) := by decide +kernel
theorem dX6_fragment_365 : decode cX6_fragment 365 = .ok (.bipush 7, 2) := by decide +kernel
theorem dX6_fragment_367 : decode cX6_fragment 367 = .ok (.iadd, 1) := by decide +kernel
theorem dX6_fragment_368 : decode cX6_fragment 368 = .ok (.aload_n 0, 1) := by decide +kernel
theorem dX6_fragment_369 : decode cX6_fragment 369 = .ok (.getfield 112, 3) := by decide +kernel
theorem dX6_fragment_372 : decode cX6_fragment 372 = .ok (.iadd, 1) := by decide +kernel
theorem dX6_fragment_373 : decode cX6_fragment 373 = .ok (.putfield 44, 3) := by decide +kernel
theorem dX6_fragment_376 : decode cX6_fragment 376 = .ok (.aload_n 0, 1) := by decide +kernel
end
section
theorem dX6_fragment_377 : decode cX6_fragment 377 = .ok (.getfield 109, 3) := by decide +kernel
theorem dX6_fragment_380 : decode cX6_fragment 380 = .ok (.aload_n 0, 1) := by decide +kernel
theorem dX6_fragment_381 : decode cX6_fragment 381 = .ok (.getfield 41, 3) := by decide +kernel
theorem dX6_fragment_384 : decode cX6_fragment 384 = .ok (.if_icmp .ge 8, 3) := by decide +kernel
theorem dX6_fragment_387 : decode cX6_fragment 387 = .ok (.bipush (-2), 2) := by decide +kernel
theorem dX6_fragment_389 : decode cX6_fragment 389 = .ok (.goto 4, 3) := by decide +kernel
theorem dX6_fragment_392 : decode cX6_fragment 392 = .ok (.iload_n 3, 1) := by decide +kernel
theorem dX6_fragment_393 : decode cX6_fragment 393 = .ok (.ireturn, 1) := by decide +kernel
theorem dX6_take_0 : decode cX6_take 0 = .ok (.iconst 0, 1) := by decide +kernel
theorem dX6_take_1 : decode cX6_take 1 = .ok (.istore_n 1, 1) := by decide +kernel
theorem dX6_take_2 : decode cX6_take 2 = .ok (.iload_n 1, 1) := by decide +kernel
theorem dX6_take_3 : decode cX6_take 3 = .ok (.aload_n 0, 1) := by decide +kernel
theorem dX6_take_4 : decode cX6_take 4 = .ok (.getfield 112, 3) := by decide +kernel
theorem dX6_take_7 : decode cX6_take 7 = .ok (.if_icmp .ge 42, 3) := by decide +kernel
theorem dX6_take_10 : decode cX6_take 10 = .ok (.aload_n 0, 1) := by decide +kernel
theorem dX6_take_11 : decode cX6_take 11 = .ok (.getfield 20, 3) := by decide +kernel
theorem dX6_take_14 : decode cX6_take 14 = .ok (.aload_n 0, 1) := by decide +kernel
theorem dX6_take_15 : decode cX6_take 15 = .ok (.getfield 54, 3) := by decide +kernel
theorem dX6_take_18 : decode cX6_take 18 = .ok (.aload_n 0, 1) := by decide +kernel
theorem dX6_take_19 : decode cX6_take 19 = .ok (.getfield 13, 3) := by decide +kernel
theorem dX6_take_22 : decode cX6_take 22 = .ok (.aload_n 0, 1) := by decide +kernel
theorem dX6_take_23 : decode cX6_take 23 = .ok (.getfield 109, 3) := by decide +kernel
theorem dX6_take_26 : decode cX6_take 26 = .ok (.bipush 7, 2) := by decide +kernel
theorem dX6_take_28 : decode cX6_take 28 = .ok (.iadd, 1) := by decide +kernel
theorem dX6_take_29 : decode cX6_take 29 = .ok (.iload_n 1, 1) := by decide +kernel
theorem dX6_take_30 : decode cX6_take 30 = .ok (.iadd, 1) := by decide +kernel
theorem dX6_take_31 : decode cX6_take 31 = .ok (.iaload, 1) := by decide +kernel
theorem dX6_take_32 : decode cX6_take 32 = .ok (.iastore, 1) := by decide +kernel
theorem dX6_take_33 : decode cX6_take 33 = .ok (.aload_n 0, 1) := by decide +kernel
theorem dX6_take_34 : decode cX6_take 34 = .ok (.dup, 1) := by decide +kernel
theorem dX6_take_35 : decode cX6_take 35 = .ok (.getfield 54, 3) := by decide +kernel
theorem dX6_take_38 : decode cX6_take 38 = .ok (.iconst 1, 1) := by decide +kernel
theorem dX6_take_39 : decode cX6_take 39 = .ok (.iadd, 1) := by decide +kernel
theorem dX6_take_40 : decode cX6_take 40 = .ok (.putfield 54, 3) := by decide +kernel
theorem dX6_take_43 : decode cX6_take 43 = .ok (.iinc 1 1, 3) := by decide +kernel
theorem dX6_take_46 : decode cX6_take 46 = .ok (.goto (-44), 3) := by decide +kernel
theorem dX6_take_49 : decode cX6_take 49 = .ok (.return_, 1) := by decide +kernel
theorem dX6_drop_0 : decode cX6_drop 0 = .ok (.aload_n 0, 1) := by decide +kernel
theorem dX6_drop_1 : decode cX6_drop 1 = .ok (.iconst 0, 1) := by decide +kernel
theorem dX6_drop_2 : decode cX6_drop 2 = .ok (.putfield 51, 3) := by decide +kernel
theorem dX6_drop_5 : decode cX6_drop 5 = .ok (.aload_n 0, 1) := by decide +kernel
theorem dX6_drop_6 : decode cX6_drop 6 = .ok (.iconst 0, 1) := by decide +kernel
theorem dX6_drop_7 : decode cX6_drop 7 = .ok (.putfield 54, 3) := by decide +kernel
theorem dX6_drop_10 : decode cX6_drop 10 = .ok (.return_, 1) := by decide +kernel
set_option maxRecDepth 20000 in
theorem ggX6_start_X6_tell : GoodIn wsX6_start wsX6_tell := goodIn_r _ [9, 10, 11, 12, 13, 25, 26, 27, 28, 29, 30, 31, 32, 33, 34, 35, 36, 37, 38, 39, 40, 41, 42, 43, 44, 45, 46, 47] (by decide +kernel) (by decide +kernel)
set_option maxRecDepth 20000 in
theorem gX6_start_X6_tell : GoodIn wsX6_start (wsV RX6 115 RX6 yX6_tell wsX6_tell) := goodIn_app (goodIn_of _ (by decide +kernel)) ggX6_start_X6_tell
set_option maxRecDepth 20000 in
theorem ggX6_start_X6_drop : GoodIn wsX6_start wsX6_drop := goodIn_r _ [17, 1, 2, 25, 26, 27, 28, 29, 30, 31, 32, 33, 34, 35, 36, 37, 38, 39, 40, 41, 42, 43, 44, 45, 46, 47] (by decide +kernel) (by decide +kernel)
set_option maxRecDepth 20000 in
theorem gX6_start_X6_drop : GoodIn wsX6_start (wsV RX6 119 RX6 yX6_drop wsX6_drop) := goodIn_app (goodIn_of _ (by decide +kernel)) ggX6_start_X6_drop
set_option maxRecDepth 20000 in
theorem ggX6_start_X6_take : GoodIn wsX6_start wsX6_take := goodIn_r _ [21, 22, 23, 2, 24, 3, 25, 26, 27, 28, 29, 30, 31, 32, 33, 34, 35, 36, 37, 38, 39, 40, 41, 42, 43, 44, 45, 46, 47] (by decide +kernel) (by decide +kernel)
set_option maxRecDepth 20000 in
theorem gX6_start_X6_take : GoodIn wsX6_start (wsV RX6 125 RX6 yX6_take wsX6_take) := goodIn_app (goodIn_of _ (by decide +kernel)) ggX6_start_X6_take
theorem dX6_start_0 : decode cX6_start 0 = .ok (.aload_n 0, 1) := by decide +kernel
theorem dX6_start_1 : decode cX6_start 1 = .ok (.getfield 51, 3) := by decide +kernel
theorem dX6_start_4 : decode cX6_start 4 = .ok (.ifCond .eq 19, 3) := by decide +kernel
theorem dX6_start_7 : decode cX6_start 7 = .ok (.aload_n 0, 1) := by decide +kernel
theorem dX6_start_8 : decode cX6_start 8 = .ok (.getfield 54, 3) := by decide +kernel
theorem dX6_start_11 : decode cX6_start 11 = .ok (.ifCond .le 12, 3) := by decide +kernel
theorem dX6_start_14 : decode cX6_start 14 = .ok (.aload_n 0, 1) := by decide +kernel
theorem dX6_start_15 : decode cX6_start 15 = .ok (.iconst 4, 1) := by decide +kernel
theorem dX6_start_16 : decode cX6_start 16 = .ok (.aload_n 0, 1) := by decide +kernel
theorem dX6_start_17 : decode cX6_start 17 = .ok (.getfield 54, 3) := by decide +kernel
theorem dX6_start_20 : decode cX6_start 20 = .ok (.invokevirtual 115, 3) := by decide +kernel
theorem dX6_start_23 : decode cX6_start 23 = .ok (.aload_n 0, 1) := by decide +kernel
theorem dX6_start_24 : decode cX6_start 24 = .ok (.invokevirtual 119, 3) := by decide +kernel
theorem dX6_start_27 : decode cX6_start 27 = .ok (.aload_n 0, 1) := by decide +kernel
theorem dX6_start_28 : decode cX6_start 28 = .ok (.iconst 1, 1) := by decide +kernel
theorem dX6_start_29 : decode cX6_start 29 = .ok (.putfield 51, 3) := by decide +kernel
theorem dX6_start_32 : decode cX6_start 32 = .ok (.aload_n 0, 1) := by decide +kernel
theorem dX6_start_33 : decode cX6_start 33 = .ok (.aload_n 0, 1) := by decide +kernel
theorem dX6_start_34 : decode cX6_start 34 = .ok (.getfield 109, 3) := by decide +kernel
theorem dX6_start_37 : decode cX6_start 37 = .ok (.putfield 122, 3) := by decide +kernel
theorem dX6_start_40 : decode cX6_start 40 = .ok (.aload_n 0, 1) := by decide +kernel
theorem dX6_start_41 : decode cX6_start 41 = .ok (.invokevirtual 125, 3) := by decide +kernel
theorem dX6_start_44 : decode cX6_start 44 = .ok (.return_, 1) := by decide +kernel
set_option maxRecDepth 20000 in
theorem ggX6_finish_X6_drop : GoodIn wsX6_finish wsX6_drop := goodIn_r _ [11, 12, 1, 13, 14, 15, 16, 17, 18, 19, 20, 21, 22, 23, 24, 25, 26, 27, 28, 29, 30, 31, 32, 33, 34, 35] (by decide +kernel) (by decide +kernel)
set_option maxRecDepth 20000 in
theorem gX6_finish_X6_drop : GoodIn wsX6_finish (wsV RX6 119 RX6 yX6_drop wsX6_drop) := goodIn_app (goodIn_of _ (by decide +kernel)) ggX6_finish_X6_drop
theorem dX6_finish_0 : decode cX6_finish 0 = .ok (.aload_n 0, 1) := by decide +kernel
theorem dX6_finish_1 : decode cX6_finish 1 = .ok (.aload_n 0, 1) := by decide +kernel
theorem dX6_finish_2 : decode cX6_finish 2 = .ok (.getfield 54, 3) := by decide +kernel
theorem dX6_finish_5 : decode cX6_finish 5 = .ok (.putfield 23, 3) := by decide +kernel
theorem dX6_finish_8 : decode cX6_finish 8 = .ok (.aload_n 0, 1) := by decide +kernel
theorem dX6_finish_9 : decode cX6_finish 9 = .ok (.aload_n 0, 1) := by decide +kernel
theorem dX6_finish_10 : decode cX6_finish 10 = .ok (.getfield 122, 3) := by decide +kernel
theorem dX6_finish_13 : decode cX6_finish 13 = .ok (.putfield 26, 3) := by decide +kernel
theorem dX6_finish_16 : decode cX6_finish 16 = .ok (.iconst 0, 1) := by decide +kernel
theorem dX6_finish_17 : decode cX6_finish 17 = .ok (.istore_n 1, 1) := by decide +kernel
theorem dX6_finish_18 : decode cX6_finish 18 = .ok (.iload_n 1, 1) := by decide +kernel
theorem dX6_finish_19 : decode cX6_finish 19 = .ok (.aload_n 0, 1) := by decide +kernel
theorem dX6_finish_20 : decode cX6_finish 20 = .ok (.getfield 54, 3) := by decide +kernel
theorem dX6_finish_23 : decode cX6_finish 23 = .ok (.if_icmp .ge 21, 3) := by decide +kernel
theorem dX6_finish_26 : decode cX6_finish 26 = .ok (.aload_n 0, 1) := by decide +kernel
theorem dX6_finish_27 : decode cX6_finish 27 = .ok (.getfield 29, 3) := by decide +kernel
theorem dX6_finish_30 : decode cX6_finish 30 = .ok (.iload_n 1, 1) := by decide +kernel
theorem dX6_finish_31 : decode cX6_finish 31 = .ok (.aload_n 0, 1) := by decide +kernel
theorem dX6_finish_32 : decode cX6_finish 32 = .ok (.getfield 20, 3) := by decide +kernel
theorem dX6_finish_35 : decode cX6_finish 35 = .ok (.iload_n 1, 1) := by decide +kernel
theorem dX6_finish_36 : decode cX6_finish 36 = .ok (.iaload, 1) := by decide +kernel
theorem dX6_finish_37 : decode cX6_finish 37 = .ok (.iastore, 1) := by decide +kernel
theorem dX6_finish_38 : decode cX6_finish 38 = .ok (.iinc 1 1, 3) := by decide +kernel
theorem dX6_finish_41 : decode cX6_finish 41 = .ok (.goto (-23), 3) := by decide +kernel
theorem dX6_finish_44 : decode cX6_finish 44 = .ok (.aload_n 0, 1) := by decide +kernel
theorem dX6_finish_45 : decode cX6_finish 45 = .ok (.invokevirtual 119, 3) := by decide +kernel
theorem dX6_finish_48 : decode cX6_finish 48 = .ok (.return_, 1) := by decide +kernel
set_option maxRecDepth 20000 in
theorem ggX6_passOn_X6_drop : GoodIn wsX6_passOn wsX6_drop := goodIn_r _ [9, 1, 2, 37, 38, 39, 40, 41, 42, 43, 44, 45, 46, 47, 48, 49, 50, 51, 52, 53, 54, 55, 56, 57, 58, 59] (by decide +kernel) (by decide +kernel)
set_option maxRecDepth 20000 in
theorem gX6_passOn_X6_drop : GoodIn wsX6_passOn (wsV RX6 119 RX6 yX6_drop wsX6_drop) := goodIn_app (goodIn_of _ (by decide +kernel)) ggX6_passOn_X6_drop
set_option maxRecDepth 20000 in
theorem ggX6_passOn_X6_tell : GoodIn wsX6_passOn wsX6_tell := goodIn_r _ [13, 14, 15, 16, 17, 37, 38, 39, 40, 41, 42, 43, 44, 45, 46, 47, 48, 49, 50, 51, 52, 53, 54, 55, 56, 57, 58, 59] (by decide +kernel) (by decide +kernel)
set_option maxRecDepth 20000 in
theorem gX6_passOn_X6_tell : GoodIn wsX6_passOn (wsV RX6 115 RX6 yX6_tell wsX6_tell) := goodIn_app (goodIn_of _ (by decide +kernel)) ggX6_passOn_X6_tell
set_option maxRecDepth 20000 in
theorem ggX6_passOn_X6_start : GoodIn wsX6_passOn wsX6_start := goodIn_r _ [21, 1, 2, 22, 23, 10, 11, 12, 8, 13, 14, 15, 16, 17, 5, 6, 7, 9, 24, 25, 26, 27, 4, 28, 29, 37, 38, 39, 40, 41, 42, 43, 44, 45, 46, 47, 48, 49, 50, 51, 52, 53, 54, 55, 56, 57, 58, 59] (by decide +kernel) (by decide +kernel)
set_option maxRecDepth 20000 in
theorem gX6_passOn_X6_start : GoodIn wsX6_passOn (wsV RX6 128 RX6 yX6_start wsX6_start) := goodIn_app (goodIn_of _ (by decide +kernel)) ggX6_passOn_X6_start
set_option maxRecDepth 20000 in
theorem ggX6_passOn_X6_finish : GoodIn wsX6_passOn wsX6_finish := goodIn_r _ [33, 2, 34, 23, 35, 36, 28, 5, 6, 7, 8, 9, 1, 37, 38, 39, 40, 41, 42, 43, 44, 45, 46, 47, 48, 49, 50, 51, 52, 53, 54, 55, 56, 57, 58, 59] (by decide +kernel) (by decide +kernel)
set_option maxRecDepth 20000 in
theorem gX6_passOn_X6_finish : GoodIn wsX6_passOn (wsV RX6 131 RX6 yX6_finish wsX6_finish) := goodIn_app (goodIn_of _ (by decide +kernel)) ggX6_passOn_X6_finish
set_option maxRecDepth 20000 in
theorem ggX6_passOn_X6_take : GoodIn wsX6_passOn wsX6_take := goodIn_r _ [27, 4, 28, 2, 29, 22, 37, 38, 39, 40, 41, 42, 43, 44, 45, 46, 47, 48, 49, 50, 51, 52, 53, 54, 55, 56, 57, 58, 59] (by decide +kernel) (by decide +kernel)
set_option maxRecDepth 20000 in
theorem gX6_passOn_X6_take : GoodIn wsX6_passOn (wsV RX6 125 RX6 yX6_take wsX6_take) := goodIn_app (goodIn_of _ (by decide +kernel)) ggX6_passOn_X6_take
theorem dX6_passOn_0 : decode cX6_passOn 0 = .ok (.iload_n 1, 1) := by decide +kernel
theorem dX6_passOn_1 : decode cX6_passOn 1 = .ok (.iconst (-1), 1) := by decide +kernel
theorem dX6_passOn_2 : decode cX6_passOn 2 = .ok (.if_icmp .ne 9, 3) := by decide +kernel
theorem dX6_passOn_5 : decode cX6_passOn 5 = .ok (.aload_n 0, 1) := by decide +kernel
theorem dX6_passOn_6 : decode cX6_passOn 6 = .ok (.invokevirtual 119, 3) := by decide +kernel
theorem dX6_passOn_9 : decode cX6_passOn 9 = .ok (.iconst 1, 1) := by decide +kernel
theorem dX6_passOn_10 : decode cX6_passOn 10 = .ok (.ireturn, 1) := by decide +kernel
theorem dX6_passOn_11 : decode cX6_passOn 11 = .ok (.iload_n 1, 1) := by decide +kernel
theorem dX6_passOn_12 : decode cX6_passOn 12 = .ok (.bipush (-2), 2) := by decide +kernel
theorem dX6_passOn_14 : decode cX6_passOn 14 = .ok (.if_icmp .ne 25, 3) := by decide +kernel
theorem dX6_passOn_17 : decode cX6_passOn 17 = .ok (.aload_n 0, 1) := by decide +kernel
theorem dX6_passOn_18 : decode cX6_passOn 18 = .ok (.getfield 51, 3) := by decide +kernel
theorem dX6_passOn_21 : decode cX6_passOn 21 = .ok (.ifCond .eq 12, 3) := by decide +kernel
theorem dX6_passOn_24 : decode cX6_passOn 24 = .ok (.aload_n 0, 1) := by decide +kernel
theorem dX6_passOn_25 : decode cX6_passOn 25 = .ok (.iconst 3, 1) := by decide +kernel
theorem dX6_passOn_26 : decode cX6_passOn 26 = .ok (.aload_n 0, 1) := by decide +kernel
theorem dX6_passOn_27 : decode cX6_passOn 27 = .ok (.getfield 54, 3) := by decide +kernel
theorem dX6_passOn_30 : decode cX6_passOn 30 = .ok (.invokevirtual 115, 3) := by decide +kernel
theorem dX6_passOn_33 : decode cX6_passOn 33 = .ok (.aload_n 0, 1) := by decide +kernel
theorem dX6_passOn_34 : decode cX6_passOn 34 = .ok (.invokevirtual 119, 3) := by decide +kernel
theorem dX6_passOn_37 : decode cX6_passOn 37 = .ok (.iconst 0, 1) := by decide +kernel
theorem dX6_passOn_38 : decode cX6_passOn 38 = .ok (.ireturn, 1) := by decide +kernel
theorem dX6_passOn_39 : decode cX6_passOn 39 = .ok (.aload_n 0, 1) := by decide +kernel
theorem dX6_passOn_40 : decode cX6_passOn 40 = .ok (.getfield 47, 3) := by decide +kernel
theorem dX6_passOn_43 : decode cX6_passOn 43 = .ok (.ifCond .eq 29, 3) := by decide +kernel
theorem dX6_passOn_46 : decode cX6_passOn 46 = .ok (.aload_n 0, 1) := by decide +kernel
theorem dX6_passOn_47 : decode cX6_passOn 47 = .ok (.iload_n 1, 1) := by decide +kernel
theorem dX6_passOn_48 : decode cX6_passOn 48 = .ok (.iconst 3, 1) := by decide +kernel
theorem dX6_passOn_49 : decode cX6_passOn 49 = .ok (.if_icmp .ne 7, 3) := by decide +kernel
theorem dX6_passOn_52 : decode cX6_passOn 52 = .ok (.iconst 1, 1) := by decide +kernel
theorem dX6_passOn_53 : decode cX6_passOn 53 = .ok (.goto 4, 3) := by decide +kernel
theorem dX6_passOn_56 : decode cX6_passOn 56 = .ok (.iconst 0, 1) := by decide +kernel
theorem dX6_passOn_57 : decode cX6_passOn 57 = .ok (.putfield 47, 3) := by decide +kernel
theorem dX6_passOn_60 : decode cX6_passOn 60 = .ok (.iload_n 1, 1) := by decide +kernel
theorem dX6_passOn_61 : decode cX6_passOn 61 = .ok (.iconst 3, 1) := by decide +kernel
theorem dX6_passOn_62 : decode cX6_passOn 62 = .ok (.if_icmp .eq 8, 3) := by decide +kernel
theorem dX6_passOn_65 : decode cX6_passOn 65 = .ok (.iload_n 1, 1) := by decide +kernel
theorem dX6_passOn_66 : decode cX6_passOn 66 = .ok (.iconst 4, 1) := by decide +kernel
theorem dX6_passOn_67 : decode cX6_passOn 67 = .ok (.if_icmp .ne 5, 3) := by decide +kernel
theorem dX6_passOn_70 : decode cX6_passOn 70 = .ok (.iconst 0, 1) := by decide +kernel
theorem dX6_passOn_71 : decode cX6_passOn 71 = .ok (.ireturn, 1) := by decide +kernel
theorem dX6_passOn_72 : decode cX6_passOn 72 = .ok (.iload_n 1, 1) := by decide +kernel
theorem dX6_passOn_73 : decode cX6_passOn 73 = .ok (.iconst 1, 1) := by decide +kernel
theorem dX6_passOn_74 : decode cX6_passOn 74 = .ok (.if_icmp .eq 8, 3) := by decide +kernel
theorem dX6_passOn_77 : decode cX6_passOn 77 = .ok (.iload_n 1, 1) := by decide +kernel
theorem dX6_passOn_78 : decode cX6_passOn 78 = .ok (.iconst 2, 1) := by decide +kernel
theorem dX6_passOn_79 : decode cX6_passOn 79 = .ok (.if_icmp .ne 27, 3) := by decide +kernel
theorem dX6_passOn_82 : decode cX6_passOn 82 = .ok (.aload_n 0, 1) := by decide +kernel
theorem dX6_passOn_83 : decode cX6_passOn 83 = .ok (.invokevirtual 128, 3) := by decide +kernel
theorem dX6_passOn_86 : decode cX6_passOn 86 = .ok (.iload_n 1, 1) := by decide +kernel
theorem dX6_passOn_87 : decode cX6_passOn 87 = .ok (.iconst 1, 1) := by decide +kernel
theorem dX6_passOn_88 : decode cX6_passOn 88 = .ok (.if_icmp .ne 7, 3) := by decide +kernel
theorem dX6_passOn_91 : decode cX6_passOn 91 = .ok (.aload_n 0, 1) := by decide +kernel
theorem dX6_passOn_92 : decode cX6_passOn 92 = .ok (.invokevirtual 131, 3) := by decide +kernel
theorem dX6_passOn_95 : decode cX6_passOn 95 = .ok (.iload_n 1, 1) := by decide +kernel
theorem dX6_passOn_96 : decode cX6_passOn 96 = .ok (.iconst 1, 1) := by decide +kernel
theorem dX6_passOn_97 : decode cX6_passOn 97 = .ok (.if_icmp .ne 7, 3) := by decide +kernel
theorem dX6_passOn_100 : decode cX6_passOn 100 = .ok (.iconst 1, 1) := by decide +kernel
theorem dX6_passOn_101 : decode cX6_passOn 101 = .ok (.goto 4, 3) := by decide +kernel
theorem dX6_passOn_104 : decode cX6_passOn 104 = .ok (.iconst 0, 1) := by decide +kernel
theorem dX6_passOn_105 : decode cX6_passOn 105 = .ok (.ireturn, 1) := by decide +kernel
theorem dX6_passOn_106 : decode cX6_passOn 106 = .ok (.iload_n 1, 1) := by decide +kernel
theorem dX6_passOn_107 : decode cX6_passOn 107 = .ok (.iconst 3, 1) := by decide +kernel
theorem dX6_passOn_108 : decode cX6_passOn 108 = .ok (.if_icmp .eq 8, 3) := by decide +kernel
theorem dX6_passOn_111 : decode cX6_passOn 111 = .ok (.iload_n 1, 1) := by decide +kernel
theorem dX6_passOn_112 : decode cX6_passOn 112 = .ok (.iconst 4, 1) := by decide +kernel
theorem dX6_passOn_113 : decode cX6_passOn 113 = .ok (.if_icmp .ne 45, 3) := by decide +kernel
theorem dX6_passOn_116 : decode cX6_passOn 116 = .ok (.aload_n 0, 1) := by decide +kernel
theorem dX6_passOn_117 : decode cX6_passOn 117 = .ok (.getfield 51, 3) := by decide +kernel
theorem dX6_passOn_120 : decode cX6_passOn 120 = .ok (.ifCond .ne 14, 3) := by decide +kernel
theorem dX6_passOn_123 : decode cX6_passOn 123 = .ok (.aload_n 0, 1) := by decide +kernel
theorem dX6_passOn_124 : decode cX6_passOn 124 = .ok (.iconst 5, 1) := by decide +kernel
theorem dX6_passOn_125 : decode cX6_passOn 125 = .ok (.aload_n 0, 1) := by decide +kernel
theorem dX6_passOn_126 : decode cX6_passOn 126 = .ok (.getfield 112, 3) := by decide +kernel
theorem dX6_passOn_129 : decode cX6_passOn 129 = .ok (.invokevirtual 115, 3) := by decide +kernel
theorem dX6_passOn_132 : decode cX6_passOn 132 = .ok (.iconst 0, 1) := by decide +kernel
theorem dX6_passOn_133 : decode cX6_passOn 133 = .ok (.ireturn, 1) := by decide +kernel
theorem dX6_passOn_134 : decode cX6_passOn 134 = .ok (.aload_n 0, 1) := by decide +kernel
theorem dX6_passOn_135 : decode cX6_passOn 135 = .ok (.invokevirtual 125, 3) := by decide +kernel
theorem dX6_passOn_138 : decode cX6_passOn 138 = .ok (.iload_n 1, 1) := by decide +kernel
theorem dX6_passOn_139 : decode cX6_passOn 139 = .ok (.iconst 4, 1) := by decide +kernel
theorem dX6_passOn_140 : decode cX6_passOn 140 = .ok (.if_icmp .ne 7, 3) := by decide +kernel
theorem dX6_passOn_143 : decode cX6_passOn 143 = .ok (.aload_n 0, 1) := by decide +kernel
theorem dX6_passOn_144 : decode cX6_passOn 144 = .ok (.invokevirtual 131, 3) := by decide +kernel
theorem dX6_passOn_147 : decode cX6_passOn 147 = .ok (.iload_n 1, 1) := by decide +kernel
theorem dX6_passOn_148 : decode cX6_passOn 148 = .ok (.iconst 4, 1) := by decide +kernel
theorem dX6_passOn_149 : decode cX6_passOn 149 = .ok (.if_icmp .ne 7, 3) := by decide +kernel
theorem dX6_passOn_152 : decode cX6_passOn 152 = .ok (.iconst 1, 1) := by decide +kernel
theorem dX6_passOn_153 : decode cX6_passOn 153 = .ok (.goto 4, 3) := by decide +kernel
theorem dX6_passOn_156 : decode cX6_passOn 156 = .ok (.iconst 0, 1) := by decide +kernel
theorem dX6_passOn_157 : decode cX6_passOn 157 = .ok (.ireturn, 1) := by decide +kernel
theorem dX6_passOn_158 : decode cX6_passOn 158 = .ok (.aload_n 0, 1) := by decide +kernel
theorem dX6_passOn_159 : decode cX6_passOn 159 = .ok (.bipush 6, 2) := by decide +kernel
theorem dX6_passOn_161 : decode cX6_passOn 161 = .ok (.aload_n 0, 1) := by decide +kernel
theorem dX6_passOn_162 : decode cX6_passOn 162 = .ok (.getfield 112, 3) := by decide +kernel
theorem dX6_passOn_165 : decode cX6_passOn 165 = .ok (.aload_n 0, 1) := by decide +kernel
theorem dX6_passOn_166 : decode cX6_passOn 166 = .ok (.getfield 54, 3) := by decide +kernel
theorem dX6_passOn_169 : decode cX6_passOn 169 = .ok (.iadd, 1) := by decide +kernel
theorem dX6_passOn_170 : decode cX6_passOn 170 = .ok (.invokevirtual 115, 3) := by decide +kernel
theorem dX6_passOn_173 : decode cX6_passOn 173 = .ok (.aload_n 0, 1) := by decide +kernel
theorem dX6_passOn_174 : decode cX6_passOn 174 = .ok (.invokevirtual 119, 3) := by decide +kernel
theorem dX6_passOn_177 : decode cX6_passOn 177 = .ok (.iconst 0, 1) := by decide +kernel
theorem dX6_passOn_178 : decode cX6_passOn 178 = .ok (.ireturn, 1) := by decide +kernel
set_option maxRecDepth 20000 in
theorem ggX6_read_X6_fragment : GoodIn wsX6_read wsX6_fragment := goodIn_r _ [8, 9, 10, 11, 12, 13, 14, 15, 16, 17, 18, 7, 19, 20, 21, 22, 23, 24, 25, 26, 27, 28, 29, 30, 31, 58, 59, 60, 61, 62, 63, 64, 65, 66, 67, 68, 69, 70, 71, 72, 73, 74, 75, 76, 77, 78, 79, 80] (by decide +kernel) (by decide +kernel)
set_option maxRecDepth 20000 in
theorem gX6_read_X6_fragment : GoodIn wsX6_read (wsV RX6 134 RX6 yX6_fragment wsX6_fragment) := goodIn_app (goodIn_of _ (by decide +kernel)) ggX6_read_X6_fragment
set_option maxRecDepth 20000 in
theorem ggX6_read_X6_passOn : GoodIn wsX6_read wsX6_passOn := goodIn_r _ [35, 36, 37, 38, 14, 39, 40, 41, 7, 42, 16, 17, 18, 19, 20, 21, 22, 23, 43, 44, 45, 46, 12, 47, 48, 49, 50, 51, 52, 13, 53, 54, 55, 56, 2, 3, 57, 58, 59, 60, 61, 62, 63, 64, 65, 66, 67, 68, 69, 70, 71, 72, 73, 74, 75, 76, 77, 78, 79, 80] (by decide +kernel) (by decide +kernel)
set_option maxRecDepth 20000 in
theorem gX6_read_X6_passOn : GoodIn wsX6_read (wsV RX6 137 RX6 yX6_passOn wsX6_passOn) := goodIn_app (goodIn_of _ (by decide +kernel)) ggX6_read_X6_passOn
theorem dX6_read_0 : decode cX6_read 0 = .ok (.aload_n 0, 1) := by decide +kernel
theorem dX6_read_1 : decode cX6_read 1 = .ok (.iconst 0, 1) := by decide +kernel
theorem dX6_read_2 : decode cX6_read 2 = .ok (.putfield 38, 3) := by decide +kernel
theorem dX6_read_5 : decode cX6_read 5 = .ok (.aload_n 0, 1) := by decide +kernel
theorem dX6_read_6 : decode cX6_read 6 = .ok (.iconst (-1), 1) := by decide +kernel
theorem dX6_read_7 : decode cX6_read 7 = .ok (.putfield 23, 3) := by decide +kernel
theorem dX6_read_10 : decode cX6_read 10 = .ok (.aload_n 0, 1) := by decide +kernel
theorem dX6_read_11 : decode cX6_read 11 = .ok (.iconst (-1), 1) := by decide +kernel
theorem dX6_read_12 : decode cX6_read 12 = .ok (.putfield 26, 3) := by decide +kernel
theorem dX6_read_15 : decode cX6_read 15 = .ok (.iconst 1, 1) := by decide +kernel
theorem dX6_read_16 : decode cX6_read 16 = .ok (.istore_n 1, 1) := by decide +kernel
theorem dX6_read_17 : decode cX6_read 17 = .ok (.iload_n 1, 1) := by decide +kernel
theorem dX6_read_18 : decode cX6_read 18 = .ok (.ifCond .eq 23, 3) := by decide +kernel
theorem dX6_read_21 : decode cX6_read 21 = .ok (.aload_n 0, 1) := by decide +kernel
theorem dX6_read_22 : decode cX6_read 22 = .ok (.aload_n 0, 1) := by decide +kernel
theorem dX6_read_23 : decode cX6_read 23 = .ok (.invokevirtual 134, 3) := by decide +kernel
theorem dX6_read_26 : decode cX6_read 26 = .ok (.invokevirtual 137, 3) := by decide +kernel
theorem dX6_read_29 : decode cX6_read 29 = .ok (.ifCond .ne 7, 3) := by decide +kernel
theorem dX6_read_32 : decode cX6_read 32 = .ok (.iconst 1, 1) := by decide +kernel
theorem dX6_read_33 : decode cX6_read 33 = .ok (.goto 4, 3) := by decide +kernel
theorem dX6_read_36 : decode cX6_read 36 = .ok (.iconst 0, 1) := by decide +kernel
theorem dX6_read_37 : decode cX6_read 37 = .ok (.istore_n 1, 1) := by decide +kernel
theorem dX6_read_38 : decode cX6_read 38 = .ok (.goto (-21), 3) := by decide +kernel
theorem dX6_read_41 : decode cX6_read 41 = .ok (.aload_n 0, 1) := by decide +kernel
theorem dX6_read_42 : decode cX6_read 42 = .ok (.getfield 23, 3) := by decide +kernel
theorem dX6_read_45 : decode cX6_read 45 = .ok (.ireturn, 1) := by decide +kernel
set_option maxRecDepth 20000 in
theorem ggX6_octet_X6_isIn : GoodIn wsX6_octet wsX6_isIn := goodIn_r _ [7] (by decide +kernel) (by decide +kernel)
set_option maxRecDepth 20000 in
theorem gX6_octet_X6_isIn : GoodIn wsX6_octet (va_wsS RX6 63 yX6_isIn wsX6_isIn) := goodIn_app (goodIn_of _ (by decide +kernel)) ggX6_octet_X6_isIn
theorem dX6_octet_0 : decode cX6_octet 0 = .ok (.aload_n 0, 1) := by decide +kernel
theorem dX6_octet_1 : decode cX6_octet 1 = .ok (.iconst 0, 1) := by decide +kernel
theorem dX6_octet_2 : decode cX6_octet 2 = .ok (.putfield 38, 3) := by decide +kernel
theorem dX6_octet_5 : decode cX6_octet 5 = .ok (.iload_n 1, 1) := by decide +kernel
theorem dX6_octet_6 : decode cX6_octet 6 = .ok (.iconst 0, 1) := by decide +kernel
theorem dX6_octet_7 : decode cX6_octet 7 = .ok (.aload_n 0, 1) := by decide +kernel
theorem dX6_octet_8 : decode cX6_octet 8 = .ok (.getfield 23, 3) := by decide +kernel
theorem dX6_octet_11 : decode cX6_octet 11 = .ok (.iconst 1, 1) := by decide +kernel
theorem dX6_octet_12 : decode cX6_octet 12 = .ok (.isub, 1) := by decide +kernel
theorem dX6_octet_13 : decode cX6_octet 13 = .ok (.invokestatic 63, 3) := by decide +kernel
theorem dX6_octet_16 : decode cX6_octet 16 = .ok (.ifCond .eq 12, 3) := by decide +kernel
theorem dX6_octet_19 : decode cX6_octet 19 = .ok (.aload_n 0, 1) := by decide +kernel
theorem dX6_octet_20 : decode cX6_octet 20 = .ok (.getfield 29, 3) := by decide +kernel
theorem dX6_octet_23 : decode cX6_octet 23 = .ok (.iload_n 1, 1) := by decide +kernel
theorem dX6_octet_24 : decode cX6_octet 24 = .ok (.iaload, 1) := by decide +kernel
theorem dX6_octet_25 : decode cX6_octet 25 = .ok (.goto 4, 3) := by decide +kernel
theorem dX6_octet_28 : decode cX6_octet 28 = .ok (.iconst (-1), 1) := by decide +kernel
theorem dX6_octet_29 : decode cX6_octet 29 = .ok (.ireturn, 1) := by decide +kernel
theorem dX6_first_0 : decode cX6_first 0 = .ok (.aload_n 0, 1) := by decide +kernel
theorem dX6_first_1 : decode cX6_first 1 = .ok (.iconst 0, 1) := by decide +kernel
theorem dX6_first_2 : decode cX6_first 2 = .ok (.putfield 38, 3) := by decide +kernel
theorem dX6_first_5 : decode cX6_first 5 = .ok (.aload_n 0, 1) := by decide +kernel
theorem dX6_first_6 : decode cX6_first 6 = .ok (.getfield 26, 3) := by decide +kernel
theorem dX6_first_9 : decode cX6_first 9 = .ok (.ireturn, 1) := by decide +kernel
set_option maxRecDepth 20000 in
theorem ggX6_count_X6_isIn : GoodIn wsX6_count wsX6_isIn := goodIn_r _ [10] (by decide +kernel) (by decide +kernel)
set_option maxRecDepth 20000 in
theorem gX6_count_X6_isIn : GoodIn wsX6_count (va_wsS RX6 63 yX6_isIn wsX6_isIn) := goodIn_app (goodIn_of _ (by decide +kernel)) ggX6_count_X6_isIn
set_option maxRecDepth 20000 in
theorem ggX6_count_X6_refused : GoodIn wsX6_count wsX6_refused := goodIn_r _ [14, 15, 16, 17, 18, 19, 20, 21, 22, 23, 24, 25, 26, 27, 28, 29, 30, 31, 32, 33, 34, 35, 36, 37, 38] (by decide +kernel) (by decide +kernel)
set_option maxRecDepth 20000 in
theorem gX6_count_X6_refused : GoodIn wsX6_count (wsV RX6 67 RX6 yX6_refused wsX6_refused) := goodIn_app (goodIn_of _ (by decide +kernel)) ggX6_count_X6_refused
theorem dX6_count_0 : decode cX6_count 0 = .ok (.aload_n 0, 1) := by decide +kernel
theorem dX6_count_1 : decode cX6_count 1 = .ok (.iload_n 1, 1) := by decide +kernel
theorem dX6_count_2 : decode cX6_count 2 = .ok (.iconst 0, 1) := by decide +kernel
theorem dX6_count_3 : decode cX6_count 3 = .ok (.iconst 5, 1) := by decide +kernel
theorem dX6_count_4 : decode cX6_count 4 = .ok (.invokestatic 63, 3) := by decide +kernel
theorem dX6_count_7 : decode cX6_count 7 = .ok (.ifCond .eq 7, 3) := by decide +kernel
theorem dX6_count_10 : decode cX6_count 10 = .ok (.iconst 0, 1) := by decide +kernel
theorem dX6_count_11 : decode cX6_count 11 = .ok (.goto 4, 3) := by decide +kernel
theorem dX6_count_14 : decode cX6_count 14 = .ok (.iconst 1, 1) := by decide +kernel
theorem dX6_count_15 : decode cX6_count 15 = .ok (.invokevirtual 67, 3) := by decide +kernel
theorem dX6_count_18 : decode cX6_count 18 = .ok (.ifCond .eq 5, 3) := by decide +kernel
theorem dX6_count_21 : decode cX6_count 21 = .ok (.iconst 0, 1) := by decide +kernel
theorem dX6_count_22 : decode cX6_count 22 = .ok (.ireturn, 1) := by decide +kernel
theorem dX6_count_23 : decode cX6_count 23 = .ok (.iload_n 1, 1) := by decide +kernel
theorem dX6_count_24 : decode cX6_count 24 = .ok (.tableswitch 69 0 4 #[36, 41, 46, 59, 64], 36) := by decide +kernel
theorem dX6_count_60 : decode cX6_count 60 = .ok (.aload_n 0, 1) := by decide +kernel
theorem dX6_count_61 : decode cX6_count 61 = .ok (.getfield 71, 3) := by decide +kernel
theorem dX6_count_64 : decode cX6_count 64 = .ok (.ireturn, 1) := by decide +kernel
theorem dX6_count_65 : decode cX6_count 65 = .ok (.aload_n 0, 1) := by decide +kernel
theorem dX6_count_66 : decode cX6_count 66 = .ok (.getfield 44, 3) := by decide +kernel
theorem dX6_count_69 : decode cX6_count 69 = .ok (.ireturn, 1) := by decide +kernel
theorem dX6_count_70 : decode cX6_count 70 = .ok (.aload_n 0, 1) := by decide +kernel
theorem dX6_count_71 : decode cX6_count 71 = .ok (.getfield 47, 3) := by decide +kernel
theorem dX6_count_74 : decode cX6_count 74 = .ok (.ifCond .eq 7, 3) := by decide +kernel
theorem dX6_count_77 : decode cX6_count 77 = .ok (.iconst 1, 1) := by decide +kernel
theorem dX6_count_78 : decode cX6_count 78 = .ok (.goto 4, 3) := by decide +kernel
theorem dX6_count_81 : decode cX6_count 81 = .ok (.iconst 0, 1) := by decide +kernel
theorem dX6_count_82 : decode cX6_count 82 = .ok (.ireturn, 1) := by decide +kernel
theorem dX6_count_83 : decode cX6_count 83 = .ok (.aload_n 0, 1) := by decide +kernel
theorem dX6_count_84 : decode cX6_count 84 = .ok (.getfield 57, 3) := by decide +kernel
theorem dX6_count_87 : decode cX6_count 87 = .ok (.ireturn, 1) := by decide +kernel
theorem dX6_count_88 : decode cX6_count 88 = .ok (.aload_n 0, 1) := by decide +kernel
theorem dX6_count_89 : decode cX6_count 89 = .ok (.getfield 60, 3) := by decide +kernel
theorem dX6_count_92 : decode cX6_count 92 = .ok (.ireturn, 1) := by decide +kernel
theorem dX6_count_93 : decode cX6_count 93 = .ok (.aload_n 0, 1) := by decide +kernel
theorem dX6_count_94 : decode cX6_count 94 = .ok (.getfield 78, 3) := by decide +kernel
theorem dX6_count_97 : decode cX6_count 97 = .ok (.ireturn, 1) := by decide +kernel
set_option maxRecDepth 20000 in
theorem ggX6_told_X6_isIn : GoodIn wsX6_told wsX6_isIn := goodIn_r _ [7] (by decide +kernel) (by decide +kernel)
set_option maxRecDepth 20000 in
theorem gX6_told_X6_isIn : GoodIn wsX6_told (va_wsS RX6 63 yX6_isIn wsX6_isIn) := goodIn_app (goodIn_of _ (by decide +kernel)) ggX6_told_X6_isIn
set_option maxRecDepth 20000 in
theorem ggX6_told_X6_refused : GoodIn wsX6_told wsX6_refused := goodIn_r _ [11, 12, 13, 14, 15, 16, 17, 18, 19, 20, 21, 22, 23, 24, 25, 26, 27, 28, 29, 30, 31, 32, 33, 34, 35] (by decide +kernel) (by decide +kernel)
set_option maxRecDepth 20000 in
theorem gX6_told_X6_refused : GoodIn wsX6_told (wsV RX6 67 RX6 yX6_refused wsX6_refused) := goodIn_app (goodIn_of _ (by decide +kernel)) ggX6_told_X6_refused
theorem dX6_told_0 : decode cX6_told 0 = .ok (.aload_n 0, 1) := by decide +kernel
theorem dX6_told_1 : decode cX6_told 1 = .ok (.iload_n 2, 1) := by decide +kernel
theorem dX6_told_2 : decode cX6_told 2 = .ok (.iconst 0, 1) := by decide +kernel
theorem dX6_told_3 : decode cX6_told 3 = .ok (.iconst 1, 1) := by decide +kernel
theorem dX6_told_4 : decode cX6_told 4 = .ok (.invokestatic 63, 3) := by decide +kernel
theorem dX6_told_7 : decode cX6_told 7 = .ok (.ifCond .eq 7, 3) := by decide +kernel
theorem dX6_told_10 : decode cX6_told 10 = .ok (.iconst 0, 1) := by decide +kernel
theorem dX6_told_11 : decode cX6_told 11 = .ok (.goto 4, 3) := by decide +kernel
theorem dX6_told_14 : decode cX6_told 14 = .ok (.iconst 1, 1) := by decide +kernel
theorem dX6_told_15 : decode cX6_told 15 = .ok (.invokevirtual 67, 3) := by decide +kernel
theorem dX6_told_18 : decode cX6_told 18 = .ok (.ifCond .eq 5, 3) := by decide +kernel
theorem dX6_told_21 : decode cX6_told 21 = .ok (.iconst 0, 1) := by decide +kernel
theorem dX6_told_22 : decode cX6_told 22 = .ok (.ireturn, 1) := by decide +kernel
theorem dX6_told_23 : decode cX6_told 23 = .ok (.iload_n 1, 1) := by decide +kernel
theorem dX6_told_24 : decode cX6_told 24 = .ok (.iconst 0, 1) := by decide +kernel
theorem dX6_told_25 : decode cX6_told 25 = .ok (.aload_n 0, 1) := by decide +kernel
theorem dX6_told_26 : decode cX6_told 26 = .ok (.getfield 57, 3) := by decide +kernel
theorem dX6_told_29 : decode cX6_told 29 = .ok (.bipush 100, 2) := by decide +kernel
theorem dX6_told_31 : decode cX6_told 31 = .ok (.if_icmp .ge 10, 3) := by decide +kernel
theorem dX6_told_34 : decode cX6_told 34 = .ok (.aload_n 0, 1) := by decide +kernel
theorem dX6_told_35 : decode cX6_told 35 = .ok (.getfield 57, 3) := by decide +kernel
theorem dX6_told_38 : decode cX6_told 38 = .ok (.goto 5, 3) := by decide +kernel
theorem dX6_told_41 : decode cX6_told 41 = .ok (.bipush 100, 2) := by decide +kernel
theorem dX6_told_43 : decode cX6_told 43 = .ok (.iconst 1, 1) := by decide +kernel
theorem dX6_told_44 : decode cX6_told 44 = .ok (.isub, 1) := by decide +kernel
theorem dX6_told_45 : decode cX6_told 45 = .ok (.invokestatic 63, 3) := by decide +kernel
theorem dX6_told_48 : decode cX6_told 48 = .ok (.ifCond .ne 5, 3) := by decide +kernel
theorem dX6_told_51 : decode cX6_told 51 = .ok (.iconst (-1), 1) := by decide +kernel
theorem dX6_told_52 : decode cX6_told 52 = .ok (.ireturn, 1) := by decide +kernel
theorem dX6_told_53 : decode cX6_told 53 = .ok (.iload_n 2, 1) := by decide +kernel
theorem dX6_told_54 : decode cX6_told 54 = .ok (.ifCond .ne 12, 3) := by decide +kernel
theorem dX6_told_57 : decode cX6_told 57 = .ok (.aload_n 0, 1) := by decide +kernel
theorem dX6_told_58 : decode cX6_told 58 = .ok (.getfield 32, 3) := by decide +kernel
theorem dX6_told_61 : decode cX6_told 61 = .ok (.iload_n 1, 1) := by decide +kernel
theorem dX6_told_62 : decode cX6_told 62 = .ok (.iaload, 1) := by decide +kernel
theorem dX6_told_63 : decode cX6_told 63 = .ok (.goto 9, 3) := by decide +kernel
theorem dX6_told_66 : decode cX6_told 66 = .ok (.aload_n 0, 1) := by decide +kernel
theorem dX6_told_67 : decode cX6_told 67 = .ok (.getfield 35, 3) := by decide +kernel
theorem dX6_told_70 : decode cX6_told 70 = .ok (.iload_n 1, 1) := by decide +kernel
theorem dX6_told_71 : decode cX6_told 71 = .ok (.iaload, 1) := by decide +kernel
theorem dX6_told_72 : decode cX6_told 72 = .ok (.ireturn, 1) := by decide +kernel
set_option maxRecDepth 20000 in
theorem ggX6_log_X6_isIn : GoodIn wsX6_log wsX6_isIn := goodIn_r _ [7] (by decide +kernel) (by decide +kernel)
set_option maxRecDepth 20000 in
theorem gX6_log_X6_isIn : GoodIn wsX6_log (va_wsS RX6 63 yX6_isIn wsX6_isIn) := goodIn_app (goodIn_of _ (by decide +kernel)) ggX6_log_X6_isIn
theorem dX6_log_0 : decode cX6_log 0 = .ok (.aload_n 0, 1) := by decide +kernel
theorem dX6_log_1 : decode cX6_log 1 = .ok (.iconst 0, 1) := by decide +kernel
theorem dX6_log_2 : decode cX6_log 2 = .ok (.putfield 38, 3) := by decide +kernel
theorem dX6_log_5 : decode cX6_log 5 = .ok (.iload_n 1, 1) := by decide +kernel
theorem dX6_log_6 : decode cX6_log 6 = .ok (.iconst 0, 1) := by decide +kernel
theorem dX6_log_7 : decode cX6_log 7 = .ok (.aload_n 0, 1) := by decide +kernel
theorem dX6_log_8 : decode cX6_log 8 = .ok (.getfield 71, 3) := by decide +kernel
theorem dX6_log_11 : decode cX6_log 11 = .ok (.iconst 1, 1) := by decide +kernel
theorem dX6_log_12 : decode cX6_log 12 = .ok (.isub, 1) := by decide +kernel
theorem dX6_log_13 : decode cX6_log 13 = .ok (.invokestatic 63, 3) := by decide +kernel
theorem dX6_log_16 : decode cX6_log 16 = .ok (.ifCond .eq 12, 3) := by decide +kernel
theorem dX6_log_19 : decode cX6_log 19 = .ok (.aload_n 0, 1) := by decide +kernel
theorem dX6_log_20 : decode cX6_log 20 = .ok (.getfield 13, 3) := by decide +kernel
theorem dX6_log_23 : decode cX6_log 23 = .ok (.iload_n 1, 1) := by decide +kernel
theorem dX6_log_24 : decode cX6_log 24 = .ok (.iaload, 1) := by decide +kernel
theorem dX6_log_25 : decode cX6_log 25 = .ok (.goto 4, 3) := by decide +kernel
theorem dX6_log_28 : decode cX6_log 28 = .ok (.iconst (-1), 1) := by decide +kernel
theorem dX6_log_29 : decode cX6_log 29 = .ok (.ireturn, 1) := by decide +kernel
end
section
theorem dJ9_min_7cf53_0 : decode cJ9_min_7cf53 0 = .ok (.iload_n 0, 1) := by decide +kernel
theorem dJ9_min_7cf53_1 : decode cJ9_min_7cf53 1 = .ok (.iload_n 1, 1) := by decide +kernel
theorem dJ9_min_7cf53_2 : decode cJ9_min_7cf53 2 = .ok (.if_icmp .gt 7, 3) := by decide +kernel
theorem dJ9_min_7cf53_5 : decode cJ9_min_7cf53 5 = .ok (.iload_n 0, 1) := by decide +kernel
theorem dJ9_min_7cf53_6 : decode cJ9_min_7cf53 6 = .ok (.goto 4, 3) := by decide +kernel
theorem dJ9_min_7cf53_9 : decode cJ9_min_7cf53 9 = .ok (.iload_n 1, 1) := by decide +kernel
theorem dJ9_min_7cf53_10 : decode cJ9_min_7cf53 10 = .ok (.ireturn, 1) := by decide +kernel
end
section
set_option maxRecDepth 20000 in
theorem ggL_clear_X5_clear : GoodIn wsL_clear wsX5_clear := goodIn_ca (goodIn_r _ [6, 7, 8, 9, 10, 11, 12, 13, 14, 15, 16, 17, 18, 19, 20, 21, 22, 23, 24, 25, 26, 27, 28, 29, 30, 31, 32, 33, 34, 35, 36, 37, 38, 39, 40, 41, 42, 43, 44, 45, 46, 47, 48, 49, 50, 51, 52, 53, 54, 55, 56, 57, 58, 59, 60, 61, 62, 63, 64, 65, 66, 67, 68, 69, 70] (by decide +kernel) (by decide +kernel)) (goodIn_sub (fun _ h => List.mem_cons_of_mem _ (List.mem_append_right _ h)) (by decide +kernel))
set_option maxRecDepth 20000 in
theorem gL_clear_X5_clear : GoodIn wsL_clear (wsV RL 7 RX5 yX5_clear wsX5_clear) := goodIn_app (goodIn_of _ (by decide +kernel)) ggL_clear_X5_clear
theorem dL_clear_0 : decode cL_clear 0 = .ok (.aload_n 0, 1) := by decide +kernel
theorem dL_clear_1 : decode cL_clear 1 = .ok (.iload_n 1, 1) := by decide +kernel
theorem dL_clear_2 : decode cL_clear 2 = .ok (.invokevirtual 7, 3) := by decide +kernel
theorem dL_clear_5 : decode cL_clear 5 = .ok (.goto 6, 3) := by decide +kernel
theorem dL_clear_8 : decode cL_clear 8 = .ok (.astore_n 2, 1) := by decide +kernel
theorem dL_clear_9 : decode cL_clear 9 = .ok (.iconst 1, 1) := by decide +kernel
theorem dL_clear_10 : decode cL_clear 10 = .ok (.ireturn, 1) := by decide +kernel
theorem dL_clear_11 : decode cL_clear 11 = .ok (.iconst 0, 1) := by decide +kernel
theorem dL_clear_12 : decode cL_clear 12 = .ok (.ireturn, 1) := by decide +kernel
set_option maxRecDepth 20000 in
theorem ggL_feed_X5_feed : GoodIn wsL_feed wsX5_feed := goodIn_ca (goodIn_ca (goodIn_r _ [7, 8, 9, 10, 11, 12, 13, 14, 15, 16, 17, 18, 19, 20, 21, 22, 23, 24, 25, 26, 6, 27, 28, 29, 30, 31, 32, 33, 34, 35, 36, 37, 38, 39, 40] (by decide +kernel) (by decide +kernel)) (goodIn_sub (fun _ h => List.mem_cons_of_mem _ (List.mem_append_left _ (List.mem_append_right _ h))) (by decide +kernel))) (goodIn_sub (fun _ h => List.mem_cons_of_mem _ (List.mem_append_right _ h)) (by decide +kernel))
set_option maxRecDepth 20000 in
theorem gL_feed_X5_feed : GoodIn wsL_feed (wsV RL 15 RX5 yX5_feed wsX5_feed) := goodIn_app (goodIn_of _ (by decide +kernel)) ggL_feed_X5_feed
theorem dL_feed_0 : decode cL_feed 0 = .ok (.aload 6, 2) := by decide +kernel
theorem dL_feed_2 : decode cL_feed 2 = .ok (.iconst 0, 1) := by decide +kernel
theorem dL_feed_3 : decode cL_feed 3 = .ok (.aload_n 0, 1) := by decide +kernel
theorem dL_feed_4 : decode cL_feed 4 = .ok (.iload_n 1, 1) := by decide +kernel
theorem dL_feed_5 : decode cL_feed 5 = .ok (.iload_n 2, 1) := by decide +kernel
theorem dL_feed_6 : decode cL_feed 6 = .ok (.iload_n 3, 1) := by decide +kernel
theorem dL_feed_7 : decode cL_feed 7 = .ok (.iload 4, 2) := by decide +kernel
theorem dL_feed_9 : decode cL_feed 9 = .ok (.iload 5, 2) := by decide +kernel
theorem dL_feed_11 : decode cL_feed 11 = .ok (.invokevirtual 15, 3) := by decide +kernel
theorem dL_feed_14 : decode cL_feed 14 = .ok (.i2l, 1) := by decide +kernel
theorem dL_feed_15 : decode cL_feed 15 = .ok (.lastore, 1) := by decide +kernel
theorem dL_feed_16 : decode cL_feed 16 = .ok (.goto 11, 3) := by decide +kernel
theorem dL_feed_19 : decode cL_feed 19 = .ok (.astore 7, 2) := by decide +kernel
theorem dL_feed_21 : decode cL_feed 21 = .ok (.iconst 1, 1) := by decide +kernel
theorem dL_feed_22 : decode cL_feed 22 = .ok (.ireturn, 1) := by decide +kernel
theorem dL_feed_23 : decode cL_feed 23 = .ok (.astore 7, 2) := by decide +kernel
theorem dL_feed_25 : decode cL_feed 25 = .ok (.iconst 2, 1) := by decide +kernel
theorem dL_feed_26 : decode cL_feed 26 = .ok (.ireturn, 1) := by decide +kernel
theorem dL_feed_27 : decode cL_feed 27 = .ok (.iconst 0, 1) := by decide +kernel
theorem dL_feed_28 : decode cL_feed 28 = .ok (.ireturn, 1) := by decide +kernel
set_option maxRecDepth 20000 in
theorem ggL_check_X5_check : GoodIn wsL_check wsX5_check := goodIn_ca (goodIn_r _ [6, 7, 8, 9, 10, 11, 5, 12, 13, 14, 15, 16, 17, 18, 19, 20, 21, 22, 23, 24, 25, 26, 27, 28, 29, 30, 31, 32, 33, 34, 35, 36, 37] (by decide +kernel) (by decide +kernel)) (goodIn_sub (fun _ h => List.mem_cons_of_mem _ (List.mem_append_right _ h)) (by decide +kernel))
set_option maxRecDepth 20000 in
theorem gL_check_X5_check : GoodIn wsL_check (wsV RL 21 RX5 yX5_check wsX5_check) := goodIn_app (goodIn_of _ (by decide +kernel)) ggL_check_X5_check
theorem dL_check_0 : decode cL_check 0 = .ok (.aload_n 2, 1) := by decide +kernel
theorem dL_check_1 : decode cL_check 1 = .ok (.iconst 0, 1) := by decide +kernel
theorem dL_check_2 : decode cL_check 2 = .ok (.aload_n 0, 1) := by decide +kernel
theorem dL_check_3 : decode cL_check 3 = .ok (.iload_n 1, 1) := by decide +kernel
theorem dL_check_4 : decode cL_check 4 = .ok (.invokevirtual 21, 3) := by decide +kernel
theorem dL_check_7 : decode cL_check 7 = .ok (.i2l, 1) := by decide +kernel
theorem dL_check_8 : decode cL_check 8 = .ok (.lastore, 1) := by decide +kernel
theorem dL_check_9 : decode cL_check 9 = .ok (.goto 6, 3) := by decide +kernel
theorem dL_check_12 : decode cL_check 12 = .ok (.astore_n 3, 1) := by decide +kernel
theorem dL_check_13 : decode cL_check 13 = .ok (.iconst 1, 1) := by decide +kernel
theorem dL_check_14 : decode cL_check 14 = .ok (.ireturn, 1) := by decide +kernel
theorem dL_check_15 : decode cL_check 15 = .ok (.iconst 0, 1) := by decide +kernel
theorem dL_check_16 : decode cL_check 16 = .ok (.ireturn, 1) := by decide +kernel
set_option maxRecDepth 20000 in
theorem ggL_raw_X5_raw : GoodIn wsL_raw wsX5_raw := goodIn_ca (goodIn_r _ [6, 7, 8, 9, 10, 11, 12, 5, 13, 14, 15, 16, 17, 18, 19, 20, 21, 22, 23, 24, 25, 26, 27, 28, 29, 30, 31, 32, 33, 34, 35, 36, 37, 38, 39, 40, 41, 42, 43, 44, 45, 46, 47, 48, 49, 50, 51, 52, 53, 54, 55, 56, 57, 58, 59, 60, 61, 62, 63, 64, 65, 66, 67, 68] (by decide +kernel) (by decide +kernel)) (goodIn_sub (fun _ h => List.mem_cons_of_mem _ (List.mem_append_right _ h)) (by decide +kernel))
set_option maxRecDepth 20000 in
theorem gL_raw_X5_raw : GoodIn wsL_raw (wsV RL 25 RX5 yX5_raw wsX5_raw) := goodIn_app (goodIn_of _ (by decide +kernel)) ggL_raw_X5_raw
theorem dL_raw_0 : decode cL_raw 0 = .ok (.aload_n 2, 1) := by decide +kernel
theorem dL_raw_1 : decode cL_raw 1 = .ok (.iconst 0, 1) := by decide +kernel
theorem dL_raw_2 : decode cL_raw 2 = .ok (.aload_n 0, 1) := by decide +kernel
theorem dL_raw_3 : decode cL_raw 3 = .ok (.iload_n 1, 1) := by decide +kernel
theorem dL_raw_4 : decode cL_raw 4 = .ok (.invokevirtual 25, 3) := by decide +kernel
theorem dL_raw_7 : decode cL_raw 7 = .ok (.i2l, 1) := by decide +kernel
theorem dL_raw_8 : decode cL_raw 8 = .ok (.lastore, 1) := by decide +kernel
theorem dL_raw_9 : decode cL_raw 9 = .ok (.goto 6, 3) := by decide +kernel
theorem dL_raw_12 : decode cL_raw 12 = .ok (.astore_n 3, 1) := by decide +kernel
theorem dL_raw_13 : decode cL_raw 13 = .ok (.iconst 1, 1) := by decide +kernel
theorem dL_raw_14 : decode cL_raw 14 = .ok (.ireturn, 1) := by decide +kernel
theorem dL_raw_15 : decode cL_raw 15 = .ok (.iconst 0, 1) := by decide +kernel
theorem dL_raw_16 : decode cL_raw 16 = .ok (.ireturn, 1) := by decide +kernel
set_option maxRecDepth 20000 in
theorem ggL_put_X5_put : GoodIn wsL_put wsX5_put := goodIn_ca (goodIn_ca (goodIn_r _ [7, 8, 9, 10, 11, 12, 13, 14, 15, 16, 17, 18, 19, 20, 21, 22, 23, 24, 25, 26, 6, 27, 28, 29, 30, 31, 32, 33, 34, 35, 36, 37, 38, 39, 40, 41, 42, 43, 44] (by decide +kernel) (by decide +kernel)) (goodIn_sub (fun _ h => List.mem_cons_of_mem _ (List.mem_append_left _ (List.mem_append_right _ h))) (by decide +kernel))) (goodIn_sub (fun _ h => List.mem_cons_of_mem _ (List.mem_append_right _ h)) (by decide +kernel))
set_option maxRecDepth 20000 in
theorem gL_put_X5_put : GoodIn wsL_put (wsV RL 28 RX5 yX5_put wsX5_put) := goodIn_app (goodIn_of _ (by decide +kernel)) ggL_put_X5_put
theorem dL_put_0 : decode cL_put 0 = .ok (.aload_n 3, 1) := by decide +kernel
theorem dL_put_1 : decode cL_put 1 = .ok (.iconst 0, 1) := by decide +kernel
theorem dL_put_2 : decode cL_put 2 = .ok (.aload_n 0, 1) := by decide +kernel
theorem dL_put_3 : decode cL_put 3 = .ok (.iload_n 1, 1) := by decide +kernel
theorem dL_put_4 : decode cL_put 4 = .ok (.iload_n 2, 1) := by decide +kernel
theorem dL_put_5 : decode cL_put 5 = .ok (.invokevirtual 28, 3) := by decide +kernel
theorem dL_put_8 : decode cL_put 8 = .ok (.i2l, 1) := by decide +kernel
theorem dL_put_9 : decode cL_put 9 = .ok (.lastore, 1) := by decide +kernel
theorem dL_put_10 : decode cL_put 10 = .ok (.goto 11, 3) := by decide +kernel
theorem dL_put_13 : decode cL_put 13 = .ok (.astore 4, 2) := by decide +kernel
theorem dL_put_15 : decode cL_put 15 = .ok (.iconst 1, 1) := by decide +kernel
theorem dL_put_16 : decode cL_put 16 = .ok (.ireturn, 1) := by decide +kernel
theorem dL_put_17 : decode cL_put 17 = .ok (.astore 4, 2) := by decide +kernel
theorem dL_put_19 : decode cL_put 19 = .ok (.iconst 2, 1) := by decide +kernel
theorem dL_put_20 : decode cL_put 20 = .ok (.ireturn, 1) := by decide +kernel
theorem dL_put_21 : decode cL_put 21 = .ok (.iconst 0, 1) := by decide +kernel
theorem dL_put_22 : decode cL_put 22 = .ok (.ireturn, 1) := by decide +kernel
set_option maxRecDepth 20000 in
theorem ggL_cut_X5_cut : GoodIn wsL_cut wsX5_cut := goodIn_ca (goodIn_r _ [6, 7, 8, 9, 10, 11, 12, 13, 14, 15, 16, 17, 18, 19, 20, 21, 22, 23, 24, 25, 26, 27, 28, 29, 30, 31, 32, 33, 34, 35, 36, 37, 38, 39, 40, 41, 42, 43, 44, 45, 46, 47, 48, 49, 50, 51, 52, 53, 54, 55, 56, 57, 58, 59, 60, 61, 62, 63, 64, 65, 66, 67, 68, 69, 70, 71, 72, 73, 74] (by decide +kernel) (by decide +kernel)) (goodIn_sub (fun _ h => List.mem_cons_of_mem _ (List.mem_append_right _ h)) (by decide +kernel))
set_option maxRecDepth 20000 in
theorem gL_cut_X5_cut : GoodIn wsL_cut (wsV RL 34 RX5 yX5_cut wsX5_cut) := goodIn_app (goodIn_of _ (by decide +kernel)) ggL_cut_X5_cut
theorem dL_cut_0 : decode cL_cut 0 = .ok (.aload_n 2, 1) := by decide +kernel
theorem dL_cut_1 : decode cL_cut 1 = .ok (.iconst 0, 1) := by decide +kernel
theorem dL_cut_2 : decode cL_cut 2 = .ok (.aload_n 0, 1) := by decide +kernel
theorem dL_cut_3 : decode cL_cut 3 = .ok (.iload_n 1, 1) := by decide +kernel
theorem dL_cut_4 : decode cL_cut 4 = .ok (.invokevirtual 34, 3) := by decide +kernel
theorem dL_cut_7 : decode cL_cut 7 = .ok (.i2l, 1) := by decide +kernel
theorem dL_cut_8 : decode cL_cut 8 = .ok (.lastore, 1) := by decide +kernel
theorem dL_cut_9 : decode cL_cut 9 = .ok (.goto 6, 3) := by decide +kernel
theorem dL_cut_12 : decode cL_cut 12 = .ok (.astore_n 3, 1) := by decide +kernel
theorem dL_cut_13 : decode cL_cut 13 = .ok (.iconst 1, 1) := by decide +kernel
theorem dL_cut_14 : decode cL_cut 14 = .ok (.ireturn, 1) := by decide +kernel
theorem dL_cut_15 : decode cL_cut 15 = .ok (.iconst 0, 1) := by decide +kernel
theorem dL_cut_16 : decode cL_cut 16 = .ok (.ireturn, 1) := by decide +kernel
set_option maxRecDepth 20000 in
theorem ggL_begin_X5_begin : GoodIn wsL_begin wsX5_begin := goodIn_ca (goodIn_r _ [6, 7, 8, 9, 10, 11, 12, 13, 14, 15, 16, 17, 18, 19, 20, 21, 22, 23, 24, 25, 26, 27, 28, 29, 30, 31, 32, 33, 34, 35, 36, 37, 38, 39, 40, 41, 42, 43, 44, 45, 46, 47, 48, 49, 50, 51, 52, 53, 54, 55, 56, 57, 58, 59, 60] (by decide +kernel) (by decide +kernel)) (goodIn_sub (fun _ h => List.mem_cons_of_mem _ (List.mem_append_right _ h)) (by decide +kernel))
set_option maxRecDepth 20000 in
theorem gL_begin_X5_begin : GoodIn wsL_begin (wsV RL 37 RX5 yX5_begin wsX5_begin) := goodIn_app (goodIn_of _ (by decide +kernel)) ggL_begin_X5_begin
theorem dL_begin_0 : decode cL_begin 0 = .ok (.aload_n 2, 1) := by decide +kernel
theorem dL_begin_1 : decode cL_begin 1 = .ok (.iconst 0, 1) := by decide +kernel
theorem dL_begin_2 : decode cL_begin 2 = .ok (.aload_n 0, 1) := by decide +kernel
theorem dL_begin_3 : decode cL_begin 3 = .ok (.iload_n 1, 1) := by decide +kernel
theorem dL_begin_4 : decode cL_begin 4 = .ok (.invokevirtual 37, 3) := by decide +kernel
theorem dL_begin_7 : decode cL_begin 7 = .ok (.i2l, 1) := by decide +kernel
theorem dL_begin_8 : decode cL_begin 8 = .ok (.lastore, 1) := by decide +kernel
theorem dL_begin_9 : decode cL_begin 9 = .ok (.goto 6, 3) := by decide +kernel
theorem dL_begin_12 : decode cL_begin 12 = .ok (.astore_n 3, 1) := by decide +kernel
theorem dL_begin_13 : decode cL_begin 13 = .ok (.iconst 1, 1) := by decide +kernel
theorem dL_begin_14 : decode cL_begin 14 = .ok (.ireturn, 1) := by decide +kernel
theorem dL_begin_15 : decode cL_begin 15 = .ok (.iconst 0, 1) := by decide +kernel
theorem dL_begin_16 : decode cL_begin 16 = .ok (.ireturn, 1) := by decide +kernel
set_option maxRecDepth 20000 in
theorem ggL_count_X5_count : GoodIn wsL_count wsX5_count := goodIn_ca (goodIn_r _ [6, 7, 8, 9, 10, 11, 12, 13, 14, 15, 16, 17, 18, 19, 20, 21, 22, 23, 24, 25, 26, 27, 28, 29, 30, 31, 32, 33, 34, 35, 36, 37, 38, 39, 40, 41, 42, 43, 44, 45, 46, 47, 48, 49, 50, 51, 52, 53, 54, 55, 56, 57, 58, 59, 60, 61, 62, 63, 64, 65, 66, 67, 68, 69, 70, 71] (by decide +kernel) (by decide +kernel)) (goodIn_sub (fun _ h => List.mem_cons_of_mem _ (List.mem_append_right _ h)) (by decide +kernel))
set_option maxRecDepth 20000 in
theorem gL_count_X5_count : GoodIn wsL_count (wsV RL 40 RX5 yX5_count wsX5_count) := goodIn_app (goodIn_of _ (by decide +kernel)) ggL_count_X5_count
theorem dL_count_0 : decode cL_count 0 = .ok (.aload_n 2, 1) := by decide +kernel
theorem dL_count_1 : decode cL_count 1 = .ok (.iconst 0, 1) := by decide +kernel
theorem dL_count_2 : decode cL_count 2 = .ok (.aload_n 0, 1) := by decide +kernel
theorem dL_count_3 : decode cL_count 3 = .ok (.iload_n 1, 1) := by decide +kernel
theorem dL_count_4 : decode cL_count 4 = .ok (.invokevirtual 40, 3) := by decide +kernel
theorem dL_count_7 : decode cL_count 7 = .ok (.i2l, 1) := by decide +kernel
theorem dL_count_8 : decode cL_count 8 = .ok (.lastore, 1) := by decide +kernel
theorem dL_count_9 : decode cL_count 9 = .ok (.goto 6, 3) := by decide +kernel
theorem dL_count_12 : decode cL_count 12 = .ok (.astore_n 3, 1) := by decide +kernel
theorem dL_count_13 : decode cL_count 13 = .ok (.iconst 1, 1) := by decide +kernel
theorem dL_count_14 : decode cL_count 14 = .ok (.ireturn, 1) := by decide +kernel
theorem dL_count_15 : decode cL_count 15 = .ok (.iconst 0, 1) := by decide +kernel
theorem dL_count_16 : decode cL_count 16 = .ok (.ireturn, 1) := by decide +kernel
set_option maxRecDepth 20000 in
theorem ggL_told_X5_told : GoodIn wsL_told wsX5_told := goodIn_ca (goodIn_r _ [6, 7, 8, 9, 10, 11, 12, 13, 14, 15, 16, 17, 18, 19, 20, 21, 22, 23, 24, 25, 26, 27, 28, 29, 30, 31, 32, 33, 34, 35, 36, 37, 38, 39, 40, 41, 42, 43, 44, 45, 46, 47, 48] (by decide +kernel) (by decide +kernel)) (goodIn_sub (fun _ h => List.mem_cons_of_mem _ (List.mem_append_right _ h)) (by decide +kernel))
set_option maxRecDepth 20000 in
theorem gL_told_X5_told : GoodIn wsL_told (wsV RL 43 RX5 yX5_told wsX5_told) := goodIn_app (goodIn_of _ (by decide +kernel)) ggL_told_X5_told
theorem dL_told_0 : decode cL_told 0 = .ok (.aload_n 3, 1) := by decide +kernel
theorem dL_told_1 : decode cL_told 1 = .ok (.iconst 0, 1) := by decide +kernel
theorem dL_told_2 : decode cL_told 2 = .ok (.aload_n 0, 1) := by decide +kernel
theorem dL_told_3 : decode cL_told 3 = .ok (.iload_n 1, 1) := by decide +kernel
theorem dL_told_4 : decode cL_told 4 = .ok (.iload_n 2, 1) := by decide +kernel
theorem dL_told_5 : decode cL_told 5 = .ok (.invokevirtual 43, 3) := by decide +kernel
theorem dL_told_8 : decode cL_told 8 = .ok (.i2l, 1) := by decide +kernel
theorem dL_told_9 : decode cL_told 9 = .ok (.lastore, 1) := by decide +kernel
theorem dL_told_10 : decode cL_told 10 = .ok (.goto 7, 3) := by decide +kernel
theorem dL_told_13 : decode cL_told 13 = .ok (.astore 4, 2) := by decide +kernel
theorem dL_told_15 : decode cL_told 15 = .ok (.iconst 1, 1) := by decide +kernel
theorem dL_told_16 : decode cL_told 16 = .ok (.ireturn, 1) := by decide +kernel
theorem dL_told_17 : decode cL_told 17 = .ok (.iconst 0, 1) := by decide +kernel
theorem dL_told_18 : decode cL_told 18 = .ok (.ireturn, 1) := by decide +kernel
set_option maxRecDepth 20000 in
theorem ggL_law_X5_init : GoodIn wsL_law wsX5_init := goodIn_r _ [9, 10, 11, 12, 13, 14, 15, 16, 17, 18, 19, 20, 21, 22, 23, 24, 25, 26, 27, 28, 29, 30, 31, 32, 33, 34, 35, 36, 37, 38, 39, 40, 41, 42, 43, 44, 45, 46, 47, 48, 49, 50, 51, 52, 53, 54, 55, 56, 57, 58, 59, 60, 61, 62, 63, 64, 65, 565, 566, 539, 540, 541, 567, 568, 569, 570, 571, 572, 573, 574, 575, 576, 577, 578, 579, 580, 581, 582] (by decide +kernel) (by decide +kernel)
set_option maxRecDepth 20000 in
theorem gL_law_X5_init : GoodIn wsL_law (wsX5_init) := ggL_law_X5_init
set_option maxRecDepth 20000 in
theorem ggL_law_X6_init : GoodIn wsL_law wsX6_init := goodIn_r _ [68, 69, 11, 12, 70, 60, 71, 72, 73, 74, 75, 76, 77, 78, 542, 543, 544, 545, 546, 547, 548, 549, 550, 551, 552, 553, 554, 555, 556, 557, 558, 559, 560, 561, 562, 563, 564] (by decide +kernel) (by decide +kernel)
set_option maxRecDepth 20000 in
theorem gL_law_X6_init : GoodIn wsL_law (wsX6_init) := ggL_law_X6_init
set_option maxRecDepth 20000 in
theorem ggL_law_L_clear : GoodIn wsL_law wsL_clear := goodIn_ca (goodIn_r _ [82, 83, 84, 85, 86, 2, 87, 88, 89, 20, 24, 90, 91, 92, 19, 93, 36, 37, 94, 95, 96, 15, 97, 31, 98, 99, 100, 23, 101, 56, 51, 52, 53, 46, 102, 103, 104, 105, 106, 107, 108, 109, 110, 111, 112, 113, 45, 114, 63, 64, 539, 540, 541, 567, 568, 565, 566, 569, 570, 571, 572, 573, 574, 575, 576, 577, 578, 579, 580, 581, 582] (by decide +kernel) (by decide +kernel)) (goodIn_sub (fun _ h => List.mem_append_left _ (List.mem_append_left _ (List.mem_append_right _ h))) (by decide +kernel))
set_option maxRecDepth 20000 in
theorem gL_law_L_clear : GoodIn wsL_law (va_wsS RL 50 yL_clear wsL_clear) := goodIn_app (goodIn_of _ (by decide +kernel)) ggL_law_L_clear
set_option maxRecDepth 20000 in
theorem ggL_law_X6_clear : GoodIn wsL_law wsX6_clear := goodIn_r _ [118, 70, 119, 120, 121, 5, 122, 123, 124, 125, 126, 127, 128, 129, 130, 131, 132, 133, 134, 135, 136, 137, 138, 74, 75, 542, 543, 544, 545, 546, 547, 548, 549, 550, 551, 552, 553, 554, 555, 556, 557, 558, 559, 560, 561, 562, 563, 564] (by decide +kernel) (by decide +kernel)
set_option maxRecDepth 20000 in
theorem gL_law_X6_clear : GoodIn wsL_law (wsV RL 55 RX6 yX6_clear wsX6_clear) := goodIn_app (goodIn_of _ (by decide +kernel)) ggL_law_X6_clear
set_option maxRecDepth 20000 in
theorem ggL_law_X6_thrown : GoodIn wsL_law wsX6_thrown := goodIn_r _ [142, 127, 542, 543, 544, 545, 546, 547, 548, 549, 550, 551, 552, 553, 554, 555, 556, 557, 558, 559, 560, 561, 562, 563, 564] (by decide +kernel) (by decide +kernel)
set_option maxRecDepth 20000 in
theorem gL_law_X6_thrown : GoodIn wsL_law (wsV RL 56 RX6 yX6_thrown wsX6_thrown) := goodIn_app (goodIn_of _ (by decide +kernel)) ggL_law_X6_thrown
set_option maxRecDepth 20000 in
theorem ggL_law_L_feed : GoodIn wsL_law wsL_feed := goodIn_ca (goodIn_ca (goodIn_r _ [145, 83, 146, 147, 148, 149, 2, 150, 88, 89, 151, 152, 16, 153, 154, 155, 156, 157, 158, 159, 15, 160, 30, 31, 161, 162, 163, 164, 165, 166, 167, 168, 169, 170, 171, 172, 539, 540, 541, 565, 566] (by decide +kernel) (by decide +kernel)) (goodIn_sub (fun _ h => List.mem_append_left _ (List.mem_append_left _ (List.mem_append_right _ h))) (by decide +kernel))) (goodIn_sub (fun _ h => List.mem_append_left _ (List.mem_append_right _ h)) (by decide +kernel))
set_option maxRecDepth 20000 in
theorem gL_law_L_feed : GoodIn wsL_law (va_wsS RL 60 yL_feed wsL_feed) := goodIn_app (goodIn_of _ (by decide +kernel)) ggL_law_L_feed
set_option maxRecDepth 20000 in
theorem ggL_law_X6_feed : GoodIn wsL_law wsX6_feed := goodIn_r _ [176, 177, 72, 120, 121, 5, 122, 123, 124, 125, 126, 127, 542, 543, 544, 545, 546, 547, 548, 549, 550, 551, 552, 553, 554, 555, 556, 557, 558, 559, 560, 561, 562, 563, 564] (by decide +kernel) (by decide +kernel)
set_option maxRecDepth 20000 in
theorem gL_law_X6_feed : GoodIn wsL_law (wsV RL 63 RX6 yX6_feed wsX6_feed) := goodIn_app (goodIn_of _ (by decide +kernel)) ggL_law_X6_feed
set_option maxRecDepth 20000 in
theorem ggL_law_X5_erase : GoodIn wsL_law wsX5_erase := goodIn_r _ [181, 16, 169, 170, 171, 15, 172, 31, 182, 95, 96, 97, 539, 540, 541, 565, 566] (by decide +kernel) (by decide +kernel)
set_option maxRecDepth 20000 in
theorem gL_law_X5_erase : GoodIn wsL_law (wsV RL 64 RX5 yX5_erase wsX5_erase) := goodIn_app (goodIn_of _ (by decide +kernel)) ggL_law_X5_erase
set_option maxRecDepth 20000 in
theorem ggL_law_X6_erase : GoodIn wsL_law wsX6_erase := goodIn_r _ [186, 127, 177, 542, 543, 544, 545, 546, 547, 548, 549, 550, 551, 552, 553, 554, 555, 556, 557, 558, 559, 560, 561, 562, 563, 564] (by decide +kernel) (by decide +kernel)
set_option maxRecDepth 20000 in
theorem gL_law_X6_erase : GoodIn wsL_law (wsV RL 67 RX6 yX6_erase wsX6_erase) := goodIn_app (goodIn_of _ (by decide +kernel)) ggL_law_X6_erase
set_option maxRecDepth 20000 in
theorem ggL_law_L_check : GoodIn wsL_law wsL_check := goodIn_ca (goodIn_r _ [189, 83, 190, 191, 192, 2, 193, 88, 89, 16, 194, 195, 196, 169, 170, 171, 15, 172, 31, 197, 198, 199, 200, 201, 202, 203, 204, 205, 206, 207, 208, 209, 30, 539, 540, 541, 565, 566] (by decide +kernel) (by decide +kernel)) (goodIn_sub (fun _ h => List.mem_append_left _ (List.mem_append_left _ (List.mem_append_right _ h))) (by decide +kernel))
set_option maxRecDepth 20000 in
theorem gL_law_L_check : GoodIn wsL_law (va_wsS RL 68 yL_check wsL_check) := goodIn_app (goodIn_of _ (by decide +kernel)) ggL_law_L_check
set_option maxRecDepth 20000 in
theorem ggL_law_X6_check : GoodIn wsL_law wsX6_check := goodIn_r _ [213, 177, 120, 121, 5, 122, 123, 124, 125, 126, 127, 214, 215, 216, 217, 72, 218, 219, 220, 221, 222, 223, 224, 225, 542, 543, 544, 545, 546, 547, 548, 549, 550, 551, 552, 553, 554, 555, 556, 557, 558, 559, 560, 561, 562, 563, 564] (by decide +kernel) (by decide +kernel)
set_option maxRecDepth 20000 in
theorem gL_law_X6_check : GoodIn wsL_law (wsV RL 71 RX6 yX6_check wsX6_check) := goodIn_app (goodIn_of _ (by decide +kernel)) ggL_law_X6_check
set_option maxRecDepth 20000 in
theorem ggL_law_X5_append : GoodIn wsL_law wsX5_append := goodIn_r _ [229, 20, 16, 230, 231, 232, 19, 233, 36, 234, 170, 171, 15, 172, 31, 235, 236, 237, 238, 239, 154, 155, 156, 240, 241, 242, 243, 244, 245, 246, 247, 248, 103, 104, 105, 37, 106, 107, 108, 109, 249, 158, 159, 160, 30, 250, 251, 252, 253, 254, 166, 167, 168, 255, 256, 257, 258, 259, 260, 261, 262, 198, 199, 200, 201, 202, 203, 204, 205, 206, 207, 208, 209, 263, 264, 265, 266, 267, 268, 94, 95, 96, 97, 269, 270, 271, 272, 169, 539, 540, 541, 567, 568, 565, 566] (by decide +kernel) (by decide +kernel)
set_option maxRecDepth 20000 in
theorem gL_law_X5_append : GoodIn wsL_law (wsV RL 72 RX5 yX5_append wsX5_append) := goodIn_app (goodIn_of _ (by decide +kernel)) ggL_law_X5_append
set_option maxRecDepth 20000 in
theorem ggL_law_X6_append : GoodIn wsL_law wsX6_append := goodIn_r _ [276, 127, 70, 119, 177, 277, 278, 279, 280, 5, 281, 282, 283, 284, 285, 71, 286, 287, 288, 289, 72, 214, 215, 216, 217, 218, 219, 220, 221, 222, 223, 224, 225, 542, 543, 544, 545, 546, 547, 548, 549, 550, 551, 552, 553, 554, 555, 556, 557, 558, 559, 560, 561, 562, 563, 564] (by decide +kernel) (by decide +kernel)
set_option maxRecDepth 20000 in
theorem gL_law_X6_append : GoodIn wsL_law (wsV RL 75 RX6 yX6_append wsX6_append) := goodIn_app (goodIn_of _ (by decide +kernel)) ggL_law_X6_append
set_option maxRecDepth 20000 in
theorem ggL_law_L_raw : GoodIn wsL_law wsL_raw := goodIn_ca (goodIn_r _ [292, 83, 293, 294, 295, 2, 296, 88, 89, 20, 16, 194, 195, 196, 169, 170, 171, 15, 172, 31, 297, 259, 260, 19, 261, 36, 249, 158, 159, 160, 30, 262, 198, 199, 200, 201, 202, 203, 204, 205, 206, 207, 208, 209, 250, 251, 252, 253, 254, 166, 167, 168, 263, 264, 265, 266, 267, 268, 269, 270, 271, 272, 539, 540, 541, 565, 566, 567, 568] (by decide +kernel) (by decide +kernel)) (goodIn_sub (fun _ h => List.mem_append_left _ (List.mem_append_left _ (List.mem_append_right _ h))) (by decide +kernel))
set_option maxRecDepth 20000 in
theorem gL_law_L_raw : GoodIn wsL_law (va_wsS RL 76 yL_raw wsL_raw) := goodIn_app (goodIn_of _ (by decide +kernel)) ggL_law_L_raw
set_option maxRecDepth 20000 in
theorem ggL_law_X6_raw : GoodIn wsL_law wsX6_raw := goodIn_r _ [301, 119, 177, 120, 121, 5, 122, 123, 124, 125, 126, 127, 286, 287, 288, 289, 72, 214, 215, 216, 217, 218, 219, 220, 221, 222, 223, 224, 225, 282, 283, 284, 285, 71, 542, 543, 544, 545, 546, 547, 548, 549, 550, 551, 552, 553, 554, 555, 556, 557, 558, 559, 560, 561, 562, 563, 564] (by decide +kernel) (by decide +kernel)
set_option maxRecDepth 20000 in
theorem gL_law_X6_raw : GoodIn wsL_law (wsV RL 78 RX6 yX6_raw wsX6_raw) := goodIn_app (goodIn_of _ (by decide +kernel)) ggL_law_X6_raw
set_option maxRecDepth 20000 in
theorem ggL_law_L_put : GoodIn wsL_law wsL_put := goodIn_ca (goodIn_ca (goodIn_r _ [304, 305, 83, 306, 307, 308, 2, 309, 310, 311, 88, 89, 20, 269, 270, 271, 19, 272, 36, 312, 313, 314, 15, 315, 31, 194, 195, 196, 316, 207, 208, 209, 30, 317, 318, 319, 320, 321, 539, 540, 541, 567, 568, 565, 566] (by decide +kernel) (by decide +kernel)) (goodIn_sub (fun _ h => List.mem_append_right _ h) (by decide +kernel))) (goodIn_sub (fun _ h => List.mem_append_left _ (List.mem_append_left _ (List.mem_append_right _ h))) (by decide +kernel))
set_option maxRecDepth 20000 in
theorem gL_law_L_put : GoodIn wsL_law (va_wsS RL 79 yL_put wsL_put) := goodIn_app (goodIn_of _ (by decide +kernel)) ggL_law_L_put
set_option maxRecDepth 20000 in
theorem ggL_law_X6_put_ : GoodIn wsL_law wsX6_put_ := goodIn_r _ [325, 119, 71, 120, 121, 5, 122, 123, 124, 125, 126, 127, 542, 543, 544, 545, 546, 547, 548, 549, 550, 551, 552, 553, 554, 555, 556, 557, 558, 559, 560, 561, 562, 563, 564] (by decide +kernel) (by decide +kernel)
set_option maxRecDepth 20000 in
theorem gL_law_X6_put_ : GoodIn wsL_law (wsV RL 82 RX6 yX6_put_ wsX6_put_) := goodIn_app (goodIn_of _ (by decide +kernel)) ggL_law_X6_put_
set_option maxRecDepth 20000 in
theorem ggL_law_L_cut : GoodIn wsL_law wsL_cut := goodIn_ca (goodIn_r _ [328, 83, 329, 330, 331, 2, 332, 88, 89, 20, 24, 269, 270, 271, 19, 272, 36, 169, 170, 171, 15, 172, 31, 182, 95, 96, 97, 98, 99, 100, 23, 101, 56, 51, 52, 53, 46, 102, 103, 104, 105, 37, 106, 107, 108, 109, 110, 111, 112, 113, 45, 114, 63, 64, 539, 540, 541, 567, 568, 565, 566, 569, 570, 571, 572, 573, 574, 575, 576, 577, 578, 579, 580, 581, 582] (by decide +kernel) (by decide +kernel)) (goodIn_sub (fun _ h => List.mem_append_left _ (List.mem_append_left _ (List.mem_append_right _ h))) (by decide +kernel))
set_option maxRecDepth 20000 in
theorem gL_law_L_cut : GoodIn wsL_law (va_wsS RL 83 yL_cut wsL_cut) := goodIn_app (goodIn_of _ (by decide +kernel)) ggL_law_L_cut
set_option maxRecDepth 20000 in
theorem ggL_law_X6_cut : GoodIn wsL_law wsX6_cut := goodIn_r _ [336, 119, 120, 121, 5, 122, 123, 124, 125, 126, 127, 128, 129, 130, 131, 132, 70, 133, 134, 135, 136, 137, 138, 74, 75, 542, 543, 544, 545, 546, 547, 548, 549, 550, 551, 552, 553, 554, 555, 556, 557, 558, 559, 560, 561, 562, 563, 564] (by decide +kernel) (by decide +kernel)
set_option maxRecDepth 20000 in
theorem gL_law_X6_cut : GoodIn wsL_law (wsV RL 85 RX6 yX6_cut wsX6_cut) := goodIn_app (goodIn_of _ (by decide +kernel)) ggL_law_X6_cut
set_option maxRecDepth 20000 in
theorem ggL_law_L_begin : GoodIn wsL_law wsL_begin := goodIn_ca (goodIn_r _ [339, 83, 340, 341, 342, 2, 343, 88, 89, 24, 98, 99, 100, 23, 101, 56, 51, 52, 53, 46, 102, 103, 104, 19, 105, 37, 106, 107, 108, 109, 110, 111, 112, 113, 45, 114, 63, 64, 344, 345, 346, 347, 539, 540, 541, 569, 570, 571, 572, 573, 574, 575, 576, 577, 578, 567, 568, 579, 580, 581, 582] (by decide +kernel) (by decide +kernel)) (goodIn_sub (fun _ h => List.mem_append_left _ (List.mem_append_left _ (List.mem_append_right _ h))) (by decide +kernel))
set_option maxRecDepth 20000 in
theorem gL_law_L_begin : GoodIn wsL_law (va_wsS RL 86 yL_begin wsL_begin) := goodIn_app (goodIn_of _ (by decide +kernel)) ggL_law_L_begin
set_option maxRecDepth 20000 in
theorem ggL_law_X6_begin : GoodIn wsL_law wsX6_begin := goodIn_r _ [351, 133, 120, 121, 5, 122, 123, 124, 125, 126, 127, 128, 129, 130, 131, 132, 70, 134, 135, 136, 137, 138, 74, 75, 542, 543, 544, 545, 546, 547, 548, 549, 550, 551, 552, 553, 554, 555, 556, 557, 558, 559, 560, 561, 562, 563, 564] (by decide +kernel) (by decide +kernel)
set_option maxRecDepth 20000 in
theorem gL_law_X6_begin : GoodIn wsL_law (wsV RL 88 RX6 yX6_begin wsX6_begin) := goodIn_app (goodIn_of _ (by decide +kernel)) ggL_law_X6_begin
set_option maxRecDepth 20000 in
theorem ggL_law_X5_read : GoodIn wsL_law wsX5_read := goodIn_r _ [355, 24, 356, 357, 358, 23, 359, 360, 361, 362, 363, 48, 49, 50, 364, 95, 96, 15, 97, 31, 365, 366, 367, 368, 56, 51, 54, 55, 52, 369, 370, 371, 19, 372, 36, 239, 154, 155, 156, 248, 103, 104, 105, 37, 106, 107, 108, 109, 234, 170, 171, 172, 373, 374, 375, 376, 102, 377, 270, 271, 272, 378, 379, 380, 381, 268, 207, 208, 209, 30, 382, 383, 384, 385, 386, 46, 387, 388, 389, 45, 390, 63, 61, 62, 64, 391, 392, 393, 394, 395, 198, 199, 200, 201, 202, 203, 204, 205, 206, 396, 397, 398, 399, 400, 401, 402, 403, 404, 53, 405, 406, 407, 408, 409, 410, 411, 412, 413, 414, 415, 416, 417, 265, 266, 267, 254, 166, 167, 168, 418, 419, 420, 421, 422, 423, 424, 425, 169, 539, 540, 541, 569, 570, 571, 572, 573, 574, 575, 576, 577, 578, 565, 566, 567, 568, 579, 580, 581, 582] (by decide +kernel) (by decide +kernel)
set_option maxRecDepth 20000 in
theorem gL_law_X5_read : GoodIn wsL_law (wsV RL 89 RX5 yX5_read wsX5_read) := goodIn_app (goodIn_of _ (by decide +kernel)) ggL_law_X5_read
set_option maxRecDepth 20000 in
theorem ggL_law_X6_read : GoodIn wsL_law wsX6_read := goodIn_r _ [429, 127, 74, 75, 430, 431, 432, 5, 433, 133, 70, 119, 434, 71, 435, 132, 436, 437, 438, 439, 137, 77, 78, 138, 218, 219, 220, 221, 222, 223, 224, 225, 440, 441, 442, 443, 135, 136, 134, 444, 445, 446, 447, 448, 449, 450, 451, 452, 453, 454, 455, 456, 73, 457, 458, 459, 460, 76, 542, 543, 544, 545, 546, 547, 548, 549, 550, 551, 552, 553, 554, 555, 556, 557, 558, 559, 560, 561, 562, 563, 564] (by decide +kernel) (by decide +kernel)
set_option maxRecDepth 20000 in
theorem gL_law_X6_read : GoodIn wsL_law (wsV RL 92 RX6 yX6_read wsX6_read) := goodIn_app (goodIn_of _ (by decide +kernel)) ggL_law_X6_read
set_option maxRecDepth 20000 in
theorem ggL_law_X5_octet : GoodIn wsL_law wsX5_octet := goodIn_r _ [464, 24, 422, 423, 424, 23, 425, 48, 316, 207, 208, 15, 209, 31, 30, 539, 540, 541, 569, 570, 571, 572, 573, 574, 575, 576, 577, 578, 565, 566] (by decide +kernel) (by decide +kernel)
set_option maxRecDepth 20000 in
theorem gL_law_X5_octet : GoodIn wsL_law (wsV RL 93 RX5 yX5_octet wsX5_octet) := goodIn_app (goodIn_of _ (by decide +kernel)) ggL_law_X5_octet
set_option maxRecDepth 20000 in
theorem ggL_law_X6_octet : GoodIn wsL_law wsX6_octet := goodIn_r _ [468, 127, 74, 76, 120, 121, 5, 122, 542, 543, 544, 545, 546, 547, 548, 549, 550, 551, 552, 553, 554, 555, 556, 557, 558, 559, 560, 561, 562, 563, 564] (by decide +kernel) (by decide +kernel)
set_option maxRecDepth 20000 in
theorem gL_law_X6_octet : GoodIn wsL_law (wsV RL 96 RX6 yX6_octet wsX6_octet) := goodIn_app (goodIn_of _ (by decide +kernel)) ggL_law_X6_octet
set_option maxRecDepth 20000 in
theorem ggL_law_X5_first : GoodIn wsL_law wsX5_first := goodIn_r _ [472, 24, 473, 474, 475, 23, 476, 49, 539, 540, 541, 569, 570, 571, 572, 573, 574, 575, 576, 577, 578] (by decide +kernel) (by decide +kernel)
set_option maxRecDepth 20000 in
theorem gL_law_X5_first : GoodIn wsL_law (wsV RL 97 RX5 yX5_first wsX5_first) := goodIn_app (goodIn_of _ (by decide +kernel)) ggL_law_X5_first
set_option maxRecDepth 20000 in
theorem ggL_law_X6_first : GoodIn wsL_law wsX6_first := goodIn_r _ [480, 127, 75, 542, 543, 544, 545, 546, 547, 548, 549, 550, 551, 552, 553, 554, 555, 556, 557, 558, 559, 560, 561, 562, 563, 564] (by decide +kernel) (by decide +kernel)
set_option maxRecDepth 20000 in
theorem gL_law_X6_first : GoodIn wsL_law (wsV RL 100 RX6 yX6_first wsX6_first) := goodIn_app (goodIn_of _ (by decide +kernel)) ggL_law_X6_first
set_option maxRecDepth 20000 in
theorem ggL_law_L_count : GoodIn wsL_law wsL_count := goodIn_ca (goodIn_r _ [483, 83, 484, 485, 486, 2, 487, 88, 89, 20, 24, 16, 269, 270, 271, 19, 272, 36, 169, 170, 171, 15, 172, 31, 344, 345, 346, 23, 347, 51, 488, 489, 490, 491, 53, 492, 493, 494, 495, 46, 496, 497, 498, 45, 499, 63, 500, 501, 502, 503, 64, 539, 540, 541, 567, 568, 565, 566, 569, 570, 571, 572, 573, 574, 575, 576, 577, 578, 579, 580, 581, 582] (by decide +kernel) (by decide +kernel)) (goodIn_sub (fun _ h => List.mem_append_left _ (List.mem_append_left _ (List.mem_append_right _ h))) (by decide +kernel))
set_option maxRecDepth 20000 in
theorem gL_law_L_count : GoodIn wsL_law (va_wsS RL 101 yL_count wsL_count) := goodIn_app (goodIn_of _ (by decide +kernel)) ggL_law_L_count
set_option maxRecDepth 20000 in
theorem ggL_law_X6_count : GoodIn wsL_law wsX6_count := goodIn_r _ [507, 119, 133, 134, 137, 138, 177, 120, 121, 5, 122, 123, 124, 125, 126, 127, 542, 543, 544, 545, 546, 547, 548, 549, 550, 551, 552, 553, 554, 555, 556, 557, 558, 559, 560, 561, 562, 563, 564] (by decide +kernel) (by decide +kernel)
set_option maxRecDepth 20000 in
theorem gL_law_X6_count : GoodIn wsL_law (wsV RL 103 RX6 yX6_count wsX6_count) := goodIn_app (goodIn_of _ (by decide +kernel)) ggL_law_X6_count
set_option maxRecDepth 20000 in
theorem ggL_law_L_told : GoodIn wsL_law wsL_told := goodIn_ca (goodIn_r _ [510, 83, 511, 512, 513, 2, 514, 88, 89, 24, 492, 493, 494, 23, 495, 46, 515, 516, 517, 45, 518, 61, 519, 520, 521, 522, 63, 523, 524, 525, 526, 62, 539, 540, 541, 569, 570, 571, 572, 573, 574, 575, 576, 577, 578, 579, 580, 581, 582] (by decide +kernel) (by decide +kernel)) (goodIn_sub (fun _ h => List.mem_append_left _ (List.mem_append_left _ (List.mem_append_right _ h))) (by decide +kernel))
set_option maxRecDepth 20000 in
theorem gL_law_L_told : GoodIn wsL_law (va_wsS RL 104 yL_told wsL_told) := goodIn_app (goodIn_of _ (by decide +kernel)) ggL_law_L_told
set_option maxRecDepth 20000 in
theorem ggL_law_X6_told : GoodIn wsL_law wsX6_told := goodIn_r _ [530, 137, 77, 78, 120, 121, 5, 122, 123, 124, 125, 126, 127, 542, 543, 544, 545, 546, 547, 548, 549, 550, 551, 552, 553, 554, 555, 556, 557, 558, 559, 560, 561, 562, 563, 564] (by decide +kernel) (by decide +kernel)
set_option maxRecDepth 20000 in
theorem gL_law_X6_told : GoodIn wsL_law (wsV RL 106 RX6 yX6_told wsX6_told) := goodIn_app (goodIn_of _ (by decide +kernel)) ggL_law_X6_told
set_option maxRecDepth 20000 in
theorem ggL_law_X5_log : GoodIn wsL_law wsX5_log := goodIn_r _ [534, 20, 269, 270, 271, 19, 272, 36, 316, 207, 208, 15, 209, 31, 30, 539, 540, 541, 567, 568, 565, 566] (by decide +kernel) (by decide +kernel)
set_option maxRecDepth 20000 in
theorem gL_law_X5_log : GoodIn wsL_law (wsV RL 107 RX5 yX5_log wsX5_log) := goodIn_app (goodIn_of _ (by decide +kernel)) ggL_law_X5_log
set_option maxRecDepth 20000 in
theorem ggL_law_X6_log : GoodIn wsL_law wsX6_log := goodIn_r _ [538, 127, 119, 71, 120, 121, 5, 122, 542, 543, 544, 545, 546, 547, 548, 549, 550, 551, 552, 553, 554, 555, 556, 557, 558, 559, 560, 561, 562, 563, 564] (by decide +kernel) (by decide +kernel)
set_option maxRecDepth 20000 in
theorem gL_law_X6_log : GoodIn wsL_law (wsV RL 110 RX6 yX6_log wsX6_log) := goodIn_app (goodIn_of _ (by decide +kernel)) ggL_law_X6_log
theorem dL_law_0 : decode cL_law 0 = .ok (.new 8, 3) := by decide +kernel
theorem dL_law_3 : decode cL_law 3 = .ok (.dup, 1) := by decide +kernel
theorem dL_law_4 : decode cL_law 4 = .ok (.invokespecial 46, 3) := by decide +kernel
theorem dL_law_7 : decode cL_law 7 = .ok (.astore_n 1, 1) := by decide +kernel
theorem dL_law_8 : decode cL_law 8 = .ok (.new 47, 3) := by decide +kernel
theorem dL_law_11 : decode cL_law 11 = .ok (.dup, 1) := by decide +kernel
theorem dL_law_12 : decode cL_law 12 = .ok (.invokespecial 49, 3) := by decide +kernel
theorem dL_law_15 : decode cL_law 15 = .ok (.astore_n 2, 1) := by decide +kernel
theorem dL_law_16 : decode cL_law 16 = .ok (.iconst 1, 1) := by decide +kernel
theorem dL_law_17 : decode cL_law 17 = .ok (.newarray .long, 2) := by decide +kernel
theorem dL_law_19 : decode cL_law 19 = .ok (.astore_n 3, 1) := by decide +kernel
theorem dL_law_20 : decode cL_law 20 = .ok (.iconst 0, 1) := by decide +kernel
theorem dL_law_21 : decode cL_law 21 = .ok (.istore 4, 2) := by decide +kernel
theorem dL_law_23 : decode cL_law 23 = .ok (.iload 4, 2) := by decide +kernel
theorem dL_law_25 : decode cL_law 25 = .ok (.aload_n 0, 1) := by decide +kernel
theorem dL_law_26 : decode cL_law 26 = .ok (.arraylength, 1) := by decide +kernel
theorem dL_law_27 : decode cL_law 27 = .ok (.bipush 6, 2) := by decide +kernel
theorem dL_law_29 : decode cL_law 29 = .ok (.isub, 1) := by decide +kernel
theorem dL_law_30 : decode cL_law 30 = .ok (.if_icmp .gt 750, 3) := by decide +kernel
theorem dL_law_33 : decode cL_law 33 = .ok (.aload_n 0, 1) := by decide +kernel
theorem dL_law_34 : decode cL_law 34 = .ok (.iload 4, 2) := by decide +kernel
theorem dL_law_36 : decode cL_law 36 = .ok (.iaload, 1) := by decide +kernel
theorem dL_law_37 : decode cL_law 37 = .ok (.bipush 15, 2) := by decide +kernel
theorem dL_law_39 : decode cL_law 39 = .ok (.iand, 1) := by decide +kernel
theorem dL_law_40 : decode cL_law 40 = .ok (.tableswitch 734 0 14 #[76, 112, 216, 229, 285, 298, 354, 422, 478, 534, 547, 572, 585, 641, 709], 76) := by decide +kernel
theorem dL_law_116 : decode cL_law 116 = .ok (.aload_n 1, 1) := by decide +kernel
theorem dL_law_117 : decode cL_law 117 = .ok (.aload_n 0, 1) := by decide +kernel
theorem dL_law_118 : decode cL_law 118 = .ok (.iload 4, 2) := by decide +kernel
theorem dL_law_120 : decode cL_law 120 = .ok (.iconst 1, 1) := by decide +kernel
theorem dL_law_121 : decode cL_law 121 = .ok (.iadd, 1) := by decide +kernel
theorem dL_law_122 : decode cL_law 122 = .ok (.iaload, 1) := by decide +kernel
theorem dL_law_123 : decode cL_law 123 = .ok (.invokestatic 50, 3) := by decide +kernel
theorem dL_law_126 : decode cL_law 126 = .ok (.istore 5, 2) := by decide +kernel
theorem dL_law_128 : decode cL_law 128 = .ok (.aload_n 2, 1) := by decide +kernel
theorem dL_law_129 : decode cL_law 129 = .ok (.aload_n 0, 1) := by decide +kernel
theorem dL_law_130 : decode cL_law 130 = .ok (.iload 4, 2) := by decide +kernel
theorem dL_law_132 : decode cL_law 132 = .ok (.iconst 1, 1) := by decide +kernel
theorem dL_law_133 : decode cL_law 133 = .ok (.iadd, 1) := by decide +kernel
theorem dL_law_134 : decode cL_law 134 = .ok (.iaload, 1) := by decide +kernel
theorem dL_law_135 : decode cL_law 135 = .ok (.invokevirtual 55, 3) := by decide +kernel
theorem dL_law_138 : decode cL_law 138 = .ok (.aload_n 2, 1) := by decide +kernel
theorem dL_law_139 : decode cL_law 139 = .ok (.invokevirtual 56, 3) := by decide +kernel
theorem dL_law_142 : decode cL_law 142 = .ok (.iload 5, 2) := by decide +kernel
theorem dL_law_144 : decode cL_law 144 = .ok (.if_icmp .eq 5, 3) := by decide +kernel
theorem dL_law_147 : decode cL_law 147 = .ok (.iconst 0, 1) := by decide +kernel
theorem dL_law_148 : decode cL_law 148 = .ok (.ireturn, 1) := by decide +kernel
theorem dL_law_149 : decode cL_law 149 = .ok (.goto 625, 3) := by decide +kernel
theorem dL_law_152 : decode cL_law 152 = .ok (.aload_n 1, 1) := by decide +kernel
theorem dL_law_153 : decode cL_law 153 = .ok (.aload_n 0, 1) := by decide +kernel
theorem dL_law_154 : decode cL_law 154 = .ok (.iload 4, 2) := by decide +kernel
theorem dL_law_156 : decode cL_law 156 = .ok (.iconst 1, 1) := by decide +kernel
theorem dL_law_157 : decode cL_law 157 = .ok (.iadd, 1) := by decide +kernel
theorem dL_law_158 : decode cL_law 158 = .ok (.iaload, 1) := by decide +kernel
theorem dL_law_159 : decode cL_law 159 = .ok (.aload_n 0, 1) := by decide +kernel
theorem dL_law_160 : decode cL_law 160 = .ok (.iload 4, 2) := by decide +kernel
theorem dL_law_162 : decode cL_law 162 = .ok (.iconst 2, 1) := by decide +kernel
theorem dL_law_163 : decode cL_law 163 = .ok (.iadd, 1) := by decide +kernel
theorem dL_law_164 : decode cL_law 164 = .ok (.iaload, 1) := by decide +kernel
theorem dL_law_165 : decode cL_law 165 = .ok (.aload_n 0, 1) := by decide +kernel
theorem dL_law_166 : decode cL_law 166 = .ok (.iload 4, 2) := by decide +kernel
theorem dL_law_168 : decode cL_law 168 = .ok (.iconst 3, 1) := by decide +kernel
theorem dL_law_169 : decode cL_law 169 = .ok (.iadd, 1) := by decide +kernel
theorem dL_law_170 : decode cL_law 170 = .ok (.iaload, 1) := by decide +kernel
theorem dL_law_171 : decode cL_law 171 = .ok (.aload_n 0, 1) := by decide +kernel
theorem dL_law_172 : decode cL_law 172 = .ok (.iload 4, 2) := by decide +kernel
theorem dL_law_174 : decode cL_law 174 = .ok (.iconst 4, 1) := by decide +kernel
theorem dL_law_175 : decode cL_law 175 = .ok (.iadd, 1) := by decide +kernel
theorem dL_law_176 : decode cL_law 176 = .ok (.iaload, 1) := by decide +kernel
theorem dL_law_177 : decode cL_law 177 = .ok (.aload_n 0, 1) := by decide +kernel
theorem dL_law_178 : decode cL_law 178 = .ok (.iload 4, 2) := by decide +kernel
theorem dL_law_180 : decode cL_law 180 = .ok (.iconst 5, 1) := by decide +kernel
theorem dL_law_181 : decode cL_law 181 = .ok (.iadd, 1) := by decide +kernel
theorem dL_law_182 : decode cL_law 182 = .ok (.iaload, 1) := by decide +kernel
theorem dL_law_183 : decode cL_law 183 = .ok (.aload_n 3, 1) := by decide +kernel
theorem dL_law_184 : decode cL_law 184 = .ok (.invokestatic 60, 3) := by decide +kernel
theorem dL_law_187 : decode cL_law 187 = .ok (.istore 5, 2) := by decide +kernel
theorem dL_law_189 : decode cL_law 189 = .ok (.aload_n 2, 1) := by decide +kernel
theorem dL_law_190 : decode cL_law 190 = .ok (.aload_n 0, 1) := by decide +kernel
theorem dL_law_191 : decode cL_law 191 = .ok (.iload 4, 2) := by decide +kernel
theorem dL_law_193 : decode cL_law 193 = .ok (.iconst 1, 1) := by decide +kernel
theorem dL_law_194 : decode cL_law 194 = .ok (.iadd, 1) := by decide +kernel
theorem dL_law_195 : decode cL_law 195 = .ok (.iaload, 1) := by decide +kernel
theorem dL_law_196 : decode cL_law 196 = .ok (.aload_n 0, 1) := by decide +kernel
theorem dL_law_197 : decode cL_law 197 = .ok (.iload 4, 2) := by decide +kernel
theorem dL_law_199 : decode cL_law 199 = .ok (.iconst 2, 1) := by decide +kernel
theorem dL_law_200 : decode cL_law 200 = .ok (.iadd, 1) := by decide +kernel
theorem dL_law_201 : decode cL_law 201 = .ok (.iaload, 1) := by decide +kernel
theorem dL_law_202 : decode cL_law 202 = .ok (.aload_n 0, 1) := by decide +kernel
theorem dL_law_203 : decode cL_law 203 = .ok (.iload 4, 2) := by decide +kernel
theorem dL_law_205 : decode cL_law 205 = .ok (.iconst 3, 1) := by decide +kernel
theorem dL_law_206 : decode cL_law 206 = .ok (.iadd, 1) := by decide +kernel
theorem dL_law_207 : decode cL_law 207 = .ok (.iaload, 1) := by decide +kernel
theorem dL_law_208 : decode cL_law 208 = .ok (.aload_n 0, 1) := by decide +kernel
theorem dL_law_209 : decode cL_law 209 = .ok (.iload 4, 2) := by decide +kernel
theorem dL_law_211 : decode cL_law 211 = .ok (.iconst 4, 1) := by decide +kernel
theorem dL_law_212 : decode cL_law 212 = .ok (.iadd, 1) := by decide +kernel
theorem dL_law_213 : decode cL_law 213 = .ok (.iaload, 1) := by decide +kernel
theorem dL_law_214 : decode cL_law 214 = .ok (.aload_n 0, 1) := by decide +kernel
theorem dL_law_215 : decode cL_law 215 = .ok (.iload 4, 2) := by decide +kernel
theorem dL_law_217 : decode cL_law 217 = .ok (.iconst 5, 1) := by decide +kernel
theorem dL_law_218 : decode cL_law 218 = .ok (.iadd, 1) := by decide +kernel
theorem dL_law_219 : decode cL_law 219 = .ok (.iaload, 1) := by decide +kernel
theorem dL_law_220 : decode cL_law 220 = .ok (.invokevirtual 63, 3) := by decide +kernel
theorem dL_law_223 : decode cL_law 223 = .ok (.istore 6, 2) := by decide +kernel
theorem dL_law_225 : decode cL_law 225 = .ok (.aload_n 2, 1) := by decide +kernel
theorem dL_law_226 : decode cL_law 226 = .ok (.invokevirtual 56, 3) := by decide +kernel
theorem dL_law_229 : decode cL_law 229 = .ok (.iload 5, 2) := by decide +kernel
theorem dL_law_231 : decode cL_law 231 = .ok (.if_icmp .eq 5, 3) := by decide +kernel
theorem dL_law_234 : decode cL_law 234 = .ok (.iconst 0, 1) := by decide +kernel
theorem dL_law_235 : decode cL_law 235 = .ok (.ireturn, 1) := by decide +kernel
theorem dL_law_236 : decode cL_law 236 = .ok (.iload 5, 2) := by decide +kernel
theorem dL_law_238 : decode cL_law 238 = .ok (.ifCond .ne 15, 3) := by decide +kernel
theorem dL_law_241 : decode cL_law 241 = .ok (.aload_n 3, 1) := by decide +kernel
theorem dL_law_242 : decode cL_law 242 = .ok (.iconst 0, 1) := by decide +kernel
theorem dL_law_243 : decode cL_law 243 = .ok (.laload, 1) := by decide +kernel
theorem dL_law_244 : decode cL_law 244 = .ok (.iload 6, 2) := by decide +kernel
theorem dL_law_246 : decode cL_law 246 = .ok (.i2l, 1) := by decide +kernel
theorem dL_law_247 : decode cL_law 247 = .ok (.lcmp, 1) := by decide +kernel
theorem dL_law_248 : decode cL_law 248 = .ok (.ifCond .eq 5, 3) := by decide +kernel
theorem dL_law_251 : decode cL_law 251 = .ok (.iconst 0, 1) := by decide +kernel
theorem dL_law_252 : decode cL_law 252 = .ok (.ireturn, 1) := by decide +kernel
theorem dL_law_253 : decode cL_law 253 = .ok (.goto 521, 3) := by decide +kernel
theorem dL_law_256 : decode cL_law 256 = .ok (.aload_n 1, 1) := by decide +kernel
theorem dL_law_257 : decode cL_law 257 = .ok (.invokevirtual 64, 3) := by decide +kernel
theorem dL_law_260 : decode cL_law 260 = .ok (.aload_n 2, 1) := by decide +kernel
theorem dL_law_261 : decode cL_law 261 = .ok (.invokevirtual 67, 3) := by decide +kernel
theorem dL_law_264 : decode cL_law 264 = .ok (.if_icmp .eq 510, 3) := by decide +kernel
theorem dL_law_267 : decode cL_law 267 = .ok (.iconst 0, 1) := by decide +kernel
theorem dL_law_268 : decode cL_law 268 = .ok (.ireturn, 1) := by decide +kernel
theorem dL_law_269 : decode cL_law 269 = .ok (.aload_n 1, 1) := by decide +kernel
theorem dL_law_270 : decode cL_law 270 = .ok (.aload_n 0, 1) := by decide +kernel
theorem dL_law_271 : decode cL_law 271 = .ok (.iload 4, 2) := by decide +kernel
theorem dL_law_273 : decode cL_law 273 = .ok (.iconst 1, 1) := by decide +kernel
theorem dL_law_274 : decode cL_law 274 = .ok (.iadd, 1) := by decide +kernel
theorem dL_law_275 : decode cL_law 275 = .ok (.iaload, 1) := by decide +kernel
theorem dL_law_276 : decode cL_law 276 = .ok (.aload_n 3, 1) := by decide +kernel
theorem dL_law_277 : decode cL_law 277 = .ok (.invokestatic 68, 3) := by decide +kernel
theorem dL_law_280 : decode cL_law 280 = .ok (.istore 5, 2) := by decide +kernel
theorem dL_law_282 : decode cL_law 282 = .ok (.aload_n 2, 1) := by decide +kernel
theorem dL_law_283 : decode cL_law 283 = .ok (.aload_n 0, 1) := by decide +kernel
theorem dL_law_284 : decode cL_law 284 = .ok (.iload 4, 2) := by decide +kernel
theorem dL_law_286 : decode cL_law 286 = .ok (.iconst 1, 1) := by decide +kernel
theorem dL_law_287 : decode cL_law 287 = .ok (.iadd, 1) := by decide +kernel
theorem dL_law_288 : decode cL_law 288 = .ok (.iaload, 1) := by decide +kernel
theorem dL_law_289 : decode cL_law 289 = .ok (.invokevirtual 71, 3) := by decide +kernel
theorem dL_law_292 : decode cL_law 292 = .ok (.istore 6, 2) := by decide +kernel
theorem dL_law_294 : decode cL_law 294 = .ok (.aload_n 2, 1) := by decide +kernel
theorem dL_law_295 : decode cL_law 295 = .ok (.invokevirtual 56, 3) := by decide +kernel
theorem dL_law_298 : decode cL_law 298 = .ok (.iload 5, 2) := by decide +kernel
theorem dL_law_300 : decode cL_law 300 = .ok (.if_icmp .eq 5, 3) := by decide +kernel
theorem dL_law_303 : decode cL_law 303 = .ok (.iconst 0, 1) := by decide +kernel
theorem dL_law_304 : decode cL_law 304 = .ok (.ireturn, 1) := by decide +kernel
theorem dL_law_305 : decode cL_law 305 = .ok (.iload 5, 2) := by decide +kernel
theorem dL_law_307 : decode cL_law 307 = .ok (.ifCond .ne 15, 3) := by decide +kernel
theorem dL_law_310 : decode cL_law 310 = .ok (.aload_n 3, 1) := by decide +kernel
theorem dL_law_311 : decode cL_law 311 = .ok (.iconst 0, 1) := by decide +kernel
theorem dL_law_312 : decode cL_law 312 = .ok (.laload, 1) := by decide +kernel
theorem dL_law_313 : decode cL_law 313 = .ok (.iload 6, 2) := by decide +kernel
theorem dL_law_315 : decode cL_law 315 = .ok (.i2l, 1) := by decide +kernel
theorem dL_law_316 : decode cL_law 316 = .ok (.lcmp, 1) := by decide +kernel
theorem dL_law_317 : decode cL_law 317 = .ok (.ifCond .eq 5, 3) := by decide +kernel
theorem dL_law_320 : decode cL_law 320 = .ok (.iconst 0, 1) := by decide +kernel
theorem dL_law_321 : decode cL_law 321 = .ok (.ireturn, 1) := by decide +kernel
theorem dL_law_322 : decode cL_law 322 = .ok (.goto 452, 3) := by decide +kernel
theorem dL_law_325 : decode cL_law 325 = .ok (.aload_n 1, 1) := by decide +kernel
theorem dL_law_326 : decode cL_law 326 = .ok (.invokevirtual 72, 3) := by decide +kernel
theorem dL_law_329 : decode cL_law 329 = .ok (.aload_n 2, 1) := by decide +kernel
theorem dL_law_330 : decode cL_law 330 = .ok (.invokevirtual 75, 3) := by decide +kernel
theorem dL_law_333 : decode cL_law 333 = .ok (.if_icmp .eq 441, 3) := by decide +kernel
theorem dL_law_336 : decode cL_law 336 = .ok (.iconst 0, 1) := by decide +kernel
theorem dL_law_337 : decode cL_law 337 = .ok (.ireturn, 1) := by decide +kernel
theorem dL_law_338 : decode cL_law 338 = .ok (.aload_n 1, 1) := by decide +kernel
theorem dL_law_339 : decode cL_law 339 = .ok (.aload_n 0, 1) := by decide +kernel
theorem dL_law_340 : decode cL_law 340 = .ok (.iload 4, 2) := by decide +kernel
theorem dL_law_342 : decode cL_law 342 = .ok (.iconst 1, 1) := by decide +kernel
theorem dL_law_343 : decode cL_law 343 = .ok (.iadd, 1) := by decide +kernel
theorem dL_law_344 : decode cL_law 344 = .ok (.iaload, 1) := by decide +kernel
theorem dL_law_345 : decode cL_law 345 = .ok (.aload_n 3, 1) := by decide +kernel
theorem dL_law_346 : decode cL_law 346 = .ok (.invokestatic 76, 3) := by decide +kernel
theorem dL_law_349 : decode cL_law 349 = .ok (.istore 5, 2) := by decide +kernel
theorem dL_law_351 : decode cL_law 351 = .ok (.aload_n 2, 1) := by decide +kernel
theorem dL_law_352 : decode cL_law 352 = .ok (.aload_n 0, 1) := by decide +kernel
theorem dL_law_353 : decode cL_law 353 = .ok (.iload 4, 2) := by decide +kernel
theorem dL_law_355 : decode cL_law 355 = .ok (.iconst 1, 1) := by decide +kernel
theorem dL_law_356 : decode cL_law 356 = .ok (.iadd, 1) := by decide +kernel
theorem dL_law_357 : decode cL_law 357 = .ok (.iaload, 1) := by decide +kernel
theorem dL_law_358 : decode cL_law 358 = .ok (.invokevirtual 78, 3) := by decide +kernel
theorem dL_law_361 : decode cL_law 361 = .ok (.istore 6, 2) := by decide +kernel
theorem dL_law_363 : decode cL_law 363 = .ok (.aload_n 2, 1) := by decide +kernel
theorem dL_law_364 : decode cL_law 364 = .ok (.invokevirtual 56, 3) := by decide +kernel
theorem dL_law_367 : decode cL_law 367 = .ok (.iload 5, 2) := by decide +kernel
theorem dL_law_369 : decode cL_law 369 = .ok (.if_icmp .eq 5, 3) := by decide +kernel
theorem dL_law_372 : decode cL_law 372 = .ok (.iconst 0, 1) := by decide +kernel
theorem dL_law_373 : decode cL_law 373 = .ok (.ireturn, 1) := by decide +kernel
theorem dL_law_374 : decode cL_law 374 = .ok (.iload 5, 2) := by decide +kernel
theorem dL_law_376 : decode cL_law 376 = .ok (.ifCond .ne 15, 3) := by decide +kernel
theorem dL_law_379 : decode cL_law 379 = .ok (.aload_n 3, 1) := by decide +kernel
theorem dL_law_380 : decode cL_law 380 = .ok (.iconst 0, 1) := by decide +kernel
theorem dL_law_381 : decode cL_law 381 = .ok (.laload, 1) := by decide +kernel
theorem dL_law_382 : decode cL_law 382 = .ok (.iload 6, 2) := by decide +kernel
theorem dL_law_384 : decode cL_law 384 = .ok (.i2l, 1) := by decide +kernel
theorem dL_law_385 : decode cL_law 385 = .ok (.lcmp, 1) := by decide +kernel
theorem dL_law_386 : decode cL_law 386 = .ok (.ifCond .eq 5, 3) := by decide +kernel
theorem dL_law_389 : decode cL_law 389 = .ok (.iconst 0, 1) := by decide +kernel
theorem dL_law_390 : decode cL_law 390 = .ok (.ireturn, 1) := by decide +kernel
theorem dL_law_391 : decode cL_law 391 = .ok (.goto 383, 3) := by decide +kernel
theorem dL_law_394 : decode cL_law 394 = .ok (.aload_n 1, 1) := by decide +kernel
end
section
theorem dL_law_395 : decode cL_law 395 = .ok (.aload_n 0, 1) := by decide +kernel
theorem dL_law_396 : decode cL_law 396 = .ok (.iload 4, 2) := by decide +kernel
theorem dL_law_398 : decode cL_law 398 = .ok (.iconst 1, 1) := by decide +kernel
theorem dL_law_399 : decode cL_law 399 = .ok (.iadd, 1) := by decide +kernel
theorem dL_law_400 : decode cL_law 400 = .ok (.iaload, 1) := by decide +kernel
theorem dL_law_401 : decode cL_law 401 = .ok (.aload_n 0, 1) := by decide +kernel
theorem dL_law_402 : decode cL_law 402 = .ok (.iload 4, 2) := by decide +kernel
theorem dL_law_404 : decode cL_law 404 = .ok (.iconst 2, 1) := by decide +kernel
theorem dL_law_405 : decode cL_law 405 = .ok (.iadd, 1) := by decide +kernel
theorem dL_law_406 : decode cL_law 406 = .ok (.iaload, 1) := by decide +kernel
theorem dL_law_407 : decode cL_law 407 = .ok (.aload_n 3, 1) := by decide +kernel
theorem dL_law_408 : decode cL_law 408 = .ok (.invokestatic 79, 3) := by decide +kernel
theorem dL_law_411 : decode cL_law 411 = .ok (.istore 5, 2) := by decide +kernel
theorem dL_law_413 : decode cL_law 413 = .ok (.aload_n 2, 1) := by decide +kernel
theorem dL_law_414 : decode cL_law 414 = .ok (.aload_n 0, 1) := by decide +kernel
theorem dL_law_415 : decode cL_law 415 = .ok (.iload 4, 2) := by decide +kernel
theorem dL_law_417 : decode cL_law 417 = .ok (.iconst 1, 1) := by decide +kernel
theorem dL_law_418 : decode cL_law 418 = .ok (.iadd, 1) := by decide +kernel
theorem dL_law_419 : decode cL_law 419 = .ok (.iaload, 1) := by decide +kernel
theorem dL_law_420 : decode cL_law 420 = .ok (.aload_n 0, 1) := by decide +kernel
theorem dL_law_421 : decode cL_law 421 = .ok (.iload 4, 2) := by decide +kernel
theorem dL_law_423 : decode cL_law 423 = .ok (.iconst 2, 1) := by decide +kernel
theorem dL_law_424 : decode cL_law 424 = .ok (.iadd, 1) := by decide +kernel
theorem dL_law_425 : decode cL_law 425 = .ok (.iaload, 1) := by decide +kernel
theorem dL_law_426 : decode cL_law 426 = .ok (.invokevirtual 82, 3) := by decide +kernel
theorem dL_law_429 : decode cL_law 429 = .ok (.istore 6, 2) := by decide +kernel
theorem dL_law_431 : decode cL_law 431 = .ok (.aload_n 2, 1) := by decide +kernel
theorem dL_law_432 : decode cL_law 432 = .ok (.invokevirtual 56, 3) := by decide +kernel
theorem dL_law_435 : decode cL_law 435 = .ok (.iload 5, 2) := by decide +kernel
theorem dL_law_437 : decode cL_law 437 = .ok (.if_icmp .eq 5, 3) := by decide +kernel
theorem dL_law_440 : decode cL_law 440 = .ok (.iconst 0, 1) := by decide +kernel
theorem dL_law_441 : decode cL_law 441 = .ok (.ireturn, 1) := by decide +kernel
theorem dL_law_442 : decode cL_law 442 = .ok (.iload 5, 2) := by decide +kernel
theorem dL_law_444 : decode cL_law 444 = .ok (.ifCond .ne 15, 3) := by decide +kernel
theorem dL_law_447 : decode cL_law 447 = .ok (.aload_n 3, 1) := by decide +kernel
theorem dL_law_448 : decode cL_law 448 = .ok (.iconst 0, 1) := by decide +kernel
theorem dL_law_449 : decode cL_law 449 = .ok (.laload, 1) := by decide +kernel
theorem dL_law_450 : decode cL_law 450 = .ok (.iload 6, 2) := by decide +kernel
theorem dL_law_452 : decode cL_law 452 = .ok (.i2l, 1) := by decide +kernel
theorem dL_law_453 : decode cL_law 453 = .ok (.lcmp, 1) := by decide +kernel
theorem dL_law_454 : decode cL_law 454 = .ok (.ifCond .eq 5, 3) := by decide +kernel
theorem dL_law_457 : decode cL_law 457 = .ok (.iconst 0, 1) := by decide +kernel
theorem dL_law_458 : decode cL_law 458 = .ok (.ireturn, 1) := by decide +kernel
theorem dL_law_459 : decode cL_law 459 = .ok (.goto 315, 3) := by decide +kernel
theorem dL_law_462 : decode cL_law 462 = .ok (.aload_n 1, 1) := by decide +kernel
theorem dL_law_463 : decode cL_law 463 = .ok (.aload_n 0, 1) := by decide +kernel
theorem dL_law_464 : decode cL_law 464 = .ok (.iload 4, 2) := by decide +kernel
theorem dL_law_466 : decode cL_law 466 = .ok (.iconst 1, 1) := by decide +kernel
theorem dL_law_467 : decode cL_law 467 = .ok (.iadd, 1) := by decide +kernel
theorem dL_law_468 : decode cL_law 468 = .ok (.iaload, 1) := by decide +kernel
theorem dL_law_469 : decode cL_law 469 = .ok (.aload_n 3, 1) := by decide +kernel
theorem dL_law_470 : decode cL_law 470 = .ok (.invokestatic 83, 3) := by decide +kernel
theorem dL_law_473 : decode cL_law 473 = .ok (.istore 5, 2) := by decide +kernel
theorem dL_law_475 : decode cL_law 475 = .ok (.aload_n 2, 1) := by decide +kernel
theorem dL_law_476 : decode cL_law 476 = .ok (.aload_n 0, 1) := by decide +kernel
theorem dL_law_477 : decode cL_law 477 = .ok (.iload 4, 2) := by decide +kernel
theorem dL_law_479 : decode cL_law 479 = .ok (.iconst 1, 1) := by decide +kernel
theorem dL_law_480 : decode cL_law 480 = .ok (.iadd, 1) := by decide +kernel
theorem dL_law_481 : decode cL_law 481 = .ok (.iaload, 1) := by decide +kernel
theorem dL_law_482 : decode cL_law 482 = .ok (.invokevirtual 85, 3) := by decide +kernel
theorem dL_law_485 : decode cL_law 485 = .ok (.istore 6, 2) := by decide +kernel
theorem dL_law_487 : decode cL_law 487 = .ok (.aload_n 2, 1) := by decide +kernel
theorem dL_law_488 : decode cL_law 488 = .ok (.invokevirtual 56, 3) := by decide +kernel
theorem dL_law_491 : decode cL_law 491 = .ok (.iload 5, 2) := by decide +kernel
theorem dL_law_493 : decode cL_law 493 = .ok (.if_icmp .eq 5, 3) := by decide +kernel
theorem dL_law_496 : decode cL_law 496 = .ok (.iconst 0, 1) := by decide +kernel
theorem dL_law_497 : decode cL_law 497 = .ok (.ireturn, 1) := by decide +kernel
theorem dL_law_498 : decode cL_law 498 = .ok (.iload 5, 2) := by decide +kernel
theorem dL_law_500 : decode cL_law 500 = .ok (.ifCond .ne 15, 3) := by decide +kernel
theorem dL_law_503 : decode cL_law 503 = .ok (.aload_n 3, 1) := by decide +kernel
theorem dL_law_504 : decode cL_law 504 = .ok (.iconst 0, 1) := by decide +kernel
theorem dL_law_505 : decode cL_law 505 = .ok (.laload, 1) := by decide +kernel
theorem dL_law_506 : decode cL_law 506 = .ok (.iload 6, 2) := by decide +kernel
theorem dL_law_508 : decode cL_law 508 = .ok (.i2l, 1) := by decide +kernel
theorem dL_law_509 : decode cL_law 509 = .ok (.lcmp, 1) := by decide +kernel
theorem dL_law_510 : decode cL_law 510 = .ok (.ifCond .eq 5, 3) := by decide +kernel
theorem dL_law_513 : decode cL_law 513 = .ok (.iconst 0, 1) := by decide +kernel
theorem dL_law_514 : decode cL_law 514 = .ok (.ireturn, 1) := by decide +kernel
theorem dL_law_515 : decode cL_law 515 = .ok (.goto 259, 3) := by decide +kernel
theorem dL_law_518 : decode cL_law 518 = .ok (.aload_n 1, 1) := by decide +kernel
theorem dL_law_519 : decode cL_law 519 = .ok (.aload_n 0, 1) := by decide +kernel
theorem dL_law_520 : decode cL_law 520 = .ok (.iload 4, 2) := by decide +kernel
theorem dL_law_522 : decode cL_law 522 = .ok (.iconst 1, 1) := by decide +kernel
theorem dL_law_523 : decode cL_law 523 = .ok (.iadd, 1) := by decide +kernel
theorem dL_law_524 : decode cL_law 524 = .ok (.iaload, 1) := by decide +kernel
theorem dL_law_525 : decode cL_law 525 = .ok (.aload_n 3, 1) := by decide +kernel
theorem dL_law_526 : decode cL_law 526 = .ok (.invokestatic 86, 3) := by decide +kernel
theorem dL_law_529 : decode cL_law 529 = .ok (.istore 5, 2) := by decide +kernel
theorem dL_law_531 : decode cL_law 531 = .ok (.aload_n 2, 1) := by decide +kernel
theorem dL_law_532 : decode cL_law 532 = .ok (.aload_n 0, 1) := by decide +kernel
theorem dL_law_533 : decode cL_law 533 = .ok (.iload 4, 2) := by decide +kernel
theorem dL_law_535 : decode cL_law 535 = .ok (.iconst 1, 1) := by decide +kernel
theorem dL_law_536 : decode cL_law 536 = .ok (.iadd, 1) := by decide +kernel
theorem dL_law_537 : decode cL_law 537 = .ok (.iaload, 1) := by decide +kernel
theorem dL_law_538 : decode cL_law 538 = .ok (.invokevirtual 88, 3) := by decide +kernel
theorem dL_law_541 : decode cL_law 541 = .ok (.istore 6, 2) := by decide +kernel
theorem dL_law_543 : decode cL_law 543 = .ok (.aload_n 2, 1) := by decide +kernel
theorem dL_law_544 : decode cL_law 544 = .ok (.invokevirtual 56, 3) := by decide +kernel
theorem dL_law_547 : decode cL_law 547 = .ok (.iload 5, 2) := by decide +kernel
theorem dL_law_549 : decode cL_law 549 = .ok (.if_icmp .eq 5, 3) := by decide +kernel
theorem dL_law_552 : decode cL_law 552 = .ok (.iconst 0, 1) := by decide +kernel
theorem dL_law_553 : decode cL_law 553 = .ok (.ireturn, 1) := by decide +kernel
theorem dL_law_554 : decode cL_law 554 = .ok (.iload 5, 2) := by decide +kernel
theorem dL_law_556 : decode cL_law 556 = .ok (.ifCond .ne 15, 3) := by decide +kernel
theorem dL_law_559 : decode cL_law 559 = .ok (.aload_n 3, 1) := by decide +kernel
theorem dL_law_560 : decode cL_law 560 = .ok (.iconst 0, 1) := by decide +kernel
theorem dL_law_561 : decode cL_law 561 = .ok (.laload, 1) := by decide +kernel
theorem dL_law_562 : decode cL_law 562 = .ok (.iload 6, 2) := by decide +kernel
theorem dL_law_564 : decode cL_law 564 = .ok (.i2l, 1) := by decide +kernel
theorem dL_law_565 : decode cL_law 565 = .ok (.lcmp, 1) := by decide +kernel
theorem dL_law_566 : decode cL_law 566 = .ok (.ifCond .eq 5, 3) := by decide +kernel
theorem dL_law_569 : decode cL_law 569 = .ok (.iconst 0, 1) := by decide +kernel
theorem dL_law_570 : decode cL_law 570 = .ok (.ireturn, 1) := by decide +kernel
theorem dL_law_571 : decode cL_law 571 = .ok (.goto 203, 3) := by decide +kernel
theorem dL_law_574 : decode cL_law 574 = .ok (.aload_n 1, 1) := by decide +kernel
theorem dL_law_575 : decode cL_law 575 = .ok (.invokevirtual 89, 3) := by decide +kernel
theorem dL_law_578 : decode cL_law 578 = .ok (.aload_n 2, 1) := by decide +kernel
theorem dL_law_579 : decode cL_law 579 = .ok (.invokevirtual 92, 3) := by decide +kernel
theorem dL_law_582 : decode cL_law 582 = .ok (.if_icmp .eq 192, 3) := by decide +kernel
theorem dL_law_585 : decode cL_law 585 = .ok (.iconst 0, 1) := by decide +kernel
theorem dL_law_586 : decode cL_law 586 = .ok (.ireturn, 1) := by decide +kernel
theorem dL_law_587 : decode cL_law 587 = .ok (.aload_n 1, 1) := by decide +kernel
theorem dL_law_588 : decode cL_law 588 = .ok (.aload_n 0, 1) := by decide +kernel
theorem dL_law_589 : decode cL_law 589 = .ok (.iload 4, 2) := by decide +kernel
theorem dL_law_591 : decode cL_law 591 = .ok (.iconst 1, 1) := by decide +kernel
theorem dL_law_592 : decode cL_law 592 = .ok (.iadd, 1) := by decide +kernel
theorem dL_law_593 : decode cL_law 593 = .ok (.iaload, 1) := by decide +kernel
theorem dL_law_594 : decode cL_law 594 = .ok (.invokevirtual 93, 3) := by decide +kernel
theorem dL_law_597 : decode cL_law 597 = .ok (.aload_n 2, 1) := by decide +kernel
theorem dL_law_598 : decode cL_law 598 = .ok (.aload_n 0, 1) := by decide +kernel
theorem dL_law_599 : decode cL_law 599 = .ok (.iload 4, 2) := by decide +kernel
theorem dL_law_601 : decode cL_law 601 = .ok (.iconst 1, 1) := by decide +kernel
theorem dL_law_602 : decode cL_law 602 = .ok (.iadd, 1) := by decide +kernel
theorem dL_law_603 : decode cL_law 603 = .ok (.iaload, 1) := by decide +kernel
theorem dL_law_604 : decode cL_law 604 = .ok (.invokevirtual 96, 3) := by decide +kernel
theorem dL_law_607 : decode cL_law 607 = .ok (.if_icmp .eq 167, 3) := by decide +kernel
theorem dL_law_610 : decode cL_law 610 = .ok (.iconst 0, 1) := by decide +kernel
theorem dL_law_611 : decode cL_law 611 = .ok (.ireturn, 1) := by decide +kernel
theorem dL_law_612 : decode cL_law 612 = .ok (.aload_n 1, 1) := by decide +kernel
theorem dL_law_613 : decode cL_law 613 = .ok (.invokevirtual 97, 3) := by decide +kernel
theorem dL_law_616 : decode cL_law 616 = .ok (.aload_n 2, 1) := by decide +kernel
theorem dL_law_617 : decode cL_law 617 = .ok (.invokevirtual 100, 3) := by decide +kernel
theorem dL_law_620 : decode cL_law 620 = .ok (.if_icmp .eq 154, 3) := by decide +kernel
theorem dL_law_623 : decode cL_law 623 = .ok (.iconst 0, 1) := by decide +kernel
theorem dL_law_624 : decode cL_law 624 = .ok (.ireturn, 1) := by decide +kernel
theorem dL_law_625 : decode cL_law 625 = .ok (.aload_n 1, 1) := by decide +kernel
theorem dL_law_626 : decode cL_law 626 = .ok (.aload_n 0, 1) := by decide +kernel
theorem dL_law_627 : decode cL_law 627 = .ok (.iload 4, 2) := by decide +kernel
theorem dL_law_629 : decode cL_law 629 = .ok (.iconst 1, 1) := by decide +kernel
theorem dL_law_630 : decode cL_law 630 = .ok (.iadd, 1) := by decide +kernel
theorem dL_law_631 : decode cL_law 631 = .ok (.iaload, 1) := by decide +kernel
theorem dL_law_632 : decode cL_law 632 = .ok (.aload_n 3, 1) := by decide +kernel
theorem dL_law_633 : decode cL_law 633 = .ok (.invokestatic 101, 3) := by decide +kernel
theorem dL_law_636 : decode cL_law 636 = .ok (.istore 5, 2) := by decide +kernel
theorem dL_law_638 : decode cL_law 638 = .ok (.aload_n 2, 1) := by decide +kernel
theorem dL_law_639 : decode cL_law 639 = .ok (.aload_n 0, 1) := by decide +kernel
theorem dL_law_640 : decode cL_law 640 = .ok (.iload 4, 2) := by decide +kernel
theorem dL_law_642 : decode cL_law 642 = .ok (.iconst 1, 1) := by decide +kernel
theorem dL_law_643 : decode cL_law 643 = .ok (.iadd, 1) := by decide +kernel
theorem dL_law_644 : decode cL_law 644 = .ok (.iaload, 1) := by decide +kernel
theorem dL_law_645 : decode cL_law 645 = .ok (.invokevirtual 103, 3) := by decide +kernel
theorem dL_law_648 : decode cL_law 648 = .ok (.istore 6, 2) := by decide +kernel
theorem dL_law_650 : decode cL_law 650 = .ok (.aload_n 2, 1) := by decide +kernel
theorem dL_law_651 : decode cL_law 651 = .ok (.invokevirtual 56, 3) := by decide +kernel
theorem dL_law_654 : decode cL_law 654 = .ok (.iload 5, 2) := by decide +kernel
theorem dL_law_656 : decode cL_law 656 = .ok (.if_icmp .eq 5, 3) := by decide +kernel
theorem dL_law_659 : decode cL_law 659 = .ok (.iconst 0, 1) := by decide +kernel
theorem dL_law_660 : decode cL_law 660 = .ok (.ireturn, 1) := by decide +kernel
theorem dL_law_661 : decode cL_law 661 = .ok (.iload 5, 2) := by decide +kernel
theorem dL_law_663 : decode cL_law 663 = .ok (.ifCond .ne 15, 3) := by decide +kernel
theorem dL_law_666 : decode cL_law 666 = .ok (.aload_n 3, 1) := by decide +kernel
theorem dL_law_667 : decode cL_law 667 = .ok (.iconst 0, 1) := by decide +kernel
theorem dL_law_668 : decode cL_law 668 = .ok (.laload, 1) := by decide +kernel
theorem dL_law_669 : decode cL_law 669 = .ok (.iload 6, 2) := by decide +kernel
theorem dL_law_671 : decode cL_law 671 = .ok (.i2l, 1) := by decide +kernel
theorem dL_law_672 : decode cL_law 672 = .ok (.lcmp, 1) := by decide +kernel
theorem dL_law_673 : decode cL_law 673 = .ok (.ifCond .eq 5, 3) := by decide +kernel
theorem dL_law_676 : decode cL_law 676 = .ok (.iconst 0, 1) := by decide +kernel
theorem dL_law_677 : decode cL_law 677 = .ok (.ireturn, 1) := by decide +kernel
theorem dL_law_678 : decode cL_law 678 = .ok (.goto 96, 3) := by decide +kernel
theorem dL_law_681 : decode cL_law 681 = .ok (.aload_n 1, 1) := by decide +kernel
theorem dL_law_682 : decode cL_law 682 = .ok (.aload_n 0, 1) := by decide +kernel
theorem dL_law_683 : decode cL_law 683 = .ok (.iload 4, 2) := by decide +kernel
theorem dL_law_685 : decode cL_law 685 = .ok (.iconst 1, 1) := by decide +kernel
theorem dL_law_686 : decode cL_law 686 = .ok (.iadd, 1) := by decide +kernel
theorem dL_law_687 : decode cL_law 687 = .ok (.iaload, 1) := by decide +kernel
theorem dL_law_688 : decode cL_law 688 = .ok (.aload_n 0, 1) := by decide +kernel
theorem dL_law_689 : decode cL_law 689 = .ok (.iload 4, 2) := by decide +kernel
theorem dL_law_691 : decode cL_law 691 = .ok (.iconst 2, 1) := by decide +kernel
theorem dL_law_692 : decode cL_law 692 = .ok (.iadd, 1) := by decide +kernel
theorem dL_law_693 : decode cL_law 693 = .ok (.iaload, 1) := by decide +kernel
theorem dL_law_694 : decode cL_law 694 = .ok (.aload_n 3, 1) := by decide +kernel
theorem dL_law_695 : decode cL_law 695 = .ok (.invokestatic 104, 3) := by decide +kernel
theorem dL_law_698 : decode cL_law 698 = .ok (.istore 5, 2) := by decide +kernel
theorem dL_law_700 : decode cL_law 700 = .ok (.aload_n 2, 1) := by decide +kernel
theorem dL_law_701 : decode cL_law 701 = .ok (.aload_n 0, 1) := by decide +kernel
theorem dL_law_702 : decode cL_law 702 = .ok (.iload 4, 2) := by decide +kernel
theorem dL_law_704 : decode cL_law 704 = .ok (.iconst 1, 1) := by decide +kernel
theorem dL_law_705 : decode cL_law 705 = .ok (.iadd, 1) := by decide +kernel
theorem dL_law_706 : decode cL_law 706 = .ok (.iaload, 1) := by decide +kernel
theorem dL_law_707 : decode cL_law 707 = .ok (.aload_n 0, 1) := by decide +kernel
theorem dL_law_708 : decode cL_law 708 = .ok (.iload 4, 2) := by decide +kernel
theorem dL_law_710 : decode cL_law 710 = .ok (.iconst 2, 1) := by decide +kernel
theorem dL_law_711 : decode cL_law 711 = .ok (.iadd, 1) := by decide +kernel
theorem dL_law_712 : decode cL_law 712 = .ok (.iaload, 1) := by decide +kernel
theorem dL_law_713 : decode cL_law 713 = .ok (.invokevirtual 106, 3) := by decide +kernel
theorem dL_law_716 : decode cL_law 716 = .ok (.istore 6, 2) := by decide +kernel
theorem dL_law_718 : decode cL_law 718 = .ok (.aload_n 2, 1) := by decide +kernel
theorem dL_law_719 : decode cL_law 719 = .ok (.invokevirtual 56, 3) := by decide +kernel
theorem dL_law_722 : decode cL_law 722 = .ok (.iload 5, 2) := by decide +kernel
theorem dL_law_724 : decode cL_law 724 = .ok (.if_icmp .eq 5, 3) := by decide +kernel
theorem dL_law_727 : decode cL_law 727 = .ok (.iconst 0, 1) := by decide +kernel
theorem dL_law_728 : decode cL_law 728 = .ok (.ireturn, 1) := by decide +kernel
theorem dL_law_729 : decode cL_law 729 = .ok (.iload 5, 2) := by decide +kernel
theorem dL_law_731 : decode cL_law 731 = .ok (.ifCond .ne 15, 3) := by decide +kernel
theorem dL_law_734 : decode cL_law 734 = .ok (.aload_n 3, 1) := by decide +kernel
theorem dL_law_735 : decode cL_law 735 = .ok (.iconst 0, 1) := by decide +kernel
theorem dL_law_736 : decode cL_law 736 = .ok (.laload, 1) := by decide +kernel
theorem dL_law_737 : decode cL_law 737 = .ok (.iload 6, 2) := by decide +kernel
theorem dL_law_739 : decode cL_law 739 = .ok (.i2l, 1) := by decide +kernel
theorem dL_law_740 : decode cL_law 740 = .ok (.lcmp, 1) := by decide +kernel
theorem dL_law_741 : decode cL_law 741 = .ok (.ifCond .eq 5, 3) := by decide +kernel
theorem dL_law_744 : decode cL_law 744 = .ok (.iconst 0, 1) := by decide +kernel
theorem dL_law_745 : decode cL_law 745 = .ok (.ireturn, 1) := by decide +kernel
theorem dL_law_746 : decode cL_law 746 = .ok (.goto 28, 3) := by decide +kernel
theorem dL_law_749 : decode cL_law 749 = .ok (.aload_n 1, 1) := by decide +kernel
theorem dL_law_750 : decode cL_law 750 = .ok (.aload_n 0, 1) := by decide +kernel
theorem dL_law_751 : decode cL_law 751 = .ok (.iload 4, 2) := by decide +kernel
theorem dL_law_753 : decode cL_law 753 = .ok (.iconst 1, 1) := by decide +kernel
theorem dL_law_754 : decode cL_law 754 = .ok (.iadd, 1) := by decide +kernel
theorem dL_law_755 : decode cL_law 755 = .ok (.iaload, 1) := by decide +kernel
theorem dL_law_756 : decode cL_law 756 = .ok (.invokevirtual 107, 3) := by decide +kernel
theorem dL_law_759 : decode cL_law 759 = .ok (.aload_n 2, 1) := by decide +kernel
theorem dL_law_760 : decode cL_law 760 = .ok (.aload_n 0, 1) := by decide +kernel
theorem dL_law_761 : decode cL_law 761 = .ok (.iload 4, 2) := by decide +kernel
theorem dL_law_763 : decode cL_law 763 = .ok (.iconst 1, 1) := by decide +kernel
theorem dL_law_764 : decode cL_law 764 = .ok (.iadd, 1) := by decide +kernel
theorem dL_law_765 : decode cL_law 765 = .ok (.iaload, 1) := by decide +kernel
theorem dL_law_766 : decode cL_law 766 = .ok (.invokevirtual 110, 3) := by decide +kernel
theorem dL_law_769 : decode cL_law 769 = .ok (.if_icmp .eq 5, 3) := by decide +kernel
theorem dL_law_772 : decode cL_law 772 = .ok (.iconst 0, 1) := by decide +kernel
theorem dL_law_773 : decode cL_law 773 = .ok (.ireturn, 1) := by decide +kernel
theorem dL_law_774 : decode cL_law 774 = .ok (.iinc 4 6, 3) := by decide +kernel
theorem dL_law_777 : decode cL_law 777 = .ok (.goto (-754), 3) := by decide +kernel
theorem dL_law_780 : decode cL_law 780 = .ok (.iconst 1, 1) := by decide +kernel
theorem dL_law_781 : decode cL_law 781 = .ok (.ireturn, 1) := by decide +kernel
end
section
/-! ===== the layer z: one goal 'zV X cells slots pc locals stack world' an instruction ===== -/
abbrev zG : Type := va_G × ClassId × ClassId × ClassId
abbrev zTys (g : zG) : List (ClassId × FieldType) := [(g.2.1, .byte), (g.2.2.1, .int), (g.2.2.2, .long)]
/-- the table of remainders, as the class has it -/
def zRem (k : Nat) : Int32 := match k with
  | 0 => 0 | 1 => 274646895 | 2 => 549293790 | 3 => 820201905 | 4 => 1098587580 | 5 => 1361435347 | 6 => 1640403810 | 7 => 1905808397
  | 8 => -2097792136 | 9 => -1834419177 | 10 => -1571047002 | 11 => -1307216183 | 12 => -1014159676 | 13 => -741082709 | 14 => -483350502 | _ => -210767563
def zE (A : Nat → Prop) (U : State) (H : Heap) : Prop := ∃ t : Nat, va_Z "FragmentLog$Sum" "REMAINDERS" "[I" (.ref t) A U H ∧ va_T .int t 16 (fun j => .int (zRem j)) A U H
theorem zE.moved {A : Nat → Prop} {u U : State} {H : Heap} (hvm : u.vm.Alike U.vm) (h : zE A u H) : zE A U H := by
  obtain ⟨t, h1, h2⟩ := h
  exact ⟨t, h1.moved hvm, h2.moved hvm⟩
theorem zE.kept {A : Nat → Prop} {U : State} {H H1 : Heap} (h : zE A U H) (hq : ∀ a : Nat, a < H.size → ¬ A a → H1[a]? = H[a]?) : zE A U H1 := by
  obtain ⟨t, h1, h2⟩ := h
  exact ⟨t, h1.kept hq, h2.kept hq⟩
theorem zE.narrow {A B : Nat → Prop} {U : State} {H : Heap} (h : zE A U H) (hAB : ∀ q, B q → A q) : zE B U H := by
  obtain ⟨t, h1, h2⟩ := h
  exact ⟨t, h1.narrow hAB, h2.narrow hAB⟩
abbrev zX : Type := Program × Launch × Env × Room × State × MethodId × Array Value × List Frame × Method × Code × (Nat → Prop) × (State → Prop)
def zV (X : zX) (g : zG) (nL cells slots pc : Nat) (lv : List (Nat × Value)) (st : List Value) (ws : va_W) : Prop :=
  match X with
  | (p, l, e, R, s, m, args, below, meth, c, A, Q) => ∀ (H : Heap) (locs : List Loc) (ls : Array Slot), va_P g.1 vwCl ws H → va_D A ws → va_S A s.heap H locs → lv_has ls nL lv → W p l e R s m args below meth c H locs cells slots Q (F0 m pc ls st)
def zC (X : zX) (g : zG) (nL : Nat) (cc : ByteArray) (own : String) (Ts : List Cond) (rm : Room) : Prop :=
  match X with
  | (p, l, e, R, s, m, args, below, meth, c, A, Q) => p.tables.exec = Jvm.exec ∧ c.code = cc ∧ c.maxLocals = nL ∧ s.vm.findClass own = some m.cls ∧ (∀ w ∈ Ts, w.before args s = true) ∧ va_K g.1 vwCl (zTys g) s ∧ (∀ q, s.heap.size ≤ q → A q) ∧ R = rm ∧ zE A s s.heap ∧ meth.locks = false
def zl (X : zX) : Launch := X.2.1
section
variable {X : zX} {g : zG} {nL : Nat} {cc : ByteArray} {own : String} {Ts : List Cond} {rm : Room} {cells slots pc : Nat} {lv : List (Nat × Value)} {st : List Value} {ws : va_W}
theorem z_iconst (C : zC X g nL cc own Ts rm) {n : Int} {v : Int32} (d : decode cc pc = .ok (.iconst n, 1)) (hv : Int32.ofInt n = v) (k : zV X g nL cells slots (pc + 1) lv (.int v :: st) ws) : zV X g nL cells slots pc lv (st) ws := by
  obtain ⟨p, l, e, R, s, m, args, below, meth, c, A, Q⟩ := X
  obtain ⟨hx, hb, hml, hown, hts, hK, hA, hR, hE, hlk⟩ := C
  subst hR
  intro H locs ls hP hD hS hl
  exact lv_iconst hx hb d hv (k H locs ls hP hD hS hl)
theorem z_bipush (C : zC X g nL cc own Ts rm) {n : Int} {v : Int32} (d : decode cc pc = .ok (.bipush n, 2)) (hv : (Int8.ofInt n).toInt32 = v) (k : zV X g nL cells slots (pc + 2) lv (.int v :: st) ws) : zV X g nL cells slots pc lv (st) ws := by
  obtain ⟨p, l, e, R, s, m, args, below, meth, c, A, Q⟩ := X
  obtain ⟨hx, hb, hml, hown, hts, hK, hA, hR, hE, hlk⟩ := C
  subst hR
  intro H locs ls hP hD hS hl
  exact lv_bipush hx hb d hv (k H locs ls hP hD hS hl)
theorem z_sipush (C : zC X g nL cc own Ts rm) {n : Int} {v : Int32} (d : decode cc pc = .ok (.sipush n, 3)) (hv : (Int16.ofInt n).toInt32 = v) (k : zV X g nL cells slots (pc + 3) lv (.int v :: st) ws) : zV X g nL cells slots pc lv (st) ws := by
  obtain ⟨p, l, e, R, s, m, args, below, meth, c, A, Q⟩ := X
  obtain ⟨hx, hb, hml, hown, hts, hK, hA, hR, hE, hlk⟩ := C
  subst hR
  intro H locs ls hP hD hS hl
  exact lv_sipush hx hb d hv (k H locs ls hP hD hS hl)
theorem z_ldc (C : zC X g nL cc own Ts rm) {index : Nat} {v : Int32} (d : decode cc pc = .ok (.ldc index, 2)) (hc : .constant own index v ∈ Ts) (k : zV X g nL cells slots (pc + 2) lv (.int v :: st) ws) : zV X g nL cells slots pc lv st ws := by
  obtain ⟨p, l, e, R, s, m, args, below, meth, c, A, Q⟩ := X
  obtain ⟨hx, hb, hml, hown, hts, hK, hA, hR, hE, hlk⟩ := C
  subst hR
  intro H locs ls hP hD hS hl
  exact lv_ldc hx hb hown (hts _ hc) d (k H locs ls hP hD hS hl)
theorem z_iload_n (C : zC X g nL cc own Ts rm) {i : Nat} {kk : Fin 4} {x : Int32} (d : decode cc pc = .ok (.iload_n kk, 1)) (hi : (kk : Nat) = i) (j : Nat) (hj : lv[j]? = some (i, .int x)) (k : zV X g nL cells slots (pc + 1) lv (.int x :: st) ws) : zV X g nL cells slots pc lv st ws := by
  obtain ⟨p, l, e, R, s, m, args, below, meth, c, A, Q⟩ := X
  obtain ⟨hx, hb, hml, hown, hts, hK, hA, hR, hE, hlk⟩ := C
  subst hR
  intro H locs ls hP hD hS hl
  exact lv_iload_n hx hb d hi (lv_at hl j hj) (k H locs ls hP hD hS hl)
theorem z_iload (C : zC X g nL cc own Ts rm) {i : Nat} {x : Int32} (d : decode cc pc = .ok (.iload i, 2)) (j : Nat) (hj : lv[j]? = some (i, .int x)) (k : zV X g nL cells slots (pc + 2) lv (.int x :: st) ws) : zV X g nL cells slots pc lv st ws := by
  obtain ⟨p, l, e, R, s, m, args, below, meth, c, A, Q⟩ := X
  obtain ⟨hx, hb, hml, hown, hts, hK, hA, hR, hE, hlk⟩ := C
  subst hR
  intro H locs ls hP hD hS hl
  exact lv_iload hx hb d (lv_at hl j hj) (k H locs ls hP hD hS hl)
theorem z_aload_n (C : zC X g nL cc own Ts rm) {i : Nat} {kk : Fin 4} {x : Nat} (d : decode cc pc = .ok (.aload_n kk, 1)) (hi : (kk : Nat) = i) (j : Nat) (hj : lv[j]? = some (i, .ref x)) (k : zV X g nL cells slots (pc + 1) lv (.ref x :: st) ws) : zV X g nL cells slots pc lv st ws := by
  obtain ⟨p, l, e, R, s, m, args, below, meth, c, A, Q⟩ := X
  obtain ⟨hx, hb, hml, hown, hts, hK, hA, hR, hE, hlk⟩ := C
  subst hR
  intro H locs ls hP hD hS hl
  exact lv_aload_n hx hb d hi (lv_at hl j hj) (k H locs ls hP hD hS hl)
theorem z_aload (C : zC X g nL cc own Ts rm) {i : Nat} {x : Nat} (d : decode cc pc = .ok (.aload i, 2)) (j : Nat) (hj : lv[j]? = some (i, .ref x)) (k : zV X g nL cells slots (pc + 2) lv (.ref x :: st) ws) : zV X g nL cells slots pc lv st ws := by
  obtain ⟨p, l, e, R, s, m, args, below, meth, c, A, Q⟩ := X
  obtain ⟨hx, hb, hml, hown, hts, hK, hA, hR, hE, hlk⟩ := C
  subst hR
  intro H locs ls hP hD hS hl
  exact lv_aload hx hb d (lv_at hl j hj) (k H locs ls hP hD hS hl)
theorem z_istore_n (C : zC X g nL cc own Ts rm) {i : Nat} {kk : Fin 4} {x : Int32} {lv' : List (Nat × Value)} (d : decode cc pc = .ok (.istore_n kk, 1)) (hi : (kk : Nat) = i) (hn : i < nL) (hl0 : (i, Value.int x) :: lv.filter (fun q => !(q.1 == i) && !(q.1 + 1 == i && q.2.category == 2)) = lv') (k : zV X g nL cells slots (pc + 1) lv' st ws) : zV X g nL cells slots pc lv (.int x :: st) ws := by
  obtain ⟨p, l, e, R, s, m, args, below, meth, c, A, Q⟩ := X
  obtain ⟨hx, hb, hml, hown, hts, hK, hA, hR, hE, hlk⟩ := C
  subst hR
  intro H locs ls hP hD hS hl
  exact lv_istore_n hx hb d hi hl hn hl0 (fun ls hl => k H locs ls hP hD hS hl)
theorem z_istore (C : zC X g nL cc own Ts rm) {i : Nat} {x : Int32} {lv' : List (Nat × Value)} (d : decode cc pc = .ok (.istore i, 2)) (hn : i < nL) (hl0 : (i, Value.int x) :: lv.filter (fun q => !(q.1 == i) && !(q.1 + 1 == i && q.2.category == 2)) = lv') (k : zV X g nL cells slots (pc + 2) lv' st ws) : zV X g nL cells slots pc lv (.int x :: st) ws := by
  obtain ⟨p, l, e, R, s, m, args, below, meth, c, A, Q⟩ := X
  obtain ⟨hx, hb, hml, hown, hts, hK, hA, hR, hE, hlk⟩ := C
  subst hR
  intro H locs ls hP hD hS hl
  exact lv_istore hx hb d hl hn hl0 (fun ls hl => k H locs ls hP hD hS hl)
theorem z_astore_n (C : zC X g nL cc own Ts rm) {i : Nat} {kk : Fin 4} {x : Nat} {lv' : List (Nat × Value)} (d : decode cc pc = .ok (.astore_n kk, 1)) (hi : (kk : Nat) = i) (hn : i < nL) (hl0 : (i, Value.ref x) :: lv.filter (fun q => !(q.1 == i) && !(q.1 + 1 == i && q.2.category == 2)) = lv') (k : zV X g nL cells slots (pc + 1) lv' st ws) : zV X g nL cells slots pc lv (.ref x :: st) ws := by
  obtain ⟨p, l, e, R, s, m, args, below, meth, c, A, Q⟩ := X
  obtain ⟨hx, hb, hml, hown, hts, hK, hA, hR, hE, hlk⟩ := C
  subst hR
  intro H locs ls hP hD hS hl
  exact lv_astore_n hx hb d hi hl hn hl0 (fun ls hl => k H locs ls hP hD hS hl)
theorem z_astore (C : zC X g nL cc own Ts rm) {i : Nat} {x : Nat} {lv' : List (Nat × Value)} (d : decode cc pc = .ok (.astore i, 2)) (hn : i < nL) (hl0 : (i, Value.ref x) :: lv.filter (fun q => !(q.1 == i) && !(q.1 + 1 == i && q.2.category == 2)) = lv') (k : zV X g nL cells slots (pc + 2) lv' st ws) : zV X g nL cells slots pc lv (.ref x :: st) ws := by
  obtain ⟨p, l, e, R, s, m, args, below, meth, c, A, Q⟩ := X
  obtain ⟨hx, hb, hml, hown, hts, hK, hA, hR, hE, hlk⟩ := C
  subst hR
  intro H locs ls hP hD hS hl
  exact lv_astore hx hb d hl hn hl0 (fun ls hl => k H locs ls hP hD hS hl)
theorem z_iinc (C : zC X g nL cc own Ts rm) {i : Nat} {n : Int} {x v : Int32} {lv' : List (Nat × Value)} (d : decode cc pc = .ok (.iinc i n, 3)) (j : Nat) (hj : lv[j]? = some (i, .int x)) (hv : x + Int32.ofInt n = v) (hn : i < nL) (hl0 : (i, Value.int v) :: lv.filter (fun q => !(q.1 == i) && !(q.1 + 1 == i && q.2.category == 2)) = lv') (k : zV X g nL cells slots (pc + 3) lv' st ws) : zV X g nL cells slots pc lv st ws := by
  obtain ⟨p, l, e, R, s, m, args, below, meth, c, A, Q⟩ := X
  obtain ⟨hx, hb, hml, hown, hts, hK, hA, hR, hE, hlk⟩ := C
  subst hR
  intro H locs ls hP hD hS hl
  exact lv_iinc hx hb d hl hj hv hn hl0 (fun ls hl => k H locs ls hP hD hS hl)
/-- the locals' list anew, by places -/
theorem z_lv {lv' : List (Nat × Value)} (ks : List Nat) (hp : lv_pick lv ks = lv') (k : zV X g nL cells slots pc lv' st ws) : zV X g nL cells slots pc lv st ws := by
  obtain ⟨p, l, e, R, s, m, args, below, meth, c, A, Q⟩ := X
  intro H locs ls hP hD hS hl
  exact k H locs ls hP hD hS (lv_sub hl ks hp)
/-- the world's list anew, by places -/
theorem z_ws {ws' : va_W} (is : List Nat) (hn : va_nd is = true) (hp : is.map (fun i => ws[i]?) = ws'.map some) (hp2 : is.filterMap (fun i => ws[i]?) = ws') (k : zV X g nL cells slots pc lv st ws') : zV X g nL cells slots pc lv st ws := by
  obtain ⟨p, l, e, R, s, m, args, below, meth, c, A, Q⟩ := X
  intro H locs ls hP hD hS hl
  exact k H locs ls (hP.sub is hp2) (hD.sub is hn hp) hS hl
theorem z_eqv {st' : List Value} {ws' : va_W} (h1 : st = st') (h2 : ws = ws') (k : zV X g nL cells slots pc lv st' ws') : zV X g nL cells slots pc lv st ws := by rw [h1, h2]; exact k
theorem z_dup (C : zC X g nL cc own Ts rm) {va : Value} (d : decode cc pc = .ok (.dup, 1)) (hva : va.category = 1) (k : zV X g nL cells slots (pc + 1) lv (va :: va :: st) ws) : zV X g nL cells slots pc lv (va :: st) ws := by
  obtain ⟨p, l, e, R, s, m, args, below, meth, c, A, Q⟩ := X
  obtain ⟨hx, hb, hml, hown, hts, hK, hA, hR, hE, hlk⟩ := C
  subst hR
  intro H locs ls hP hD hS hl
  exact lv_dup hx hb d hva (k H locs ls hP hD hS hl)
theorem z_pop (C : zC X g nL cc own Ts rm) {va : Value} (d : decode cc pc = .ok (.pop, 1)) (hva : va.category = 1) (k : zV X g nL cells slots (pc + 1) lv (st) ws) : zV X g nL cells slots pc lv (va :: st) ws := by
  obtain ⟨p, l, e, R, s, m, args, below, meth, c, A, Q⟩ := X
  obtain ⟨hx, hb, hml, hown, hts, hK, hA, hR, hE, hlk⟩ := C
  subst hR
  intro H locs ls hP hD hS hl
  exact lv_pop hx hb d hva (k H locs ls hP hD hS hl)
theorem z_iadd (C : zC X g nL cc own Ts rm) {x y : Int32} (d : decode cc pc = .ok (.iadd, 1))  (k : zV X g nL cells slots (pc + 1) lv (.int (x + y) :: st) ws) : zV X g nL cells slots pc lv (.int y :: .int x :: st) ws := by
  obtain ⟨p, l, e, R, s, m, args, below, meth, c, A, Q⟩ := X
  obtain ⟨hx, hb, hml, hown, hts, hK, hA, hR, hE, hlk⟩ := C
  subst hR
  intro H locs ls hP hD hS hl
  exact lv_iadd hx hb d  (k H locs ls hP hD hS hl)
theorem z_isub (C : zC X g nL cc own Ts rm) {x y : Int32} (d : decode cc pc = .ok (.isub, 1))  (k : zV X g nL cells slots (pc + 1) lv (.int (x - y) :: st) ws) : zV X g nL cells slots pc lv (.int y :: .int x :: st) ws := by
  obtain ⟨p, l, e, R, s, m, args, below, meth, c, A, Q⟩ := X
  obtain ⟨hx, hb, hml, hown, hts, hK, hA, hR, hE, hlk⟩ := C
  subst hR
  intro H locs ls hP hD hS hl
  exact lv_isub hx hb d  (k H locs ls hP hD hS hl)
theorem z_imul (C : zC X g nL cc own Ts rm) {x y : Int32} (d : decode cc pc = .ok (.imul, 1))  (k : zV X g nL cells slots (pc + 1) lv (.int (x * y) :: st) ws) : zV X g nL cells slots pc lv (.int y :: .int x :: st) ws := by
  obtain ⟨p, l, e, R, s, m, args, below, meth, c, A, Q⟩ := X
  obtain ⟨hx, hb, hml, hown, hts, hK, hA, hR, hE, hlk⟩ := C
  subst hR
  intro H locs ls hP hD hS hl
  exact lv_imul hx hb d  (k H locs ls hP hD hS hl)
theorem z_iand (C : zC X g nL cc own Ts rm) {x y : Int32} (d : decode cc pc = .ok (.iand, 1))  (k : zV X g nL cells slots (pc + 1) lv (.int (x &&& y) :: st) ws) : zV X g nL cells slots pc lv (.int y :: .int x :: st) ws := by
  obtain ⟨p, l, e, R, s, m, args, below, meth, c, A, Q⟩ := X
  obtain ⟨hx, hb, hml, hown, hts, hK, hA, hR, hE, hlk⟩ := C
  subst hR
  intro H locs ls hP hD hS hl
  exact lv_iand hx hb d  (k H locs ls hP hD hS hl)
theorem z_ior (C : zC X g nL cc own Ts rm) {x y : Int32} (d : decode cc pc = .ok (.ior, 1))  (k : zV X g nL cells slots (pc + 1) lv (.int (x ||| y) :: st) ws) : zV X g nL cells slots pc lv (.int y :: .int x :: st) ws := by
  obtain ⟨p, l, e, R, s, m, args, below, meth, c, A, Q⟩ := X
  obtain ⟨hx, hb, hml, hown, hts, hK, hA, hR, hE, hlk⟩ := C
  subst hR
  intro H locs ls hP hD hS hl
  exact lv_ior hx hb d  (k H locs ls hP hD hS hl)
theorem z_ixor (C : zC X g nL cc own Ts rm) {x y : Int32} (d : decode cc pc = .ok (.ixor, 1))  (k : zV X g nL cells slots (pc + 1) lv (.int (x ^^^ y) :: st) ws) : zV X g nL cells slots pc lv (.int y :: .int x :: st) ws := by
  obtain ⟨p, l, e, R, s, m, args, below, meth, c, A, Q⟩ := X
  obtain ⟨hx, hb, hml, hown, hts, hK, hA, hR, hE, hlk⟩ := C
  subst hR
  intro H locs ls hP hD hS hl
  exact lv_ixor hx hb d  (k H locs ls hP hD hS hl)
theorem z_ishl (C : zC X g nL cc own Ts rm) {x y : Int32} (d : decode cc pc = .ok (.ishl, 1))  (k : zV X g nL cells slots (pc + 1) lv (.int (x <<< (y &&& 31)) :: st) ws) : zV X g nL cells slots pc lv (.int y :: .int x :: st) ws := by
  obtain ⟨p, l, e, R, s, m, args, below, meth, c, A, Q⟩ := X
  obtain ⟨hx, hb, hml, hown, hts, hK, hA, hR, hE, hlk⟩ := C
  subst hR
  intro H locs ls hP hD hS hl
  exact lv_ishl hx hb d  (k H locs ls hP hD hS hl)
theorem z_ishr (C : zC X g nL cc own Ts rm) {x y : Int32} (d : decode cc pc = .ok (.ishr, 1))  (k : zV X g nL cells slots (pc + 1) lv (.int (x >>> (y &&& 31)) :: st) ws) : zV X g nL cells slots pc lv (.int y :: .int x :: st) ws := by
  obtain ⟨p, l, e, R, s, m, args, below, meth, c, A, Q⟩ := X
  obtain ⟨hx, hb, hml, hown, hts, hK, hA, hR, hE, hlk⟩ := C
  subst hR
  intro H locs ls hP hD hS hl
  exact lv_ishr hx hb d  (k H locs ls hP hD hS hl)
def zUshr (x y : Int32) : Int32 := (x.toUInt32 >>> (y.toUInt32 &&& Int32.toUInt32 31)).toInt32
theorem z_iushr (C : zC X g nL cc own Ts rm) {x y : Int32} (d : decode cc pc = .ok (.iushr, 1))  (k : zV X g nL cells slots (pc + 1) lv (.int (zUshr x y) :: st) ws) : zV X g nL cells slots pc lv (.int y :: .int x :: st) ws := by
  obtain ⟨p, l, e, R, s, m, args, below, meth, c, A, Q⟩ := X
  obtain ⟨hx, hb, hml, hown, hts, hK, hA, hR, hE, hlk⟩ := C
  subst hR
  intro H locs ls hP hD hS hl
  exact lv_iushr hx hb d rfl (k H locs ls hP hD hS hl)
def zMod (x y : Int32) : Int32 := x - x / y * y
theorem z_idiv (C : zC X g nL cc own Ts rm) {x y : Int32} (d : decode cc pc = .ok (.idiv, 1)) (hne : ¬ y = 0) (k : zV X g nL cells slots (pc + 1) lv (.int (x / y) :: st) ws) : zV X g nL cells slots pc lv (.int y :: .int x :: st) ws := by
  obtain ⟨p, l, e, R, s, m, args, below, meth, c, A, Q⟩ := X
  obtain ⟨hx, hb, hml, hown, hts, hK, hA, hR, hE, hlk⟩ := C
  subst hR
  intro H locs ls hP hD hS hl
  exact lv_idiv hx hb d hne (k H locs ls hP hD hS hl)
theorem z_irem (C : zC X g nL cc own Ts rm) {x y : Int32} (d : decode cc pc = .ok (.irem, 1)) (hne : ¬ y = 0) (k : zV X g nL cells slots (pc + 1) lv (.int (zMod x y) :: st) ws) : zV X g nL cells slots pc lv (.int y :: .int x :: st) ws := by
  obtain ⟨p, l, e, R, s, m, args, below, meth, c, A, Q⟩ := X
  obtain ⟨hx, hb, hml, hown, hts, hK, hA, hR, hE, hlk⟩ := C
  subst hR
  intro H locs ls hP hD hS hl
  exact lv_irem hx hb d hne (k H locs ls hP hD hS hl)
theorem z_i2b (C : zC X g nL cc own Ts rm) {x : Int32} (d : decode cc pc = .ok (.i2b, 1))  (k : zV X g nL cells slots (pc + 1) lv (.int x.toInt8.toInt32 :: st) ws) : zV X g nL cells slots pc lv (.int x :: st) ws := by
  obtain ⟨p, l, e, R, s, m, args, below, meth, c, A, Q⟩ := X
  obtain ⟨hx, hb, hml, hown, hts, hK, hA, hR, hE, hlk⟩ := C
  subst hR
  intro H locs ls hP hD hS hl
  exact lv_i2b hx hb d rfl (k H locs ls hP hD hS hl)
theorem z_i2l (C : zC X g nL cc own Ts rm) {x : Int32} (d : decode cc pc = .ok (.i2l, 1))  (k : zV X g nL cells slots (pc + 1) lv (.long x.toInt64 :: st) ws) : zV X g nL cells slots pc lv (.int x :: st) ws := by
  obtain ⟨p, l, e, R, s, m, args, below, meth, c, A, Q⟩ := X
  obtain ⟨hx, hb, hml, hown, hts, hK, hA, hR, hE, hlk⟩ := C
  subst hR
  intro H locs ls hP hD hS hl
  exact lv_i2l hx hb d rfl (k H locs ls hP hD hS hl)
theorem z_goto (C : zC X g nL cc own Ts rm) {off : Int} {tgt : Nat} (d : decode cc pc = .ok (.goto off, 3)) (ht : (pc : Int) + off = (tgt : Int)) (k : zV X g nL cells slots tgt lv st ws) : zV X g nL cells slots pc lv st ws := by
  obtain ⟨p, l, e, R, s, m, args, below, meth, c, A, Q⟩ := X
  obtain ⟨hx, hb, hml, hown, hts, hK, hA, hR, hE, hlk⟩ := C
  subst hR
  intro H locs ls hP hD hS hl
  exact lv_goto hx hb d ht (k H locs ls hP hD hS hl)
theorem z_icmp_eq (C : zC X g nL cc own Ts rm) {x y : Int32} {off : Int} {tgt : Nat} (d : decode cc pc = .ok (.if_icmp .eq off, 3)) (ht : (pc : Int) + off = (tgt : Int)) (kt : x = y → zV X g nL cells slots tgt lv st ws) (kf : ¬ x = y → zV X g nL cells slots (pc + 3) lv st ws) : zV X g nL cells slots pc lv (.int y :: .int x :: st) ws := by
  obtain ⟨p, l, e, R, s, m, args, below, meth, c, A, Q⟩ := X
  obtain ⟨hx, hb, hml, hown, hts, hK, hA, hR, hE, hlk⟩ := C
  subst hR
  intro H locs ls hP hD hS hl
  exact lv_icmp_eq hx hb d ht (fun q => kt q H locs ls hP hD hS hl) (fun q => kf q H locs ls hP hD hS hl)
theorem z_if_eq (C : zC X g nL cc own Ts rm) {x : Int32} {off : Int} {tgt : Nat} (d : decode cc pc = .ok (.ifCond .eq off, 3)) (ht : (pc : Int) + off = (tgt : Int)) (kt : x = 0 → zV X g nL cells slots tgt lv st ws) (kf : ¬ x = 0 → zV X g nL cells slots (pc + 3) lv st ws) : zV X g nL cells slots pc lv (.int x :: st) ws := by
  obtain ⟨p, l, e, R, s, m, args, below, meth, c, A, Q⟩ := X
  obtain ⟨hx, hb, hml, hown, hts, hK, hA, hR, hE, hlk⟩ := C
  subst hR
  intro H locs ls hP hD hS hl
  exact lv_if_eq hx hb d ht (fun q => kt q H locs ls hP hD hS hl) (fun q => kf q H locs ls hP hD hS hl)
theorem z_icmp_ne (C : zC X g nL cc own Ts rm) {x y : Int32} {off : Int} {tgt : Nat} (d : decode cc pc = .ok (.if_icmp .ne off, 3)) (ht : (pc : Int) + off = (tgt : Int)) (kt : ¬ x = y → zV X g nL cells slots tgt lv st ws) (kf : x = y → zV X g nL cells slots (pc + 3) lv st ws) : zV X g nL cells slots pc lv (.int y :: .int x :: st) ws := by
  obtain ⟨p, l, e, R, s, m, args, below, meth, c, A, Q⟩ := X
  obtain ⟨hx, hb, hml, hown, hts, hK, hA, hR, hE, hlk⟩ := C
  subst hR
  intro H locs ls hP hD hS hl
  exact lv_icmp_ne hx hb d ht (fun q => kt q H locs ls hP hD hS hl) (fun q => kf q H locs ls hP hD hS hl)
theorem z_if_ne (C : zC X g nL cc own Ts rm) {x : Int32} {off : Int} {tgt : Nat} (d : decode cc pc = .ok (.ifCond .ne off, 3)) (ht : (pc : Int) + off = (tgt : Int)) (kt : ¬ x = 0 → zV X g nL cells slots tgt lv st ws) (kf : x = 0 → zV X g nL cells slots (pc + 3) lv st ws) : zV X g nL cells slots pc lv (.int x :: st) ws := by
  obtain ⟨p, l, e, R, s, m, args, below, meth, c, A, Q⟩ := X
  obtain ⟨hx, hb, hml, hown, hts, hK, hA, hR, hE, hlk⟩ := C
  subst hR
  intro H locs ls hP hD hS hl
  exact lv_if_ne hx hb d ht (fun q => kt q H locs ls hP hD hS hl) (fun q => kf q H locs ls hP hD hS hl)
theorem z_icmp_lt (C : zC X g nL cc own Ts rm) {x y : Int32} {off : Int} {tgt : Nat} (d : decode cc pc = .ok (.if_icmp .lt off, 3)) (ht : (pc : Int) + off = (tgt : Int)) (kt : x < y → zV X g nL cells slots tgt lv st ws) (kf : ¬ x < y → zV X g nL cells slots (pc + 3) lv st ws) : zV X g nL cells slots pc lv (.int y :: .int x :: st) ws := by
  obtain ⟨p, l, e, R, s, m, args, below, meth, c, A, Q⟩ := X
  obtain ⟨hx, hb, hml, hown, hts, hK, hA, hR, hE, hlk⟩ := C
  subst hR
  intro H locs ls hP hD hS hl
  exact lv_icmp_lt hx hb d ht (fun q => kt q H locs ls hP hD hS hl) (fun q => kf q H locs ls hP hD hS hl)
theorem z_if_lt (C : zC X g nL cc own Ts rm) {x : Int32} {off : Int} {tgt : Nat} (d : decode cc pc = .ok (.ifCond .lt off, 3)) (ht : (pc : Int) + off = (tgt : Int)) (kt : x < 0 → zV X g nL cells slots tgt lv st ws) (kf : ¬ x < 0 → zV X g nL cells slots (pc + 3) lv st ws) : zV X g nL cells slots pc lv (.int x :: st) ws := by
  obtain ⟨p, l, e, R, s, m, args, below, meth, c, A, Q⟩ := X
  obtain ⟨hx, hb, hml, hown, hts, hK, hA, hR, hE, hlk⟩ := C
  subst hR
  intro H locs ls hP hD hS hl
  exact lv_if_lt hx hb d ht (fun q => kt q H locs ls hP hD hS hl) (fun q => kf q H locs ls hP hD hS hl)
theorem z_icmp_ge (C : zC X g nL cc own Ts rm) {x y : Int32} {off : Int} {tgt : Nat} (d : decode cc pc = .ok (.if_icmp .ge off, 3)) (ht : (pc : Int) + off = (tgt : Int)) (kt : y ≤ x → zV X g nL cells slots tgt lv st ws) (kf : ¬ y ≤ x → zV X g nL cells slots (pc + 3) lv st ws) : zV X g nL cells slots pc lv (.int y :: .int x :: st) ws := by
  obtain ⟨p, l, e, R, s, m, args, below, meth, c, A, Q⟩ := X
  obtain ⟨hx, hb, hml, hown, hts, hK, hA, hR, hE, hlk⟩ := C
  subst hR
  intro H locs ls hP hD hS hl
  exact lv_icmp_ge hx hb d ht (fun q => kt q H locs ls hP hD hS hl) (fun q => kf q H locs ls hP hD hS hl)
theorem z_if_ge (C : zC X g nL cc own Ts rm) {x : Int32} {off : Int} {tgt : Nat} (d : decode cc pc = .ok (.ifCond .ge off, 3)) (ht : (pc : Int) + off = (tgt : Int)) (kt : 0 ≤ x → zV X g nL cells slots tgt lv st ws) (kf : ¬ 0 ≤ x → zV X g nL cells slots (pc + 3) lv st ws) : zV X g nL cells slots pc lv (.int x :: st) ws := by
  obtain ⟨p, l, e, R, s, m, args, below, meth, c, A, Q⟩ := X
  obtain ⟨hx, hb, hml, hown, hts, hK, hA, hR, hE, hlk⟩ := C
  subst hR
  intro H locs ls hP hD hS hl
  exact lv_if_ge hx hb d ht (fun q => kt q H locs ls hP hD hS hl) (fun q => kf q H locs ls hP hD hS hl)
theorem z_icmp_gt (C : zC X g nL cc own Ts rm) {x y : Int32} {off : Int} {tgt : Nat} (d : decode cc pc = .ok (.if_icmp .gt off, 3)) (ht : (pc : Int) + off = (tgt : Int)) (kt : y < x → zV X g nL cells slots tgt lv st ws) (kf : ¬ y < x → zV X g nL cells slots (pc + 3) lv st ws) : zV X g nL cells slots pc lv (.int y :: .int x :: st) ws := by
  obtain ⟨p, l, e, R, s, m, args, below, meth, c, A, Q⟩ := X
  obtain ⟨hx, hb, hml, hown, hts, hK, hA, hR, hE, hlk⟩ := C
  subst hR
  intro H locs ls hP hD hS hl
  exact lv_icmp_gt hx hb d ht (fun q => kt q H locs ls hP hD hS hl) (fun q => kf q H locs ls hP hD hS hl)
theorem z_if_gt (C : zC X g nL cc own Ts rm) {x : Int32} {off : Int} {tgt : Nat} (d : decode cc pc = .ok (.ifCond .gt off, 3)) (ht : (pc : Int) + off = (tgt : Int)) (kt : 0 < x → zV X g nL cells slots tgt lv st ws) (kf : ¬ 0 < x → zV X g nL cells slots (pc + 3) lv st ws) : zV X g nL cells slots pc lv (.int x :: st) ws := by
  obtain ⟨p, l, e, R, s, m, args, below, meth, c, A, Q⟩ := X
  obtain ⟨hx, hb, hml, hown, hts, hK, hA, hR, hE, hlk⟩ := C
  subst hR
  intro H locs ls hP hD hS hl
  exact lv_if_gt hx hb d ht (fun q => kt q H locs ls hP hD hS hl) (fun q => kf q H locs ls hP hD hS hl)
theorem z_icmp_le (C : zC X g nL cc own Ts rm) {x y : Int32} {off : Int} {tgt : Nat} (d : decode cc pc = .ok (.if_icmp .le off, 3)) (ht : (pc : Int) + off = (tgt : Int)) (kt : x ≤ y → zV X g nL cells slots tgt lv st ws) (kf : ¬ x ≤ y → zV X g nL cells slots (pc + 3) lv st ws) : zV X g nL cells slots pc lv (.int y :: .int x :: st) ws := by
  obtain ⟨p, l, e, R, s, m, args, below, meth, c, A, Q⟩ := X
  obtain ⟨hx, hb, hml, hown, hts, hK, hA, hR, hE, hlk⟩ := C
  subst hR
  intro H locs ls hP hD hS hl
  exact lv_icmp_le hx hb d ht (fun q => kt q H locs ls hP hD hS hl) (fun q => kf q H locs ls hP hD hS hl)
theorem z_if_le (C : zC X g nL cc own Ts rm) {x : Int32} {off : Int} {tgt : Nat} (d : decode cc pc = .ok (.ifCond .le off, 3)) (ht : (pc : Int) + off = (tgt : Int)) (kt : x ≤ 0 → zV X g nL cells slots tgt lv st ws) (kf : ¬ x ≤ 0 → zV X g nL cells slots (pc + 3) lv st ws) : zV X g nL cells slots pc lv (.int x :: st) ws := by
  obtain ⟨p, l, e, R, s, m, args, below, meth, c, A, Q⟩ := X
  obtain ⟨hx, hb, hml, hown, hts, hK, hA, hR, hE, hlk⟩ := C
  subst hR
  intro H locs ls hP hD hS hl
  exact lv_if_le hx hb d ht (fun q => kt q H locs ls hP hD hS hl) (fun q => kf q H locs ls hP hD hS hl)
theorem z_tableIn (C : zC X g nL cc own Ts rm) {dflt lo hi : Int} {offs : Array Int} {len : Nat} {x : Int32} {off : Int} {tgt : Nat} (d : decode cc pc = .ok (.tableswitch dflt lo hi offs, len)) (h1 : ¬ x.toInt < lo) (h2 : ¬ hi < x.toInt) (ho : offs[(x.toInt - lo).toNat]? = some off) (ht : (pc : Int) + off = (tgt : Int)) (k : zV X g nL cells slots tgt lv st ws) : zV X g nL cells slots pc lv (.int x :: st) ws := by
  obtain ⟨p, l, e, R, s, m, args, below, meth, c, A, Q⟩ := X
  obtain ⟨hx, hb, hml, hown, hts, hK, hA, hR, hE, hlk⟩ := C
  subst hR
  intro H locs ls hP hD hS hl
  exact lv_tableIn hx hb d h1 h2 ho ht (k H locs ls hP hD hS hl)
theorem z_tableOut (C : zC X g nL cc own Ts rm) {dflt lo hi : Int} {offs : Array Int} {len : Nat} {x : Int32} {tgt : Nat} (d : decode cc pc = .ok (.tableswitch dflt lo hi offs, len)) (h : x.toInt < lo ∨ hi < x.toInt) (ht : (pc : Int) + dflt = (tgt : Int)) (k : zV X g nL cells slots tgt lv st ws) : zV X g nL cells slots pc lv (.int x :: st) ws := by
  obtain ⟨p, l, e, R, s, m, args, below, meth, c, A, Q⟩ := X
  obtain ⟨hx, hb, hml, hown, hts, hK, hA, hR, hE, hlk⟩ := C
  subst hR
  intro H locs ls hP hD hS hl
  exact lv_tableOut hx hb d h ht (k H locs ls hP hD hS hl)
theorem z_get (C : zC X g nL cc own Ts rm) {ref Cn : String} {T : u_T} {N ci index a : Nat} {fs : List Value} {v : Value} (d : decode cc pc = .ok (.getfield index, 3)) (hin : ∀ w ∈ u_ws Cn T N, w ∈ Ts) (q0 : Nat) (he : ws[q0]? = some (a, .inr (ci, fs))) (hc : vwCl[ci]? = some (Cn, T, N)) (k : Nat) (hk : k < N) (hlink : .fieldLink own index ref (T k).2.1 (T k).2.2.1 ∈ Ts) (href : (T k).1 = ref) (hv : fs[k]? = some v) (kk : zV X g nL cells slots (pc + 3) lv (v :: st) ws) : zV X g nL cells slots pc lv (.ref a :: st) ws := by
  obtain ⟨p, l, e, R, s, m, args, below, meth, c, A, Q⟩ := X
  obtain ⟨hx, hb, hml, hown, hts, hK, hA, hR, hE, hlk⟩ := C
  subst hR
  intro H locs ls hP hD hS hl
  exact va_get hx hb hts hin hown hK hP q0 he hc k hk (hts _ hlink) (fun _ h9 => href ▸ h9) hv d (kk H locs ls hP hD hS hl)
theorem z_put (C : zC X g nL cc own Ts rm) {ref Cn : String} {T : u_T} {N ci index a : Nat} {fs : List Value} {v : Value} {ty : FieldType} {ws' : va_W} (d : decode cc pc = .ok (.putfield index, 3)) (hin : ∀ w ∈ u_ws Cn T N, w ∈ Ts) (ty0 : Nat → FieldType) (hty : ∀ k, k < N → parseFieldDescriptor (T k).2.2.1 = some (ty0 k)) (hnm : ∀ a, a < N → ∀ b, b < N → a ≠ b → (T a).2.1 ≠ (T b).2.1) (q0 : Nat) (he : ws[q0]? = some (a, .inr (ci, fs))) (hc : vwCl[ci]? = some (Cn, T, N)) (k : Nat) (hk : k < N) (hlink : .fieldLink own index ref (T k).2.1 (T k).2.2.1 ∈ Ts) (href : (T k).1 = ref) (hfin : (T k).2.2.2 = false) (hd : parseFieldDescriptor (T k).2.2.1 = some ty) (hn : narrow ty v = v) (hfit : fits ty v = true) (hlen : k < fs.length) (hw : ws.set q0 (a, .inr (ci, fs.set k v)) = ws') (kk : zV X g nL cells slots (pc + 3) lv st ws') : zV X g nL cells slots pc lv (v :: .ref a :: st) ws := by
  obtain ⟨p, l, e, R, s, m, args, below, meth, c, A, Q⟩ := X
  obtain ⟨hx, hb, hml, hown, hts, hK, hA, hR, hE, hlk⟩ := C
  subst hR
  intro H locs ls hP hD hS hl
  subst hw; exact va_put hx hb hts hin ty0 hty hnm hown hK hP hD hS q0 he hc k hk (hts _ hlink) (fun _ h9 => href ▸ h9) hfin hd hn hfit hlen d (fun H locs hP hD hS => kk H locs ls hP hD hS hl)
theorem z_iald (C : zC X g nL cc own Ts rm) {a n : Nat} {f : Nat → Int32} {i : Int32} (d : decode cc pc = .ok (.iaload, 1)) (q0 : Nat) (he : ws[q0]? = some (a, .inl (g.2.2.1, n, .inl f))) (hin : vp_in i n) (kk : zV X g nL cells slots (pc + 1) lv (.int (f i.toNatClampNeg) :: st) ws) : zV X g nL cells slots pc lv (.int i :: .ref a :: st) ws := by
  obtain ⟨p, l, e, R, s, m, args, below, meth, c, A, Q⟩ := X
  obtain ⟨hx, hb, hml, hown, hts, hK, hA, hR, hE, hlk⟩ := C
  subst hR
  intro H locs ls hP hD hS hl
  exact va_iald hx hb hK hP q0 1 he rfl hin d (kk H locs ls hP hD hS hl)
theorem z_bald (C : zC X g nL cc own Ts rm) {a n : Nat} {f : Nat → Int32} {i : Int32} (d : decode cc pc = .ok (.baload, 1)) (q0 : Nat) (he : ws[q0]? = some (a, .inl (g.2.1, n, .inl f))) (hin : vp_in i n) (kk : zV X g nL cells slots (pc + 1) lv (.int (f i.toNatClampNeg) :: st) ws) : zV X g nL cells slots pc lv (.int i :: .ref a :: st) ws := by
  obtain ⟨p, l, e, R, s, m, args, below, meth, c, A, Q⟩ := X
  obtain ⟨hx, hb, hml, hown, hts, hK, hA, hR, hE, hlk⟩ := C
  subst hR
  intro H locs ls hP hD hS hl
  exact va_bald hx hb hK hP q0 0 he rfl hin d (kk H locs ls hP hD hS hl)
theorem z_iast (C : zC X g nL cc own Ts rm) {a n : Nat} {f : Nat → Int32} {i x : Int32} {ws' : va_W} (d : decode cc pc = .ok (.iastore, 1)) (q0 : Nat) (he : ws[q0]? = some (a, .inl (g.2.2.1, n, .inl f))) (hin : vp_in i n) (hw : ws.set q0 (a, .inl (g.2.2.1, n, .inl (upd f i.toNatClampNeg (x)))) = ws') (kk : zV X g nL cells slots (pc + 1) lv st ws') : zV X g nL cells slots pc lv (.int x :: .int i :: .ref a :: st) ws := by
  obtain ⟨p, l, e, R, s, m, args, below, meth, c, A, Q⟩ := X
  obtain ⟨hx, hb, hml, hown, hts, hK, hA, hR, hE, hlk⟩ := C
  subst hR
  intro H locs ls hP hD hS hl
  subst hw; exact va_iast hx hb hK hP hD hS q0 1 he rfl hin d (fun H locs hP hD hS => kk H locs ls hP hD hS hl)
theorem z_bast (C : zC X g nL cc own Ts rm) {a n : Nat} {f : Nat → Int32} {i x : Int32} {ws' : va_W} (d : decode cc pc = .ok (.bastore, 1)) (q0 : Nat) (he : ws[q0]? = some (a, .inl (g.2.1, n, .inl f))) (hin : vp_in i n) (hw : ws.set q0 (a, .inl (g.2.1, n, .inl (upd f i.toNatClampNeg (vp_nar .byte x)))) = ws') (kk : zV X g nL cells slots (pc + 1) lv st ws') : zV X g nL cells slots pc lv (.int x :: .int i :: .ref a :: st) ws := by
  obtain ⟨p, l, e, R, s, m, args, below, meth, c, A, Q⟩ := X
  obtain ⟨hx, hb, hml, hown, hts, hK, hA, hR, hE, hlk⟩ := C
  subst hR
  intro H locs ls hP hD hS hl
  subst hw; exact va_bast hx hb hK hP hD hS q0 0 he rfl hin d (fun H locs hP hD hS => kk H locs ls hP hD hS hl)
theorem z_alenB (C : zC X g nL cc own Ts rm) {a n : Nat} {f : Nat → Int32} (d : decode cc pc = .ok (.arraylength, 1)) (q0 : Nat) (he : ws[q0]? = some (a, .inl (g.2.1, n, .inl f))) (kk : zV X g nL cells slots (pc + 1) lv (.int (nI n) :: st) ws) : zV X g nL cells slots pc lv (.ref a :: st) ws := by
  obtain ⟨p, l, e, R, s, m, args, below, meth, c, A, Q⟩ := X
  obtain ⟨hx, hb, hml, hown, hts, hK, hA, hR, hE, hlk⟩ := C
  subst hR
  intro H locs ls hP hD hS hl
  exact va_alen hx hb hK hP q0 0 he (ty := .byte) rfl rfl d (kk H locs ls hP hD hS hl)
theorem z_rem (C : zC X g nL cc own Ts rm) {index : Nat} (d : decode cc pc = .ok (.getstatic index, 3)) (hlink : .fieldLink own index "FragmentLog$Sum" "REMAINDERS" "[I" ∈ Ts) (kk : ∀ t : Nat, (∀ (pc2 : Nat) (st2 : List Value) (lv2 : List (Nat × Value)) (ws2 : va_W) (i : Int32), decode cc pc2 = .ok (.iaload, 1) → vp_in i 16 → zV X g nL cells slots (pc2 + 1) lv2 (.int (zRem i.toNatClampNeg) :: st2) ws2 → zV X g nL cells slots pc2 lv2 (.int i :: .ref t :: st2) ws2) → zV X g nL cells slots (pc + 3) lv (.ref t :: st) ws) : zV X g nL cells slots pc lv st ws := by
  obtain ⟨p, l, e, R, s, m, args, below, meth, c, A, Q⟩ := X
  obtain ⟨hx, hb, hml, hown, hts, hK, hA, hR, hE, hlk⟩ := C
  subst hR
  intro H locs ls hP hD hS hl
  obtain ⟨t, hZ, hT⟩ := hE
  refine va_gets hx hb hZ hS hown (hts _ hlink) (fun _ h9 => h9) d (kk t ?_ H locs ls hP hD hS hl)
  intro pc2 st2 lv2 ws2 i d2 hi k2 H locs ls hP hD hS hl
  exact va_ti hx hb hT hS hi rfl d2 (k2 H locs ls hP hD hS hl)
def zMin (x y : Int32) : Int32 := if y < x then y else x
theorem z_min (C : zC X g nL cc own Ts rm) {index : Nat} {x y : Int32} (d : decode cc pc = .ok (.invokestatic index, 3)) (h1 : .methodLink own index Lib.Math.min.name ∈ Ts) (h2 : .static Lib.Math.min.name ∈ Ts) (h3 : .initialized "java/lang/Math" ∈ Ts) (h4 : .code Lib.Math.min.name Lib.Math.min.code 2 (some .int) ∈ Ts) (hf : 1 ≤ rm.frames) (hlo : (st.map fun v => v.category).sum + 13 ≤ rm.locals) (hc : cells ≤ rm.cells) (hs : slots ≤ rm.slots) (kk : zV X g nL cells slots (pc + 3) lv (.int (zMin x y) :: st) ws) : zV X g nL cells slots pc lv (.int y :: .int x :: st) ws := by
  obtain ⟨p, l, e, R, s, m, args, below, meth, c, A, Q⟩ := X
  obtain ⟨hx, hb, hml, hown, hts, hK, hA, hR, hE, hlk⟩ := C
  subst hR
  intro H locs ls hP hD hS hl
  exact va_mmin hx hb (by rw [hml, hl.1]) hown (hts _ h1) (hts _ h2) (hts _ h3) (hts _ h4) hf hlo hc hs d (kk H locs ls hP hD hS hl)
end
/-! contracts: the answer and the cells are functions of what was there -/
def zPre (g : zG) (av : List Value) (ws : va_W) (sz : Nat) : Array Value → State → Prop := va_Pc av (fun U => U.heap.size = sz ∧ va_P g.1 vwCl ws U.heap ∧ va_K g.1 vwCl (zTys g) U ∧ va_D (fun _ => True) ws ∧ zE (va_A ws sz) U U.heap)
def zB (g : zG) (A : Nat → Prop) (u : va_W) (t : State) : Prop := va_P g.1 vwCl u t.heap ∧ va_D A u
def zMI (l : Launch) (y : MethodName) (Wd : List Cond) (rm : Room) (g : zG) (av : List Value) (ws : va_W) (rv : Int32) (ws' : va_W) : Prop :=
  ∀ sz : Nat, Met l y Wd rm (zPre g av ws sz) (va_Qi (fun r (u : va_W) => r = rv ∧ u = ws') (zB g (va_A ws sz)) (va_A ws sz)) 0 0 (va_A ws sz)
def zMV (l : Launch) (y : MethodName) (Wd : List Cond) (rm : Room) (g : zG) (av : List Value) (ws ws' : va_W) : Prop :=
  ∀ sz : Nat, Met l y Wd rm (zPre g av ws sz) (va_Qv (fun (u : va_W) => u = ws') (zB g (va_A ws sz)) (va_A ws sz)) 0 0 (va_A ws sz)
def zMR (l : Launch) (y : MethodName) (Wd : List Cond) (rm : Room) (g : zG) (av : List Value) (ws : va_W) (rv : Nat) (ws' : va_W) : Prop :=
  ∀ sz : Nat, Met l y Wd rm (zPre g av ws sz) (va_Qr (fun (u : va_W) => u = ws') (fun u a t => a = rv ∧ zB g (va_A ws sz) u t) (va_A ws sz)) 0 0 (va_A ws sz)
theorem zPre.blind {g : zG} {av : List Value} {ws : va_W} {sz : Nat} : FrameBlind (zPre g av ws sz) := fun a U g9 mk q => by
  obtain ⟨q0, q1, qP, qK, qD, qE⟩ := q
  exact ⟨q0, q1, qP, va_K.moved (u := U) (U := U.calling g9 mk a) (Vm.Alike.refl U.vm) qK, qD, zE.moved (u := U) (U := U.calling g9 mk a) (Vm.Alike.refl U.vm) qE⟩

theorem zMI_of {l : Launch} {y : MethodName} {Wd Wd' : List Cond} {rm : Room} {g : zG} {av : List Value} {ws ws' : va_W} {rv : Int32} {cc : ByteArray} {nL : Nat} {ty : FieldType} (hy : plainName y.cls = true) (hw : Wd = Cond.code y cc nL (some ty) :: Wd') (hnl : (lg_sl av).length ≤ nL) (hn : narrow ty (.int rv) = .int rv) (body : ∀ X : zX, zC X g nL cc y.cls Wd rm → (∀ (pc : Nat) (lv : List (Nat × Value)) (v : Int32) (w : va_W), decode cc pc = .ok (.ireturn, 1) → v = rv → w = ws' → zV X g nL 0 0 pc lv [.int v] w) → zV X g nL 0 0 0 (lv_args 0 av) [] ws) : zMI l y Wd rm g av ws rv ws' := by
  intro sz
  refine Met.ofW (cc := cc) (maxL := nL) (ret := some ty) hy hw ?_
  intro p e s m args below meth c s₁ B hml hv
  obtain ⟨rfl, hsz, hP, hK, hD0, hE⟩ := hv
  subst hsz
  have hS : va_S (va_A ws s.heap.size) s.heap s.heap [] := va_S.rf
  have hl := lv_entry av (n := nL) hnl
  rw [lg_entry_eq]
  have hbe : BodyLoose p l y (headSpec Wd rm) cc nL (some ty) e s m av.toArray below meth c s₁ := B
  refine body (p, l, e, (headSpec Wd rm).room, s, m, av.toArray, below, meth, c, va_A ws s.heap.size, _) ⟨B.exec, B.bytes, hml, findClass_of_methodNamed B.named, atoms_spec (ws := Wd) B.pre, hK, fun q h => Or.inr h, rfl, hE, B.notSynchronized⟩ ?_ s.heap [] _ hP (hD0.self (sz := s.heap.size)) hS hl
  intro pc lv v w d hv hw9 H locs ls hP hD hS hl
  subst hv; subst hw9
  exact W.zret B.exec B.bytes B.returns hn (fun t ht hW => ⟨⟨v, w, rfl, ⟨rfl, rfl⟩, by rw [ht]; exact hP, hD⟩, hS.F ht⟩) hS.2.2 d B.notSynchronized
theorem zMV_of {l : Launch} {y : MethodName} {Wd Wd' : List Cond} {rm : Room} {g : zG} {av : List Value} {ws ws' : va_W} {cc : ByteArray} {nL : Nat} (hy : plainName y.cls = true) (hw : Wd = Cond.code y cc nL none :: Wd') (hnl : (lg_sl av).length ≤ nL) (body : ∀ X : zX, zC X g nL cc y.cls Wd rm → (∀ (pc : Nat) (lv : List (Nat × Value)) (w : va_W), decode cc pc = .ok (.return_, 1) → w = ws' → zV X g nL 0 0 pc lv [] w) → zV X g nL 0 0 0 (lv_args 0 av) [] ws) : zMV l y Wd rm g av ws ws' := by
  intro sz
  refine Met.ofW (cc := cc) (maxL := nL) (ret := none) hy hw ?_
  intro p e s m args below meth c s₁ B hml hv
  obtain ⟨rfl, hsz, hP, hK, hD0, hE⟩ := hv
  subst hsz
  have hS : va_S (va_A ws s.heap.size) s.heap s.heap [] := va_S.rf
  have hl := lv_entry av (n := nL) hnl
  rw [lg_entry_eq]
  have hbe : BodyLoose p l y (headSpec Wd rm) cc nL none e s m av.toArray below meth c s₁ := B
  refine body (p, l, e, (headSpec Wd rm).room, s, m, av.toArray, below, meth, c, va_A ws s.heap.size, _) ⟨B.exec, B.bytes, hml, findClass_of_methodNamed B.named, atoms_spec (ws := Wd) B.pre, hK, fun q h => Or.inr h, rfl, hE, B.notSynchronized⟩ ?_ s.heap [] _ hP (hD0.self (sz := s.heap.size)) hS hl
  intro pc lv w d hw9 H locs ls hP hD hS hl
  subst hw9
  exact W.vret B.exec B.bytes B.returns (fun t ht hW => ⟨⟨w, rfl, rfl, by rw [ht]; exact hP, hD⟩, hS.F ht⟩) hS.2.2 d B.notSynchronized
theorem zMR_of {l : Launch} {y : MethodName} {Wd Wd' : List Cond} {rm : Room} {g : zG} {av : List Value} {ws ws' : va_W} {rv : Nat} {cc : ByteArray} {nL : Nat} {ty : FieldType} (hy : plainName y.cls = true) (hw : Wd = Cond.code y cc nL (some ty) :: Wd') (hnl : (lg_sl av).length ≤ nL) (hrt : (∃ n, ty = .object n) ∨ ∃ t, ty = .array t) (body : ∀ X : zX, zC X g nL cc y.cls Wd rm → (∀ (pc : Nat) (lv : List (Nat × Value)) (v : Nat) (w : va_W), decode cc pc = .ok (.areturn, 1) → v = rv → w = ws' → zV X g nL 0 0 pc lv [.ref v] w) → zV X g nL 0 0 0 (lv_args 0 av) [] ws) : zMR l y Wd rm g av ws rv ws' := by
  intro sz
  refine Met.ofW (cc := cc) (maxL := nL) (ret := some ty) hy hw ?_
  intro p e s m args below meth c s₁ B hml hv
  obtain ⟨rfl, hsz, hP, hK, hD0, hE⟩ := hv
  subst hsz
  have hS : va_S (va_A ws s.heap.size) s.heap s.heap [] := va_S.rf
  have hl := lv_entry av (n := nL) hnl
  rw [lg_entry_eq]
  have hbe : BodyLoose p l y (headSpec Wd rm) cc nL (some ty) e s m av.toArray below meth c s₁ := B
  refine body (p, l, e, (headSpec Wd rm).room, s, m, av.toArray, below, meth, c, va_A ws s.heap.size, _) ⟨B.exec, B.bytes, hml, findClass_of_methodNamed B.named, atoms_spec (ws := Wd) B.pre, hK, fun q h => Or.inr h, rfl, hE, B.notSynchronized⟩ ?_ s.heap [] _ hP (hD0.self (sz := s.heap.size)) hS hl
  intro pc lv v w d hv hw9 H locs ls hP hD hS hl
  subst hv; subst hw9
  exact W.aret B.exec B.bytes B.returns hrt (Or.inr ⟨v, rfl⟩) (fun t ht hW => ⟨⟨w, v, rfl, rfl, rfl, by rw [ht]; exact hP, hD⟩, hS.F ht⟩) hS.2.2 d B.notSynchronized
section
variable {X : zX} {g : zG} {nL : Nat} {cc : ByteArray} {own : String} {Ts : List Cond} {rm : Room} {cells slots pc : Nat} {lv : List (Nat × Value)} {ws : va_W} {index maxL n ci b : Nat} {Cn : String} {T : u_T} {N : Nat} {fs : List Value} {y : MethodName} {bytes : ByteArray} {ret : Option FieldType} {Wd Wd' : List Cond} {rc : Room} {As rest : List Value} {wc wc' wr ws2 : va_W}
/-- what a call hands over, and what comes back: the cells of the callee cut out by their places, the rest as it was -/
theorem z_pre {s U : State} {H : Heap} {A : Nat → Prop} {locs : List Loc} {av : List Value} (hK : va_K g.1 vwCl (zTys g) s) (hA : ∀ q, s.heap.size ≤ q → A q) (hE : zE A s s.heap) (hP : va_P g.1 vwCl ws H) (hD : va_D A ws) (hS : va_S A s.heap H locs) (isC : List Nat) (hnd : va_nd isC = true) (hC : isC.map (fun i => ws[i]?) = wc.map some) (hC2 : isC.filterMap (fun i => ws[i]?) = wc) (hU : U.heap = H) (hW : s.WarmedH U.vm) : zPre g av wc H.size av.toArray U := by
  have hF := va_free (wc := wc) hD hS hA isC hC
  refine ⟨rfl, by rw [hU], by rw [hU]; exact hP.sub isC hC2, va_K.moved hW.alike hK, (hD.sub isC hnd hC).weaken (fun _ _ _ _ => trivial), ?_⟩
  have h1 : zE A s H := hE.kept (fun a h1 h2 => hS.2.1 a h1 h2)
  have h2 : zE (va_A wc H.size) s H := h1.narrow hF
  rw [hU]
  exact h2.moved hW.alike
theorem z_fm {α β : Type} {f : α → Option β} {is : List α} {ws : List β} (h : is.map f = ws.map some) : is.filterMap f = ws := by
  induction is generalizing ws with
  | nil => cases ws with
    | nil => rfl
    | cons b bs => cases h
  | cons i is ih => cases ws with
    | nil => cases h
    | cons b bs =>
      simp only [List.map_cons, List.cons.injEq] at h
      rw [List.filterMap_cons_some h.1, ih h.2]
theorem z_callVi {rv : Int32} {st : List Value} (C : zC X g nL cc own Ts rm) (d : decode cc pc = .ok (.invokevirtual index, 3)) (hM : zMI (zl X) y Wd rc g (.ref b :: As) wc rv wc') (hG : GoodIn Ts (wsV own index Cn y Wd)) (hw : Wd = Cond.code y bytes maxL ret :: Wd') (hrm : rc.cells = 0 ∧ rc.slots = 0) (hd : y.cls = Cn ∧ y.cls ≠ "java/lang/invoke/MethodHandle" ∧ y.cls ≠ "java/lang/invoke/VarHandle" ∧ (parseMethodDescriptor y.desc).map (fun d => d.parameters.length) = some n) (hR : rc.frames + 1 ≤ rm.frames ∧ 8 + (maxL + 11) + rc.locals ≤ rm.locals) (hfit : cells ≤ rm.cells ∧ slots ≤ rm.slots) (hc : vwCl[ci]? = some (Cn, T, N)) (he : wc[0]? = some (b, .inr (ci, fs))) (hst : st = As.reverse ++ .ref b :: rest) (hn : As.length = n) (hcat : (rest.map fun v => v.category).sum ≤ 8) (isC isR isP : List Nat) (hC : isC.map (fun i => ws[i]?) = wc.map some) (hRr : isR.map (fun i => ws[i]?) = wr.map some) (hnd : va_nd isC = true ∧ va_nd isR = true ∧ va_nd isP = true) (hdis : ∀ i ∈ isR, i ∉ isC) (hP2 : isP.map (fun i => (wr ++ wc')[i]?) = ws2.map some) (k : zV X g nL cells slots (pc + 3) lv (.int rv :: rest) ws2) : zV X g nL cells slots pc lv st ws := by
  obtain ⟨p, l, e, R, s, m, args, below, meth, c, A, Q⟩ := X
  obtain ⟨hx, hb, hml, hown, hts, hK, hA, hR, hE, hlk⟩ := C
  subst hR
  intro H locs ls hP hD hS hl
  subst hst
  have hC2 : isC.filterMap (fun i => ws[i]?) = wc := z_fm hC
  have hFc := va_free (wc := wc) hD hS hA isC hC
  refine va_calli (va_runV (As := As) (rest := rest) ⟨hx, hb, hml, hown, hts⟩ (hM H.size) (cwV n hts hG hw hrm.1 hrm.2 hd hR) ⟨zPre.blind, va_recv hK (hP.sub isC hC2) hc he, fun U hU hW => z_pre hK hA hE hP hD hS isC hnd.1 hC hC2 hU hW⟩ rfl hn hl.1 rfl (lv_room hcat) d hfit) hS (fun q _ h => hFc q h) hFc (fun r u t H1 locs ht hvm hw9 hB hz1 hk1 hS => ?_)
  obtain ⟨rfl, rfl⟩ := hw9
  obtain ⟨hP1, hD1⟩ := hB
  rw [ht] at hP1
  obtain ⟨hP, hD⟩ := va_join (wr := wr) hP hD isC isR hC hRr hnd.2.1 hdis hk1 hFc hP1 hD1
  exact k _ _ _ (hP.sub isP (z_fm hP2)) (hD.sub isP hnd.2.2 hP2) hS hl
theorem z_callVv {st : List Value} (C : zC X g nL cc own Ts rm) (d : decode cc pc = .ok (.invokevirtual index, 3)) (hM : zMV (zl X) y Wd rc g (.ref b :: As) wc wc') (hG : GoodIn Ts (wsV own index Cn y Wd)) (hw : Wd = Cond.code y bytes maxL ret :: Wd') (hrm : rc.cells = 0 ∧ rc.slots = 0) (hd : y.cls = Cn ∧ y.cls ≠ "java/lang/invoke/MethodHandle" ∧ y.cls ≠ "java/lang/invoke/VarHandle" ∧ (parseMethodDescriptor y.desc).map (fun d => d.parameters.length) = some n) (hR : rc.frames + 1 ≤ rm.frames ∧ 8 + (maxL + 11) + rc.locals ≤ rm.locals) (hfit : cells ≤ rm.cells ∧ slots ≤ rm.slots) (hc : vwCl[ci]? = some (Cn, T, N)) (he : wc[0]? = some (b, .inr (ci, fs))) (hst : st = As.reverse ++ .ref b :: rest) (hn : As.length = n) (hcat : (rest.map fun v => v.category).sum ≤ 8) (isC isR isP : List Nat) (hC : isC.map (fun i => ws[i]?) = wc.map some) (hRr : isR.map (fun i => ws[i]?) = wr.map some) (hnd : va_nd isC = true ∧ va_nd isR = true ∧ va_nd isP = true) (hdis : ∀ i ∈ isR, i ∉ isC) (hP2 : isP.map (fun i => (wr ++ wc')[i]?) = ws2.map some) (k : zV X g nL cells slots (pc + 3) lv (rest) ws2) : zV X g nL cells slots pc lv st ws := by
  obtain ⟨p, l, e, R, s, m, args, below, meth, c, A, Q⟩ := X
  obtain ⟨hx, hb, hml, hown, hts, hK, hA, hR, hE, hlk⟩ := C
  subst hR
  intro H locs ls hP hD hS hl
  subst hst
  have hC2 : isC.filterMap (fun i => ws[i]?) = wc := z_fm hC
  have hFc := va_free (wc := wc) hD hS hA isC hC
  refine va_callv (va_runV (As := As) (rest := rest) ⟨hx, hb, hml, hown, hts⟩ (hM H.size) (cwV n hts hG hw hrm.1 hrm.2 hd hR) ⟨zPre.blind, va_recv hK (hP.sub isC hC2) hc he, fun U hU hW => z_pre hK hA hE hP hD hS isC hnd.1 hC hC2 hU hW⟩ rfl hn hl.1 rfl (lv_room hcat) d hfit) hS (fun q _ h => hFc q h) hFc (fun u t H1 locs ht hvm hw9 hB hz1 hk1 hS => ?_)
  subst hw9
  obtain ⟨hP1, hD1⟩ := hB
  rw [ht] at hP1
  obtain ⟨hP, hD⟩ := va_join (wr := wr) hP hD isC isR hC hRr hnd.2.1 hdis hk1 hFc hP1 hD1
  exact k _ _ _ (hP.sub isP (z_fm hP2)) (hD.sub isP hnd.2.2 hP2) hS hl
theorem z_callVr {rv : Nat} {st : List Value} (C : zC X g nL cc own Ts rm) (d : decode cc pc = .ok (.invokevirtual index, 3)) (hM : zMR (zl X) y Wd rc g (.ref b :: As) wc rv wc') (hG : GoodIn Ts (wsV own index Cn y Wd)) (hw : Wd = Cond.code y bytes maxL ret :: Wd') (hrm : rc.cells = 0 ∧ rc.slots = 0) (hd : y.cls = Cn ∧ y.cls ≠ "java/lang/invoke/MethodHandle" ∧ y.cls ≠ "java/lang/invoke/VarHandle" ∧ (parseMethodDescriptor y.desc).map (fun d => d.parameters.length) = some n) (hR : rc.frames + 1 ≤ rm.frames ∧ 8 + (maxL + 11) + rc.locals ≤ rm.locals) (hfit : cells ≤ rm.cells ∧ slots ≤ rm.slots) (hc : vwCl[ci]? = some (Cn, T, N)) (he : wc[0]? = some (b, .inr (ci, fs))) (hst : st = As.reverse ++ .ref b :: rest) (hn : As.length = n) (hcat : (rest.map fun v => v.category).sum ≤ 8) (isC isR isP : List Nat) (hC : isC.map (fun i => ws[i]?) = wc.map some) (hRr : isR.map (fun i => ws[i]?) = wr.map some) (hnd : va_nd isC = true ∧ va_nd isR = true ∧ va_nd isP = true) (hdis : ∀ i ∈ isR, i ∉ isC) (hP2 : isP.map (fun i => (wr ++ wc')[i]?) = ws2.map some) (k : zV X g nL cells slots (pc + 3) lv (.ref rv :: rest) ws2) : zV X g nL cells slots pc lv st ws := by
  obtain ⟨p, l, e, R, s, m, args, below, meth, c, A, Q⟩ := X
  obtain ⟨hx, hb, hml, hown, hts, hK, hA, hR, hE, hlk⟩ := C
  subst hR
  intro H locs ls hP hD hS hl
  subst hst
  have hC2 : isC.filterMap (fun i => ws[i]?) = wc := z_fm hC
  have hFc := va_free (wc := wc) hD hS hA isC hC
  refine va_callr (va_runV (As := As) (rest := rest) ⟨hx, hb, hml, hown, hts⟩ (hM H.size) (cwV n hts hG hw hrm.1 hrm.2 hd hR) ⟨zPre.blind, va_recv hK (hP.sub isC hC2) hc he, fun U hU hW => z_pre hK hA hE hP hD hS isC hnd.1 hC hC2 hU hW⟩ rfl hn hl.1 rfl (lv_room hcat) d hfit) hS (fun q _ h => hFc q h) hFc (fun u r t H1 locs ht hvm hw9 hB hz1 hk1 hS => ?_)
  subst hw9
  obtain ⟨rfl, hP1, hD1⟩ := hB
  rw [ht] at hP1
  obtain ⟨hP, hD⟩ := va_join (wr := wr) hP hD isC isR hC hRr hnd.2.1 hdis hk1 hFc hP1 hD1
  exact k _ _ _ (hP.sub isP (z_fm hP2)) (hD.sub isP hnd.2.2 hP2) hS hl
theorem z_callSi {rv : Int32} {st : List Value} (C : zC X g nL cc own Ts rm) (d : decode cc pc = .ok (.invokestatic index, 3)) (hM : zMI (zl X) y Wd rc g As wc rv wc') (hG : GoodIn Ts (va_wsS own index y Wd)) (hw : Wd = Cond.code y bytes maxL ret :: Wd') (hrm : rc.cells = 0 ∧ rc.slots = 0) (hd : y.cls ≠ "java/lang/invoke/MethodHandle" ∧ y.cls ≠ "java/lang/invoke/VarHandle" ∧ (parseMethodDescriptor y.desc).map (fun d => d.parameters.length) = some n) (hR : rc.frames + 1 ≤ rm.frames ∧ 8 + (maxL + 11) + rc.locals ≤ rm.locals) (hfit : cells ≤ rm.cells ∧ slots ≤ rm.slots) (hst : st = As.reverse ++ rest) (hn : As.length = n) (hcat : (rest.map fun v => v.category).sum ≤ 8) (isC isR isP : List Nat) (hC : isC.map (fun i => ws[i]?) = wc.map some) (hRr : isR.map (fun i => ws[i]?) = wr.map some) (hnd : va_nd isC = true ∧ va_nd isR = true ∧ va_nd isP = true) (hdis : ∀ i ∈ isR, i ∉ isC) (hP2 : isP.map (fun i => (wr ++ wc')[i]?) = ws2.map some) (k : zV X g nL cells slots (pc + 3) lv (.int rv :: rest) ws2) : zV X g nL cells slots pc lv st ws := by
  obtain ⟨p, l, e, R, s, m, args, below, meth, c, A, Q⟩ := X
  obtain ⟨hx, hb, hml, hown, hts, hK, hA, hR, hE, hlk⟩ := C
  subst hR
  intro H locs ls hP hD hS hl
  subst hst
  have hC2 : isC.filterMap (fun i => ws[i]?) = wc := z_fm hC
  have hFc := va_free (wc := wc) hD hS hA isC hC
  refine va_calli (va_runS (As := As) (rest := rest) ⟨hx, hb, hml, hown, hts⟩ (hM H.size) (va_cwS n hts hG hw hrm.1 hrm.2 hd hR) ⟨zPre.blind, fun U hU hW => z_pre hK hA hE hP hD hS isC hnd.1 hC hC2 hU hW⟩ rfl hn hl.1 rfl (lv_room hcat) d hfit) hS (fun q _ h => hFc q h) hFc (fun r u t H1 locs ht hvm hw9 hB hz1 hk1 hS => ?_)
  obtain ⟨rfl, rfl⟩ := hw9
  obtain ⟨hP1, hD1⟩ := hB
  rw [ht] at hP1
  obtain ⟨hP, hD⟩ := va_join (wr := wr) hP hD isC isR hC hRr hnd.2.1 hdis hk1 hFc hP1 hD1
  exact k _ _ _ (hP.sub isP (z_fm hP2)) (hD.sub isP hnd.2.2 hP2) hS hl
theorem z_callSv {st : List Value} (C : zC X g nL cc own Ts rm) (d : decode cc pc = .ok (.invokestatic index, 3)) (hM : zMV (zl X) y Wd rc g As wc wc') (hG : GoodIn Ts (va_wsS own index y Wd)) (hw : Wd = Cond.code y bytes maxL ret :: Wd') (hrm : rc.cells = 0 ∧ rc.slots = 0) (hd : y.cls ≠ "java/lang/invoke/MethodHandle" ∧ y.cls ≠ "java/lang/invoke/VarHandle" ∧ (parseMethodDescriptor y.desc).map (fun d => d.parameters.length) = some n) (hR : rc.frames + 1 ≤ rm.frames ∧ 8 + (maxL + 11) + rc.locals ≤ rm.locals) (hfit : cells ≤ rm.cells ∧ slots ≤ rm.slots) (hst : st = As.reverse ++ rest) (hn : As.length = n) (hcat : (rest.map fun v => v.category).sum ≤ 8) (isC isR isP : List Nat) (hC : isC.map (fun i => ws[i]?) = wc.map some) (hRr : isR.map (fun i => ws[i]?) = wr.map some) (hnd : va_nd isC = true ∧ va_nd isR = true ∧ va_nd isP = true) (hdis : ∀ i ∈ isR, i ∉ isC) (hP2 : isP.map (fun i => (wr ++ wc')[i]?) = ws2.map some) (k : zV X g nL cells slots (pc + 3) lv (rest) ws2) : zV X g nL cells slots pc lv st ws := by
  obtain ⟨p, l, e, R, s, m, args, below, meth, c, A, Q⟩ := X
  obtain ⟨hx, hb, hml, hown, hts, hK, hA, hR, hE, hlk⟩ := C
  subst hR
  intro H locs ls hP hD hS hl
  subst hst
  have hC2 : isC.filterMap (fun i => ws[i]?) = wc := z_fm hC
  have hFc := va_free (wc := wc) hD hS hA isC hC
  refine va_callv (va_runS (As := As) (rest := rest) ⟨hx, hb, hml, hown, hts⟩ (hM H.size) (va_cwS n hts hG hw hrm.1 hrm.2 hd hR) ⟨zPre.blind, fun U hU hW => z_pre hK hA hE hP hD hS isC hnd.1 hC hC2 hU hW⟩ rfl hn hl.1 rfl (lv_room hcat) d hfit) hS (fun q _ h => hFc q h) hFc (fun u t H1 locs ht hvm hw9 hB hz1 hk1 hS => ?_)
  subst hw9
  obtain ⟨hP1, hD1⟩ := hB
  rw [ht] at hP1
  obtain ⟨hP, hD⟩ := va_join (wr := wr) hP hD isC isR hC hRr hnd.2.1 hdis hk1 hFc hP1 hD1
  exact k _ _ _ (hP.sub isP (z_fm hP2)) (hD.sub isP hnd.2.2 hP2) hS hl
theorem z_callSr {rv : Nat} {st : List Value} (C : zC X g nL cc own Ts rm) (d : decode cc pc = .ok (.invokestatic index, 3)) (hM : zMR (zl X) y Wd rc g As wc rv wc') (hG : GoodIn Ts (va_wsS own index y Wd)) (hw : Wd = Cond.code y bytes maxL ret :: Wd') (hrm : rc.cells = 0 ∧ rc.slots = 0) (hd : y.cls ≠ "java/lang/invoke/MethodHandle" ∧ y.cls ≠ "java/lang/invoke/VarHandle" ∧ (parseMethodDescriptor y.desc).map (fun d => d.parameters.length) = some n) (hR : rc.frames + 1 ≤ rm.frames ∧ 8 + (maxL + 11) + rc.locals ≤ rm.locals) (hfit : cells ≤ rm.cells ∧ slots ≤ rm.slots) (hst : st = As.reverse ++ rest) (hn : As.length = n) (hcat : (rest.map fun v => v.category).sum ≤ 8) (isC isR isP : List Nat) (hC : isC.map (fun i => ws[i]?) = wc.map some) (hRr : isR.map (fun i => ws[i]?) = wr.map some) (hnd : va_nd isC = true ∧ va_nd isR = true ∧ va_nd isP = true) (hdis : ∀ i ∈ isR, i ∉ isC) (hP2 : isP.map (fun i => (wr ++ wc')[i]?) = ws2.map some) (k : zV X g nL cells slots (pc + 3) lv (.ref rv :: rest) ws2) : zV X g nL cells slots pc lv st ws := by
  obtain ⟨p, l, e, R, s, m, args, below, meth, c, A, Q⟩ := X
  obtain ⟨hx, hb, hml, hown, hts, hK, hA, hR, hE, hlk⟩ := C
  subst hR
  intro H locs ls hP hD hS hl
  subst hst
  have hC2 : isC.filterMap (fun i => ws[i]?) = wc := z_fm hC
  have hFc := va_free (wc := wc) hD hS hA isC hC
  refine va_callr (va_runS (As := As) (rest := rest) ⟨hx, hb, hml, hown, hts⟩ (hM H.size) (va_cwS n hts hG hw hrm.1 hrm.2 hd hR) ⟨zPre.blind, fun U hU hW => z_pre hK hA hE hP hD hS isC hnd.1 hC hC2 hU hW⟩ rfl hn hl.1 rfl (lv_room hcat) d hfit) hS (fun q _ h => hFc q h) hFc (fun u r t H1 locs ht hvm hw9 hB hz1 hk1 hS => ?_)
  subst hw9
  obtain ⟨rfl, hP1, hD1⟩ := hB
  rw [ht] at hP1
  obtain ⟨hP, hD⟩ := va_join (wr := wr) hP hD isC isR hC hRr hnd.2.1 hdis hk1 hFc hP1 hD1
  exact k _ _ _ (hP.sub isP (z_fm hP2)) (hD.sub isP hnd.2.2 hP2) hS hl
end
end
section
/-! pure rows that the contracts ask for -/
/-- a row's count lies in its array -/
def zok (N : Nat) (m : Int32) : Prop := 0 ≤ m.toInt ∧ m.toInt ≤ (N : Int) ∧ N < 2 ^ 31
theorem zin {i m : Int32} {N : Nat} (h1 : ¬ i < 0) (h2 : ¬ m ≤ i) (hm : zok N m) : vp_in i N := by
  rw [vp_in_iff]
  simp only [Int32.lt_iff_toInt_lt, Int32.le_iff_toInt_le, Int32.toInt_zero] at h1 h2
  obtain ⟨a, b, _⟩ := hm
  omega
theorem zin2 {m : Int32} {N : Nat} (h : ¬ nI N ≤ m) (hm : zok N m) : vp_in m N := by
  rw [vp_in_iff]
  obtain ⟨a, b, c⟩ := hm
  simp only [Int32.le_iff_toInt_le, nI_toInt c] at h
  omega
theorem zok_inc {m : Int32} {N : Nat} (hm : zok N m) (h : ¬ nI N ≤ m) : zok N (m + 1) := by
  obtain ⟨a, b, c⟩ := hm
  simp only [Int32.le_iff_toInt_le, nI_toInt c] at h
  have e : (m + 1).toInt = m.toInt + 1 := by
    rw [Int32.toInt_add]
    have : (1 : Int32).toInt = 1 := rfl
    rw [this, Int.bmod_def]
    omega
  refine ⟨?_, ?_, c⟩ <;> rw [e] <;> omega
theorem zfor_out {n : Int32} {i : Nat} (hi : i = n.toNatClampNeg) : n ≤ nI i := by
  subst hi
  have h : n.toNatClampNeg < 2 ^ 31 := by
    have := Int32.toInt_lt n
    simp only [Int32.toNatClampNeg]
    omega
  rw [Int32.le_iff_toInt_le, nI_toInt h]
  simp only [Int32.toNatClampNeg]
  omega
theorem zfor_in {n : Int32} {i r : Nat} (hi : i + (r + 1) = n.toNatClampNeg) : ¬ n ≤ nI i := by
  have hn := Int32.toInt_lt n
  have h : i < 2 ^ 31 := by
    simp only [Int32.toNatClampNeg] at hi
    omega
  rw [Int32.le_iff_toInt_le, nI_toInt h]
  simp only [Int32.toNatClampNeg] at hi
  omega
theorem zin15 (x : Int32) : vp_in (x &&& 15) 16 := by
  rw [vp_in_iff]
  have h : (x &&& 15).toInt = ((x.toBitVec.toNat &&& 15 : Nat) : Int) := by
    have h1 : x.toBitVec.toNat &&& 15 ≤ 15 := Nat.and_le_right
    have e : (x &&& 15).toBitVec.toNat = x.toBitVec.toNat &&& 15 := by
      simp [Int32.toBitVec_and]
    rw [← Int32.toInt_toBitVec, BitVec.toInt_eq_toNat_cond, e]
    omega
  have h1 : x.toBitVec.toNat &&& 15 ≤ 15 := Nat.and_le_right
  omega
theorem zok_lt {N : Nat} {m v : Int32} (hm : zok N m) (h1 : ¬ v < 0) (h2 : ¬ m ≤ v) : zok N v := by
  simp only [Int32.lt_iff_toInt_lt, Int32.le_iff_toInt_le, Int32.toInt_zero] at h1 h2
  obtain ⟨a, b, c⟩ := hm
  exact ⟨by omega, by omega, c⟩
/-- the count of what was told: k more may come -/
def zdok (k : Nat) (dm : Int32) : Prop := 0 ≤ dm.toInt ∧ dm.toInt + k < 2 ^ 31
theorem zdok_le {j k : Nat} {dm : Int32} (h : zdok k dm) (hjk : j ≤ k) : zdok j dm := ⟨h.1, by have := h.2; omega⟩
theorem zdok_inc {k : Nat} {dm : Int32} (h : zdok (k + 1) dm) : zdok k (dm + 1) := by
  obtain ⟨a, b⟩ := h
  have e : (dm + 1).toInt = dm.toInt + 1 := by
    rw [Int32.toInt_add]
    have : (1 : Int32).toInt = 1 := rfl
    rw [this, Int.bmod_def]
    omega
  refine ⟨?_, ?_⟩ <;> rw [e] <;> omega
theorem zind {k : Nat} {dm : Int32} (h : ¬ 100 ≤ dm) (hd : zdok k dm) : vp_in dm 100 := by
  rw [vp_in_iff]
  simp only [Int32.le_iff_toInt_le] at h
  have : (100 : Int32).toInt = 100 := rfl
  obtain ⟨a, b⟩ := hd
  omega
theorem zin100 {v : Int32} (h1 : ¬ v < 0) (h2 : ¬ 100 ≤ v) : vp_in v 100 := by
  rw [vp_in_iff]
  simp only [Int32.lt_iff_toInt_lt, Int32.le_iff_toInt_le, Int32.toInt_zero] at h1 h2
  have : (100 : Int32).toInt = 100 := rfl
  omega
/-- a size of blocks -/
def zsz (z : Int32) : Prop := 16 ≤ z.toInt ∧ z.toInt ≤ 512
theorem zsz_ne {z : Int32} (h : zsz z) : ¬ z = 0 := by
  intro e
  rw [e] at h
  exact absurd h.1 (by decide)
/-- a counter up to C, with the fuel that is left -/
def zfuel (C : Int32) (n : Nat) (v : Int32) : Prop := 0 ≤ v.toInt ∧ v.toInt + n = C.toInt + 2 ∧ v.toInt ≤ C.toInt + 1
theorem zfuel_0 {C v : Int32} (h : zfuel C 0 v) : False := by
  obtain ⟨a, b, c⟩ := h
  omega
theorem zfuel_s {C v : Int32} {n : Nat} (hC : C.toInt < 2 ^ 31 - 2) (h : zfuel C (n + 1) v) (hg : ¬ C < v) : zfuel C n (v + 1) := by
  obtain ⟨a, b, c⟩ := h
  simp only [Int32.lt_iff_toInt_lt] at hg
  have e : (v + 1).toInt = v.toInt + 1 := by
    rw [Int32.toInt_add]
    have : (1 : Int32).toInt = 1 := rfl
    rw [this, Int.bmod_def]
    omega
  refine ⟨?_, ?_, ?_⟩ <;> rw [e] <;> omega
theorem zsw_out4 {x : Int32} (h1 : ¬ x = 1) (h2 : ¬ x = 2) (h3 : ¬ x = 3) (h4 : ¬ x = 4) : x.toInt < 1 ∨ 4 < x.toInt := by
  rcases Int.lt_or_le x.toInt 1 with h | h
  · exact Or.inl h
  · rcases Int.lt_or_le 4 x.toInt with h' | h'
    · exact Or.inr h'
    · exfalso
      have e1 : ¬ x.toInt = 1 := fun e => h1 (Int32.toInt_inj.mp e)
      have e2 : ¬ x.toInt = 2 := fun e => h2 (Int32.toInt_inj.mp e)
      have e3 : ¬ x.toInt = 3 := fun e => h3 (Int32.toInt_inj.mp e)
      have e4 : ¬ x.toInt = 4 := fun e => h4 (Int32.toInt_inj.mp e)
      omega
/-- a boolean field -/
def zbo (x : Int32) : Prop := narrow .boolean (.int x) = .int x
theorem zbo_nar {x : Int32} (h : zbo x) : narrow .boolean (.int x) = .int x := h
end
section
set_option maxHeartbeats 4000000 in
set_option maxRecDepth 100000 in
theorem c_X3_many (l : Launch) (g : zG) (h a : Nat) (N : Nat) (F : Nat → Int32) (m : Int32) : zMI l yX3_many wsX3_many ({ frames := 0, cells := 0, slots := 0, locals := 0 }) g [.ref h] [(h, .inr (3, [.ref a, .int m])), (a, .inl (g.2.1, N, .inl F))] m [(h, .inr (3, [.ref a, .int m])), (a, .inl (g.2.1, N, .inl F))] := by
  refine zMI_of (cc := cX3_many) (nL := 1) (ty := .int) (by decide) rfl (Nat.le_of_ble_eq_true rfl) rfl ?_
  intro X C hret
  refine z_lv (lv' := [(0, .ref h)]) [0] rfl ?_
  refine z_aload_n C dX3_many_0 rfl 0 rfl ?_
  refine z_get (ci := 3) (v := .int m) (Cn := RX3) (T := TX3) (N := 2) C dX3_many_1 (fun w h => List.mem_cons_of_mem _ (List.mem_append_right _ h)) 0 rfl rfl 1 (by decide) (List.mem_of_getElem? (i := 1) rfl) rfl rfl ?_
  exact hret _ _ _ _ dX3_many_4 rfl rfl
def f_X3_hasRoomFor (N : Nat) (m : Int32) (v : Int32) : Int32 :=
  if ((nI N) - m) < v then
    0
  else
    1
theorem zbool_X3_hasRoomFor (N : Nat) (m v : Int32) : narrow .boolean (.int (f_X3_hasRoomFor N m v)) = .int (f_X3_hasRoomFor N m v) := by unfold f_X3_hasRoomFor; split <;> rfl
set_option maxHeartbeats 4000000 in
set_option maxRecDepth 100000 in
theorem c_X3_hasRoomFor (l : Launch) (g : zG) (h a : Nat) (N : Nat) (F : Nat → Int32) (m : Int32) (v : Int32) : zMI l yX3_hasRoomFor wsX3_hasRoomFor ({ frames := 0, cells := 0, slots := 0, locals := 0 }) g [.ref h, .int v] [(h, .inr (3, [.ref a, .int m])), (a, .inl (g.2.1, N, .inl F))] (f_X3_hasRoomFor N m v) [(h, .inr (3, [.ref a, .int m])), (a, .inl (g.2.1, N, .inl F))] := by
  refine zMI_of (cc := cX3_hasRoomFor) (nL := 2) (ty := .boolean) (by decide) rfl (Nat.le_of_ble_eq_true rfl) (zbool_X3_hasRoomFor _ _ _) ?_
  intro X C hret
  refine z_lv (lv' := [(0, .ref h), (1, .int v)]) [0, 1] rfl ?_
  refine z_iload_n C dX3_hasRoomFor_0 rfl 1 rfl ?_
  refine z_aload_n C dX3_hasRoomFor_1 rfl 0 rfl ?_
  refine z_get (ci := 3) (v := .ref a) (Cn := RX3) (T := TX3) (N := 2) C dX3_hasRoomFor_2 (fun w h => List.mem_cons_of_mem _ (List.mem_append_right _ h)) 0 rfl rfl 0 (by decide) (List.mem_of_getElem? (i := 1) rfl) rfl rfl ?_
  refine z_alenB C dX3_hasRoomFor_5 1 rfl ?_
  refine z_aload_n C dX3_hasRoomFor_6 rfl 0 rfl ?_
  refine z_get (ci := 3) (v := .int m) (Cn := RX3) (T := TX3) (N := 2) C dX3_hasRoomFor_7 (fun w h => List.mem_cons_of_mem _ (List.mem_append_right _ h)) 0 rfl rfl 1 (by decide) (List.mem_of_getElem? (i := 2) rfl) rfl rfl ?_
  refine z_isub C dX3_hasRoomFor_10 ?_
  refine z_icmp_gt (tgt := 18) C dX3_hasRoomFor_11 (by decide) (fun c_1 => ?_) (fun c_1 => ?_)
  · skip
    refine z_iconst (v := 0) C dX3_hasRoomFor_18 (by decide) ?_
    have he : (f_X3_hasRoomFor N m v) = 0 := by simp only [f_X3_hasRoomFor, if_pos c_1]
    exact hret _ _ _ _ dX3_hasRoomFor_19 (by first | rw [he] | rfl) (by first | rw [he] | rfl)
  · skip
    refine z_iconst (v := 1) C dX3_hasRoomFor_14 (by decide) ?_
    refine z_goto (tgt := 19) C dX3_hasRoomFor_15 (by decide) ?_
    have he : (f_X3_hasRoomFor N m v) = 1 := by simp only [f_X3_hasRoomFor, if_neg c_1]
    exact hret _ _ _ _ dX3_hasRoomFor_19 (by first | rw [he] | rfl) (by first | rw [he] | rfl)
def f_X3_has (m : Int32) (v : Int32) : Int32 :=
  if v < 0 then
    0
  else
    if m ≤ v then
      0
    else
      1
theorem zbool_X3_has (m v : Int32) : narrow .boolean (.int (f_X3_has m v)) = .int (f_X3_has m v) := by
  unfold f_X3_has
  repeat' split
  all_goals rfl
theorem zin_has {m v r : Int32} {N : Nat} (h : f_X3_has m v = r) (c : ¬ r = 0) (hm : zok N m) : vp_in v N := by
  unfold f_X3_has at h
  split at h
  · exact absurd h.symm c
  · split at h
    · exact absurd h.symm c
    · next c1 c2 => exact zin c1 c2 hm
set_option maxHeartbeats 4000000 in
set_option maxRecDepth 100000 in
theorem c_X3_has (l : Launch) (g : zG) (h a : Nat) (N : Nat) (F : Nat → Int32) (m : Int32) (v : Int32) : zMI l yX3_has wsX3_has ({ frames := 0, cells := 0, slots := 0, locals := 0 }) g [.ref h, .int v] [(h, .inr (3, [.ref a, .int m])), (a, .inl (g.2.1, N, .inl F))] (f_X3_has m v) [(h, .inr (3, [.ref a, .int m])), (a, .inl (g.2.1, N, .inl F))] := by
  refine zMI_of (cc := cX3_has) (nL := 2) (ty := .boolean) (by decide) rfl (Nat.le_of_ble_eq_true rfl) (zbool_X3_has _ _) ?_
  intro X C hret
  refine z_lv (lv' := [(0, .ref h), (1, .int v)]) [0, 1] rfl ?_
  refine z_iload_n C dX3_has_0 rfl 1 rfl ?_
  refine z_if_lt (tgt := 16) C dX3_has_1 (by decide) (fun c_1 => ?_) (fun c_1 => ?_)
  · skip
    refine z_iconst (v := 0) C dX3_has_16 (by decide) ?_
    have he : (f_X3_has m v) = 0 := by simp only [f_X3_has, if_pos c_1]
    exact hret _ _ _ _ dX3_has_17 (by first | rw [he] | rfl) (by first | rw [he] | rfl)
  · skip
    refine z_iload_n C dX3_has_4 rfl 1 rfl ?_
    refine z_aload_n C dX3_has_5 rfl 0 rfl ?_
    refine z_get (ci := 3) (v := .int m) (Cn := RX3) (T := TX3) (N := 2) C dX3_has_6 (fun w h => List.mem_cons_of_mem _ (List.mem_append_right _ h)) 0 rfl rfl 1 (by decide) (List.mem_of_getElem? (i := 1) rfl) rfl rfl ?_
    refine z_icmp_ge (tgt := 16) C dX3_has_9 (by decide) (fun c_2 => ?_) (fun c_2 => ?_)
    · skip
      refine z_iconst (v := 0) C dX3_has_16 (by decide) ?_
      have he : (f_X3_has m v) = 0 := by simp only [f_X3_has, if_neg c_1, if_pos c_2]
      exact hret _ _ _ _ dX3_has_17 (by first | rw [he] | rfl) (by first | rw [he] | rfl)
    · skip
      refine z_iconst (v := 1) C dX3_has_12 (by decide) ?_
      refine z_goto (tgt := 17) C dX3_has_13 (by decide) ?_
      have he : (f_X3_has m v) = 1 := by simp only [f_X3_has, if_neg c_1, if_neg c_2]
      exact hret _ _ _ _ dX3_has_17 (by first | rw [he] | rfl) (by first | rw [he] | rfl)
def f_X3_at (F : Nat → Int32) (m : Int32) (v : Int32) : Int32 :=
  if v < 0 then
    (-1)
  else
    if m ≤ v then
      (-1)
    else
      ((F (v).toNatClampNeg) &&& 255)
set_option maxHeartbeats 4000000 in
set_option maxRecDepth 100000 in
theorem c_X3_at (l : Launch) (g : zG) (h a : Nat) (N : Nat) (F : Nat → Int32) (m : Int32) (v : Int32) (hm : zok N m) : zMI l yX3_at wsX3_at ({ frames := 0, cells := 0, slots := 0, locals := 0 }) g [.ref h, .int v] [(h, .inr (3, [.ref a, .int m])), (a, .inl (g.2.1, N, .inl F))] (f_X3_at F m v) [(h, .inr (3, [.ref a, .int m])), (a, .inl (g.2.1, N, .inl F))] := by
  refine zMI_of (cc := cX3_at) (nL := 2) (ty := .int) (by decide) rfl (Nat.le_of_ble_eq_true rfl) rfl ?_
  intro X C hret
  refine z_lv (lv' := [(0, .ref h), (1, .int v)]) [0, 1] rfl ?_
  refine z_iload_n C dX3_at_0 rfl 1 rfl ?_
  refine z_if_lt (tgt := 25) C dX3_at_1 (by decide) (fun c_1 => ?_) (fun c_1 => ?_)
  · skip
    refine z_iconst (v := (-1)) C dX3_at_25 (by decide) ?_
    have he : (f_X3_at F m v) = (-1) := by simp only [f_X3_at, if_pos c_1]
    exact hret _ _ _ _ dX3_at_26 (by first | rw [he] | rfl) (by first | rw [he] | rfl)
  · skip
    refine z_iload_n C dX3_at_4 rfl 1 rfl ?_
    refine z_aload_n C dX3_at_5 rfl 0 rfl ?_
    refine z_get (ci := 3) (v := .int m) (Cn := RX3) (T := TX3) (N := 2) C dX3_at_6 (fun w h => List.mem_cons_of_mem _ (List.mem_append_right _ h)) 0 rfl rfl 1 (by decide) (List.mem_of_getElem? (i := 1) rfl) rfl rfl ?_
    refine z_icmp_ge (tgt := 25) C dX3_at_9 (by decide) (fun c_2 => ?_) (fun c_2 => ?_)
    · skip
      refine z_iconst (v := (-1)) C dX3_at_25 (by decide) ?_
      have he : (f_X3_at F m v) = (-1) := by simp only [f_X3_at, if_neg c_1, if_pos c_2]
      exact hret _ _ _ _ dX3_at_26 (by first | rw [he] | rfl) (by first | rw [he] | rfl)
    · skip
      refine z_aload_n C dX3_at_12 rfl 0 rfl ?_
      refine z_get (ci := 3) (v := .ref a) (Cn := RX3) (T := TX3) (N := 2) C dX3_at_13 (fun w h => List.mem_cons_of_mem _ (List.mem_append_right _ h)) 0 rfl rfl 0 (by decide) (List.mem_of_getElem? (i := 2) rfl) rfl rfl ?_
      refine z_iload_n C dX3_at_16 rfl 1 rfl ?_
      refine z_bald C dX3_at_17 1 rfl (zin c_1 c_2 hm) ?_
      refine z_sipush (v := 255) C dX3_at_18 (by decide) ?_
      refine z_iand C dX3_at_21 ?_
      refine z_goto (tgt := 26) C dX3_at_22 (by decide) ?_
      have he : (f_X3_at F m v) = ((F (v).toNatClampNeg) &&& 255) := by simp only [f_X3_at, if_neg c_1, if_neg c_2]
      exact hret _ _ _ _ dX3_at_26 (by first | rw [he] | rfl) (by first | rw [he] | rfl)
def f_X3_add (N : Nat) (F : Nat → Int32) (m : Int32) (v : Int32) : (Nat → Int32) × Int32 :=
  if (nI N) ≤ m then
    (F, m)
  else
    ((upd F (m).toNatClampNeg (vp_nar .byte (v.toInt8.toInt32))), (m + 1))
theorem zok_X3_add {N : Nat} {F F1 : Nat → Int32} {m v m1 : Int32} (hm : zok N m) (h : f_X3_add N F m v = (F1, m1)) : zok N m1 := by
  unfold f_X3_add at h
  split at h
  · cases h; exact hm
  · next c => cases h; exact zok_inc hm c
set_option maxHeartbeats 4000000 in
set_option maxRecDepth 100000 in
theorem c_X3_add (l : Launch) (g : zG) (h a : Nat) (N : Nat) (F : Nat → Int32) (m : Int32) (v : Int32) (hm : zok N m) : zMV l yX3_add wsX3_add ({ frames := 0, cells := 0, slots := 0, locals := 0 }) g [.ref h, .int v] [(h, .inr (3, [.ref a, .int m])), (a, .inl (g.2.1, N, .inl F))] [(h, .inr (3, [.ref a, .int ((f_X3_add N F m v).2)])), (a, .inl (g.2.1, N, .inl ((f_X3_add N F m v).1)))] := by
  refine zMV_of (cc := cX3_add) (nL := 2) (by decide) rfl (Nat.le_of_ble_eq_true rfl) ?_
  intro X C hret
  refine z_lv (lv' := [(0, .ref h), (1, .int v)]) [0, 1] rfl ?_
  refine z_aload_n C dX3_add_0 rfl 0 rfl ?_
  refine z_get (ci := 3) (v := .int m) (Cn := RX3) (T := TX3) (N := 2) C dX3_add_1 (fun w h => List.mem_cons_of_mem _ (List.mem_append_right _ h)) 0 rfl rfl 1 (by decide) (List.mem_of_getElem? (i := 1) rfl) rfl rfl ?_
  refine z_aload_n C dX3_add_4 rfl 0 rfl ?_
  refine z_get (ci := 3) (v := .ref a) (Cn := RX3) (T := TX3) (N := 2) C dX3_add_5 (fun w h => List.mem_cons_of_mem _ (List.mem_append_right _ h)) 0 rfl rfl 0 (by decide) (List.mem_of_getElem? (i := 2) rfl) rfl rfl ?_
  refine z_alenB C dX3_add_8 1 rfl ?_
  refine z_icmp_ge (tgt := 33) C dX3_add_9 (by decide) (fun c_1 => ?_) (fun c_1 => ?_)
  · skip
    have he : (f_X3_add N F m v) = (F, m) := by simp only [f_X3_add, if_pos c_1]
    exact hret _ _ _ dX3_add_33 (by first | rw [he] | rfl)
  · skip
    refine z_aload_n C dX3_add_12 rfl 0 rfl ?_
    refine z_get (ci := 3) (v := .ref a) (Cn := RX3) (T := TX3) (N := 2) C dX3_add_13 (fun w h => List.mem_cons_of_mem _ (List.mem_append_right _ h)) 0 rfl rfl 0 (by decide) (List.mem_of_getElem? (i := 2) rfl) rfl rfl ?_
    refine z_aload_n C dX3_add_16 rfl 0 rfl ?_
    refine z_get (ci := 3) (v := .int m) (Cn := RX3) (T := TX3) (N := 2) C dX3_add_17 (fun w h => List.mem_cons_of_mem _ (List.mem_append_right _ h)) 0 rfl rfl 1 (by decide) (List.mem_of_getElem? (i := 1) rfl) rfl rfl ?_
    refine z_iload_n C dX3_add_20 rfl 1 rfl ?_
    refine z_i2b C dX3_add_21 ?_
    refine z_bast (ws' := [(h, .inr (3, [.ref a, .int m])), (a, .inl (g.2.1, N, .inl (upd F (m).toNatClampNeg (vp_nar .byte (v.toInt8.toInt32)))))]) C dX3_add_22 1 rfl (zin2 c_1 hm) rfl ?_
    refine z_aload_n C dX3_add_23 rfl 0 rfl ?_
    refine z_dup C dX3_add_24 rfl ?_
    refine z_get (ci := 3) (v := .int m) (Cn := RX3) (T := TX3) (N := 2) C dX3_add_25 (fun w h => List.mem_cons_of_mem _ (List.mem_append_right _ h)) 0 rfl rfl 1 (by decide) (List.mem_of_getElem? (i := 1) rfl) rfl rfl ?_
    refine z_iconst (v := 1) C dX3_add_28 (by decide) ?_
    refine z_iadd C dX3_add_29 ?_
    refine z_put (ci := 3) (v := .int (m + 1)) (ty := .int) (Cn := RX3) (T := TX3) (N := 2) (ws' := [(h, .inr (3, [.ref a, .int (m + 1)])), (a, .inl (g.2.1, N, .inl (upd F (m).toNatClampNeg (vp_nar .byte (v.toInt8.toInt32)))))]) C dX3_add_30 (fun w h => List.mem_cons_of_mem _ (List.mem_append_right _ h)) tyX3 tyX3_ok nmX3 0 rfl rfl 1 (by decide) (List.mem_of_getElem? (i := 1) rfl) rfl rfl (by decide +kernel) rfl rfl (Nat.le_of_ble_eq_true rfl) rfl ?_
    have he : (f_X3_add N F m v) = ((upd F (m).toNatClampNeg (vp_nar .byte (v.toInt8.toInt32))), (m + 1)) := by simp only [f_X3_add, if_neg c_1]
    exact hret _ _ _ dX3_add_33 (by first | rw [he] | rfl)
def f_X3_shorten (m : Int32) (v : Int32) : Int32 :=
  if v < 0 then
    m
  else
    if m ≤ v then
      m
    else
      v
theorem zok_X3_shorten {N : Nat} {m v m1 : Int32} (hm : zok N m) (h : f_X3_shorten m v = m1) : zok N m1 := by
  unfold f_X3_shorten at h
  split at h
  · exact h ▸ hm
  · split at h
    · exact h ▸ hm
    · next c1 c2 => rw [← h]; exact zok_lt hm c1 c2
set_option maxHeartbeats 4000000 in
set_option maxRecDepth 100000 in
theorem c_X3_shorten (l : Launch) (g : zG) (h a : Nat) (N : Nat) (F : Nat → Int32) (m : Int32) (v : Int32) (hm : zok N m) : zMV l yX3_shorten wsX3_shorten ({ frames := 0, cells := 0, slots := 0, locals := 0 }) g [.ref h, .int v] [(h, .inr (3, [.ref a, .int m])), (a, .inl (g.2.1, N, .inl F))] [(h, .inr (3, [.ref a, .int (f_X3_shorten m v)])), (a, .inl (g.2.1, N, .inl F))] := by
  refine zMV_of (cc := cX3_shorten) (nL := 2) (by decide) rfl (Nat.le_of_ble_eq_true rfl) ?_
  intro X C hret
  refine z_lv (lv' := [(0, .ref h), (1, .int v)]) [0, 1] rfl ?_
  refine z_iload_n C dX3_shorten_0 rfl 1 rfl ?_
  refine z_if_lt (tgt := 17) C dX3_shorten_1 (by decide) (fun c_1 => ?_) (fun c_1 => ?_)
  · skip
    have he : (f_X3_shorten m v) = m := by simp only [f_X3_shorten, if_pos c_1]
    exact hret _ _ _ dX3_shorten_17 (by first | rw [he] | rfl)
  · skip
    refine z_iload_n C dX3_shorten_4 rfl 1 rfl ?_
    refine z_aload_n C dX3_shorten_5 rfl 0 rfl ?_
    refine z_get (ci := 3) (v := .int m) (Cn := RX3) (T := TX3) (N := 2) C dX3_shorten_6 (fun w h => List.mem_cons_of_mem _ (List.mem_append_right _ h)) 0 rfl rfl 1 (by decide) (List.mem_of_getElem? (i := 1) rfl) rfl rfl ?_
    refine z_icmp_ge (tgt := 17) C dX3_shorten_9 (by decide) (fun c_2 => ?_) (fun c_2 => ?_)
    · skip
      have he : (f_X3_shorten m v) = m := by simp only [f_X3_shorten, if_neg c_1, if_pos c_2]
      exact hret _ _ _ dX3_shorten_17 (by first | rw [he] | rfl)
    · skip
      refine z_aload_n C dX3_shorten_12 rfl 0 rfl ?_
      refine z_iload_n C dX3_shorten_13 rfl 1 rfl ?_
      refine z_put (ci := 3) (v := .int v) (ty := .int) (Cn := RX3) (T := TX3) (N := 2) (ws' := [(h, .inr (3, [.ref a, .int v])), (a, .inl (g.2.1, N, .inl F))]) C dX3_shorten_14 (fun w h => List.mem_cons_of_mem _ (List.mem_append_right _ h)) tyX3 tyX3_ok nmX3 0 rfl rfl 1 (by decide) (List.mem_of_getElem? (i := 1) rfl) rfl rfl (by decide +kernel) rfl rfl (Nat.le_of_ble_eq_true rfl) rfl ?_
      have he : (f_X3_shorten m v) = v := by simp only [f_X3_shorten, if_neg c_1, if_neg c_2]
      exact hret _ _ _ dX3_shorten_17 (by first | rw [he] | rfl)
def f_X3_replace (F : Nat → Int32) (m : Int32) (v : Int32) (x : Int32) : (Nat → Int32) :=
  if (f_X3_has m v) = 0 then
    F
  else
    (upd F (v).toNatClampNeg (vp_nar .byte (x.toInt8.toInt32)))
set_option maxHeartbeats 4000000 in
set_option maxRecDepth 100000 in
theorem c_X3_replace (l : Launch) (g : zG) (h a : Nat) (N : Nat) (F : Nat → Int32) (m : Int32) (v : Int32) (x : Int32) (hm : zok N m) : zMV l yX3_replace wsX3_replace ({ frames := 1, cells := 0, slots := 0, locals := 21 }) g [.ref h, .int v, .int x] [(h, .inr (3, [.ref a, .int m])), (a, .inl (g.2.1, N, .inl F))] [(h, .inr (3, [.ref a, .int m])), (a, .inl (g.2.1, N, .inl (f_X3_replace F m v x)))] := by
  refine zMV_of (cc := cX3_replace) (nL := 3) (by decide) rfl (Nat.le_of_ble_eq_true rfl) ?_
  intro X C hret
  refine z_lv (lv' := [(0, .ref h), (1, .int v), (2, .int x)]) [0, 1, 2] rfl ?_
  refine z_aload_n C dX3_replace_0 rfl 0 rfl ?_
  refine z_iload_n C dX3_replace_1 rfl 1 rfl ?_
  refine z_callVi (n := 1) (isC := [0, 1]) (isR := []) (isP := [0, 1]) (As := [.int v]) (rest := []) (wr := []) (ws2 := [(h, .inr (3, [.ref a, .int m])), (a, .inl (g.2.1, N, .inl F))]) C dX3_replace_2 (c_X3_has (zl X) g h a N F m v) gX3_replace_X3_has rfl ⟨rfl, rfl⟩ (by decide +kernel) (by decide) (by decide) rfl rfl rfl rfl (Nat.le_of_ble_eq_true rfl) rfl rfl ⟨rfl, rfl, rfl⟩ (by decide) rfl ?_
  generalize hT1 : (f_X3_has m v) = rq1
  refine z_if_eq (tgt := 16) C dX3_replace_5 (by decide) (fun c_2 => ?_) (fun c_2 => ?_)
  · skip
    have he : (f_X3_replace F m v x) = F := by simp only [f_X3_replace, hT1, if_pos c_2]
    exact hret _ _ _ dX3_replace_16 (by first | rw [he] | rfl)
  · skip
    refine z_aload_n C dX3_replace_8 rfl 0 rfl ?_
    refine z_get (ci := 3) (v := .ref a) (Cn := RX3) (T := TX3) (N := 2) C dX3_replace_9 (fun w h => List.mem_cons_of_mem _ (List.mem_append_right _ h)) 0 rfl rfl 0 (by decide) (List.mem_of_getElem? (i := 1) rfl) rfl rfl ?_
    refine z_iload_n C dX3_replace_12 rfl 1 rfl ?_
    refine z_iload_n C dX3_replace_13 rfl 2 rfl ?_
    refine z_i2b C dX3_replace_14 ?_
    refine z_bast (ws' := [(h, .inr (3, [.ref a, .int m])), (a, .inl (g.2.1, N, .inl (upd F (v).toNatClampNeg (vp_nar .byte (x.toInt8.toInt32)))))]) C dX3_replace_15 1 rfl (zin_has hT1 c_2 hm) rfl ?_
    have he : (f_X3_replace F m v x) = (upd F (v).toNatClampNeg (vp_nar .byte (x.toInt8.toInt32))) := by simp only [f_X3_replace, hT1, if_neg c_2]
    exact hret _ _ _ dX3_replace_16 (by first | rw [he] | rfl)
def b_X3_addLowestFirst (N : Nat) (x : Int32) (k : Int32) (z_ : (Nat → Int32) × Int32) : (Nat → Int32) × Int32 :=
  match z_ with
  | (F_, m_) =>
    match (f_X3_add N F_ m_ (zUshr x (8 * k))) with
    | (Fq3, mq3) =>
      (Fq3, mq3)
def lp_X3_addLowestFirst (N : Nat) (x : Int32) (z_ : (Nat → Int32) × Int32) : Nat → (Nat → Int32) × Int32
  | 0 => z_
  | i + 1 => b_X3_addLowestFirst N x (nI i) (lp_X3_addLowestFirst N x z_ i)
def f_X3_addLowestFirst (N : Nat) (F : Nat → Int32) (m : Int32) (x : Int32) (b : Int32) : (Nat → Int32) × Int32 :=
  match lp_X3_addLowestFirst N x (F, m) (b).toNatClampNeg with
  | (F_, m_) =>
    (F_, m_)
theorem zok_lp_X3_addLowestFirst {N : Nat} {x : Int32} {F : Nat → Int32} {m : Int32} (hm : zok N m) : ∀ i, zok N (lp_X3_addLowestFirst N x (F, m) i).2 := by
  intro i
  induction i with
  | zero => exact hm
  | succ i ih =>
    show zok N (b_X3_addLowestFirst N x (nI i) (lp_X3_addLowestFirst N x (F, m) i)).2
    generalize lp_X3_addLowestFirst N x (F, m) i = T at ih ⊢
    obtain ⟨F1, m1⟩ := T
    exact zok_X3_add ih rfl
theorem zok_X3_addLowestFirst {N : Nat} {F F1 : Nat → Int32} {m x b m1 : Int32} (hm : zok N m) (h : f_X3_addLowestFirst N F m x b = (F1, m1)) : zok N m1 := by
  have := zok_lp_X3_addLowestFirst (x := x) (F := F) hm b.toNatClampNeg
  have e : m1 = (lp_X3_addLowestFirst N x (F, m) b.toNatClampNeg).2 := (congrArg Prod.snd h).symm
  rw [e]; exact this
set_option maxHeartbeats 4000000 in
set_option maxRecDepth 100000 in
theorem c_X3_addLowestFirst (l : Launch) (g : zG) (h a : Nat) (N : Nat) (F : Nat → Int32) (m : Int32) (x : Int32) (b : Int32) (hm : zok N m) : zMV l yX3_addLowestFirst wsX3_addLowestFirst ({ frames := 1, cells := 0, slots := 0, locals := 21 }) g [.ref h, .int x, .int b] [(h, .inr (3, [.ref a, .int m])), (a, .inl (g.2.1, N, .inl F))] [(h, .inr (3, [.ref a, .int ((f_X3_addLowestFirst N F m x b).2)])), (a, .inl (g.2.1, N, .inl ((f_X3_addLowestFirst N F m x b).1)))] := by
  refine zMV_of (cc := cX3_addLowestFirst) (nL := 4) (by decide) rfl (Nat.le_of_ble_eq_true rfl) ?_
  intro X C hret
  refine z_lv (lv' := [(0, .ref h), (1, .int x), (2, .int b)]) [0, 1, 2] rfl ?_
  refine z_iconst (v := 0) C dX3_addLowestFirst_0 (by decide) ?_
  refine z_istore_n (lv' := [(3, .int 0), (0, .ref h), (1, .int x), (2, .int b)]) C dX3_addLowestFirst_1 rfl (by decide) rfl ?_
  have loop : ∀ (r i : Nat), i + r = (b).toNatClampNeg → ∀ (F_ : Nat → Int32) (m_ : Int32), lp_X3_addLowestFirst N x (F, m) i = (F_, m_) → zok N m_ → zV X g 4 0 0 2 [(0, .ref h), (1, .int x), (2, .int b), (3, .int (nI i))] [] [(h, .inr (3, [.ref a, .int m_])), (a, .inl (g.2.1, N, .inl F_))] := by
    intro r
    induction r with
    | zero =>
      intro i hi F_ m_ hv hm_
      have hi : i = (b).toNatClampNeg := hi
      refine z_iload_n C dX3_addLowestFirst_2 rfl 3 rfl ?_
      refine z_iload_n C dX3_addLowestFirst_3 rfl 2 rfl ?_
      refine z_icmp_ge (tgt := 23) C dX3_addLowestFirst_4 (by decide) (fun c_1 => ?_) (fun c_1 => absurd (zfor_out hi) c_1)
      have he : (f_X3_addLowestFirst N F m x b) = (F_, m_) := by simp only [f_X3_addLowestFirst, ← hi, hv]
      exact hret _ _ _ dX3_addLowestFirst_23 (by first | rw [he] | rfl)
    | succ r ih =>
      intro i hi F_ m_ hv hm_
      refine z_iload_n C dX3_addLowestFirst_2 rfl 3 rfl ?_
      refine z_iload_n C dX3_addLowestFirst_3 rfl 2 rfl ?_
      refine z_icmp_ge (tgt := 23) C dX3_addLowestFirst_4 (by decide) (fun c_2 => absurd c_2 (zfor_in hi)) (fun c_2 => ?_)
      refine z_aload_n C dX3_addLowestFirst_7 rfl 0 rfl ?_
      refine z_iload_n C dX3_addLowestFirst_8 rfl 1 rfl ?_
      refine z_bipush (v := 8) C dX3_addLowestFirst_9 (by decide) ?_
      refine z_iload_n C dX3_addLowestFirst_11 rfl 3 rfl ?_
      refine z_imul C dX3_addLowestFirst_12 ?_
      refine z_iushr C dX3_addLowestFirst_13 ?_
      refine z_callVv (n := 1) (isC := [0, 1]) (isR := []) (isP := [0, 1]) (As := [.int (zUshr x (8 * (nI i)))]) (rest := []) (wr := []) (ws2 := [(h, .inr (3, [.ref a, .int ((f_X3_add N F_ m_ (zUshr x (8 * (nI i)))).2)])), (a, .inl (g.2.1, N, .inl ((f_X3_add N F_ m_ (zUshr x (8 * (nI i)))).1)))]) C dX3_addLowestFirst_14 (c_X3_add (zl X) g h a N F_ m_ (zUshr x (8 * (nI i))) hm_) gX3_addLowestFirst_X3_add rfl ⟨rfl, rfl⟩ (by decide +kernel) (by decide) (by decide) rfl rfl rfl rfl (Nat.le_of_ble_eq_true rfl) rfl rfl ⟨rfl, rfl, rfl⟩ (by decide) rfl ?_
      generalize hT3 : (f_X3_add N F_ m_ (zUshr x (8 * (nI i)))) = T3
      obtain ⟨Fq3, mq3⟩ := T3
      have k3_m : zok N mq3 := zok_X3_add hm_ hT3
      refine z_iinc (v := (nI (i + 1))) (lv' := [(3, .int (nI (i + 1))), (0, .ref h), (1, .int x), (2, .int b)]) C dX3_addLowestFirst_17 3 rfl (nI_1 i) (by decide) rfl ?_
      refine z_goto (tgt := 2) C dX3_addLowestFirst_20 (by decide) ?_
      have hs : lp_X3_addLowestFirst N x (F, m) (i + 1) = (Fq3, mq3) := by
        show b_X3_addLowestFirst N x (nI i) (lp_X3_addLowestFirst N x (F, m) i) = _
        rw [hv]
        simp only [b_X3_addLowestFirst, hT3]
      exact z_lv [1, 2, 3, 0] rfl (ih (i + 1) (by omega) Fq3 mq3 hs k3_m)
  exact z_lv [1, 2, 3, 0] rfl (loop (b).toNatClampNeg 0 (Nat.zero_add _) F m rfl hm)
def b_X3_addPart (N : Nat) (F2 : Nat → Int32) (m2 : Int32) (x : Int32) (k : Int32) (z_ : (Nat → Int32) × Int32) : (Nat → Int32) × Int32 :=
  match z_ with
  | (F_, m_) =>
    match (f_X3_add N F_ m_ (f_X3_at F2 m2 (x + k))) with
    | (Fq4, mq4) =>
      (Fq4, mq4)
def lp_X3_addPart (N : Nat) (F2 : Nat → Int32) (m2 : Int32) (x : Int32) (z_ : (Nat → Int32) × Int32) : Nat → (Nat → Int32) × Int32
  | 0 => z_
  | i + 1 => b_X3_addPart N F2 m2 x (nI i) (lp_X3_addPart N F2 m2 x z_ i)
def f_X3_addPart (N : Nat) (F : Nat → Int32) (F2 : Nat → Int32) (m : Int32) (m2 : Int32) (x : Int32) (b : Int32) : (Nat → Int32) × Int32 :=
  match lp_X3_addPart N F2 m2 x (F, m) (b).toNatClampNeg with
  | (F_, m_) =>
    (F_, m_)
theorem zok_lp_X3_addPart {N : Nat} {F2 : Nat → Int32} {m2 x : Int32} {F : Nat → Int32} {m : Int32} (hm : zok N m) : ∀ i, zok N (lp_X3_addPart N F2 m2 x (F, m) i).2 := by
  intro i
  induction i with
  | zero => exact hm
  | succ i ih =>
    show zok N (b_X3_addPart N F2 m2 x (nI i) (lp_X3_addPart N F2 m2 x (F, m) i)).2
    generalize lp_X3_addPart N F2 m2 x (F, m) i = T at ih ⊢
    obtain ⟨F1, m1⟩ := T
    exact zok_X3_add ih rfl
theorem zok_X3_addPart {N N2 : Nat} {F F1 F2 : Nat → Int32} {m m2 x b m1 : Int32} (hm : zok N m) (_ : zok N2 m2) (h : f_X3_addPart N F F2 m m2 x b = (F1, m1)) : zok N m1 := by
  have := zok_lp_X3_addPart (F2 := F2) (m2 := m2) (x := x) (F := F) hm b.toNatClampNeg
  have e : m1 = (lp_X3_addPart N F2 m2 x (F, m) b.toNatClampNeg).2 := (congrArg Prod.snd h).symm
  rw [e]; exact this
set_option maxHeartbeats 4000000 in
set_option maxRecDepth 100000 in
theorem c_X3_addPart (l : Launch) (g : zG) (h a h2 a2 : Nat) (N : Nat) (N2 : Nat) (F : Nat → Int32) (F2 : Nat → Int32) (m : Int32) (m2 : Int32) (x : Int32) (b : Int32) (hm : zok N m) (hm2 : zok N2 m2) : zMV l yX3_addPart wsX3_addPart ({ frames := 1, cells := 0, slots := 0, locals := 21 }) g [.ref h, .ref h2, .int x, .int b] [(h, .inr (3, [.ref a, .int m])), (a, .inl (g.2.1, N, .inl F)), (h2, .inr (3, [.ref a2, .int m2])), (a2, .inl (g.2.1, N2, .inl F2))] [(h, .inr (3, [.ref a, .int ((f_X3_addPart N F F2 m m2 x b).2)])), (a, .inl (g.2.1, N, .inl ((f_X3_addPart N F F2 m m2 x b).1))), (h2, .inr (3, [.ref a2, .int m2])), (a2, .inl (g.2.1, N2, .inl F2))] := by
  refine zMV_of (cc := cX3_addPart) (nL := 5) (by decide) rfl (Nat.le_of_ble_eq_true rfl) ?_
  intro X C hret
  refine z_lv (lv' := [(0, .ref h), (1, .ref h2), (2, .int x), (3, .int b)]) [0, 1, 2, 3] rfl ?_
  refine z_iconst (v := 0) C dX3_addPart_0 (by decide) ?_
  refine z_istore (lv' := [(4, .int 0), (0, .ref h), (1, .ref h2), (2, .int x), (3, .int b)]) C dX3_addPart_1 (by decide) rfl ?_
  have loop : ∀ (r i : Nat), i + r = (b).toNatClampNeg → ∀ (F_ : Nat → Int32) (m_ : Int32), lp_X3_addPart N F2 m2 x (F, m) i = (F_, m_) → zok N m_ → zV X g 5 0 0 3 [(0, .ref h), (1, .ref h2), (2, .int x), (3, .int b), (4, .int (nI i))] [] [(h, .inr (3, [.ref a, .int m_])), (a, .inl (g.2.1, N, .inl F_)), (h2, .inr (3, [.ref a2, .int m2])), (a2, .inl (g.2.1, N2, .inl F2))] := by
    intro r
    induction r with
    | zero =>
      intro i hi F_ m_ hv hm_
      have hi : i = (b).toNatClampNeg := hi
      refine z_iload C dX3_addPart_3 4 rfl ?_
      refine z_iload_n C dX3_addPart_5 rfl 3 rfl ?_
      refine z_icmp_ge (tgt := 27) C dX3_addPart_6 (by decide) (fun c_1 => ?_) (fun c_1 => absurd (zfor_out hi) c_1)
      have he : (f_X3_addPart N F F2 m m2 x b) = (F_, m_) := by simp only [f_X3_addPart, ← hi, hv]
      exact hret _ _ _ dX3_addPart_27 (by first | rw [he] | rfl)
    | succ r ih =>
      intro i hi F_ m_ hv hm_
      refine z_iload C dX3_addPart_3 4 rfl ?_
      refine z_iload_n C dX3_addPart_5 rfl 3 rfl ?_
      refine z_icmp_ge (tgt := 27) C dX3_addPart_6 (by decide) (fun c_2 => absurd c_2 (zfor_in hi)) (fun c_2 => ?_)
      refine z_aload_n C dX3_addPart_9 rfl 0 rfl ?_
      refine z_aload_n C dX3_addPart_10 rfl 1 rfl ?_
      refine z_iload_n C dX3_addPart_11 rfl 2 rfl ?_
      refine z_iload C dX3_addPart_12 4 rfl ?_
      refine z_iadd C dX3_addPart_14 ?_
      refine z_callVi (n := 1) (isC := [2, 3]) (isR := [0, 1]) (isP := [0, 1, 2, 3]) (As := [.int (x + (nI i))]) (rest := [.ref h]) (wr := [(h, .inr (3, [.ref a, .int m_])), (a, .inl (g.2.1, N, .inl F_))]) (ws2 := [(h, .inr (3, [.ref a, .int m_])), (a, .inl (g.2.1, N, .inl F_)), (h2, .inr (3, [.ref a2, .int m2])), (a2, .inl (g.2.1, N2, .inl F2))]) C dX3_addPart_15 (c_X3_at (zl X) g h2 a2 N2 F2 m2 (x + (nI i)) hm2) gX3_addPart_X3_at rfl ⟨rfl, rfl⟩ (by decide +kernel) (by decide) (by decide) rfl rfl rfl rfl (Nat.le_of_ble_eq_true rfl) rfl rfl ⟨rfl, rfl, rfl⟩ (by decide) rfl ?_
      generalize hT3 : (f_X3_at F2 m2 (x + (nI i))) = rq3
      refine z_callVv (n := 1) (isC := [0, 1]) (isR := [2, 3]) (isP := [2, 3, 0, 1]) (As := [.int rq3]) (rest := []) (wr := [(h2, .inr (3, [.ref a2, .int m2])), (a2, .inl (g.2.1, N2, .inl F2))]) (ws2 := [(h, .inr (3, [.ref a, .int ((f_X3_add N F_ m_ rq3).2)])), (a, .inl (g.2.1, N, .inl ((f_X3_add N F_ m_ rq3).1))), (h2, .inr (3, [.ref a2, .int m2])), (a2, .inl (g.2.1, N2, .inl F2))]) C dX3_addPart_18 (c_X3_add (zl X) g h a N F_ m_ rq3 hm_) gX3_addPart_X3_add rfl ⟨rfl, rfl⟩ (by decide +kernel) (by decide) (by decide) rfl rfl rfl rfl (Nat.le_of_ble_eq_true rfl) rfl rfl ⟨rfl, rfl, rfl⟩ (by decide) rfl ?_
      generalize hT4 : (f_X3_add N F_ m_ rq3) = T4
      obtain ⟨Fq4, mq4⟩ := T4
      have k4_m : zok N mq4 := zok_X3_add hm_ hT4
      refine z_iinc (v := (nI (i + 1))) (lv' := [(4, .int (nI (i + 1))), (0, .ref h), (1, .ref h2), (2, .int x), (3, .int b)]) C dX3_addPart_21 4 rfl (nI_1 i) (by decide) rfl ?_
      refine z_goto (tgt := 3) C dX3_addPart_24 (by decide) ?_
      have hs : lp_X3_addPart N F2 m2 x (F, m) (i + 1) = (Fq4, mq4) := by
        show b_X3_addPart N F2 m2 x (nI i) (lp_X3_addPart N F2 m2 x (F, m) i) = _
        rw [hv]
        simp only [b_X3_addPart, hT3, hT4]
      exact z_lv [1, 2, 3, 4, 0] rfl (ih (i + 1) (by omega) Fq4 mq4 hs k4_m)
  exact z_lv [1, 2, 3, 4, 0] rfl (loop (b).toNatClampNeg 0 (Nat.zero_add _) F m rfl hm)
def b_X3_numberLowestFirst (F : Nat → Int32) (m : Int32) (x : Int32) (k : Int32) (z_ : Int32) : Int32 :=
  match z_ with
  | w =>
    (w ||| ((f_X3_at F m (x + k)) <<< ((8 * k) &&& 31)))
def lp_X3_numberLowestFirst (F : Nat → Int32) (m : Int32) (x : Int32) (z_ : Int32) : Nat → Int32
  | 0 => z_
  | i + 1 => b_X3_numberLowestFirst F m x (nI i) (lp_X3_numberLowestFirst F m x z_ i)
def f_X3_numberLowestFirst (F : Nat → Int32) (m : Int32) (x : Int32) (b : Int32) : Int32 :=
  match lp_X3_numberLowestFirst F m x 0 (b).toNatClampNeg with
  | w =>
    w
set_option maxHeartbeats 4000000 in
set_option maxRecDepth 100000 in
theorem c_X3_numberLowestFirst (l : Launch) (g : zG) (h a : Nat) (N : Nat) (F : Nat → Int32) (m : Int32) (x : Int32) (b : Int32) (hm : zok N m) : zMI l yX3_numberLowestFirst wsX3_numberLowestFirst ({ frames := 1, cells := 0, slots := 0, locals := 21 }) g [.ref h, .int x, .int b] [(h, .inr (3, [.ref a, .int m])), (a, .inl (g.2.1, N, .inl F))] (f_X3_numberLowestFirst F m x b) [(h, .inr (3, [.ref a, .int m])), (a, .inl (g.2.1, N, .inl F))] := by
  refine zMI_of (cc := cX3_numberLowestFirst) (nL := 5) (ty := .int) (by decide) rfl (Nat.le_of_ble_eq_true rfl) rfl ?_
  intro X C hret
  refine z_lv (lv' := [(0, .ref h), (1, .int x), (2, .int b)]) [0, 1, 2] rfl ?_
  refine z_iconst (v := 0) C dX3_numberLowestFirst_0 (by decide) ?_
  refine z_istore_n (lv' := [(3, .int 0), (0, .ref h), (1, .int x), (2, .int b)]) C dX3_numberLowestFirst_1 rfl (by decide) rfl ?_
  refine z_iconst (v := 0) C dX3_numberLowestFirst_2 (by decide) ?_
  refine z_istore (lv' := [(4, .int 0), (3, .int 0), (0, .ref h), (1, .int x), (2, .int b)]) C dX3_numberLowestFirst_3 (by decide) rfl ?_
  have loop : ∀ (r i : Nat), i + r = (b).toNatClampNeg → ∀ (w : Int32), lp_X3_numberLowestFirst F m x 0 i = w → zV X g 5 0 0 5 [(0, .ref h), (1, .int x), (2, .int b), (3, .int w), (4, .int (nI i))] [] [(h, .inr (3, [.ref a, .int m])), (a, .inl (g.2.1, N, .inl F))] := by
    intro r
    induction r with
    | zero =>
      intro i hi w hv 
      have hi : i = (b).toNatClampNeg := hi
      refine z_iload C dX3_numberLowestFirst_5 4 rfl ?_
      refine z_iload_n C dX3_numberLowestFirst_7 rfl 2 rfl ?_
      refine z_icmp_ge (tgt := 34) C dX3_numberLowestFirst_8 (by decide) (fun c_1 => ?_) (fun c_1 => absurd (zfor_out hi) c_1)
      refine z_iload_n C dX3_numberLowestFirst_34 rfl 3 rfl ?_
      have he : (f_X3_numberLowestFirst F m x b) = w := by simp only [f_X3_numberLowestFirst, ← hi, hv]
      exact hret _ _ _ _ dX3_numberLowestFirst_35 (by first | rw [he] | rfl) (by first | rw [he] | rfl)
    | succ r ih =>
      intro i hi w hv 
      refine z_iload C dX3_numberLowestFirst_5 4 rfl ?_
      refine z_iload_n C dX3_numberLowestFirst_7 rfl 2 rfl ?_
      refine z_icmp_ge (tgt := 34) C dX3_numberLowestFirst_8 (by decide) (fun c_2 => absurd c_2 (zfor_in hi)) (fun c_2 => ?_)
      refine z_iload_n C dX3_numberLowestFirst_11 rfl 3 rfl ?_
      refine z_aload_n C dX3_numberLowestFirst_12 rfl 0 rfl ?_
      refine z_iload_n C dX3_numberLowestFirst_13 rfl 1 rfl ?_
      refine z_iload C dX3_numberLowestFirst_14 4 rfl ?_
      refine z_iadd C dX3_numberLowestFirst_16 ?_
      refine z_callVi (n := 1) (isC := [0, 1]) (isR := []) (isP := [0, 1]) (As := [.int (x + (nI i))]) (rest := [.int w]) (wr := []) (ws2 := [(h, .inr (3, [.ref a, .int m])), (a, .inl (g.2.1, N, .inl F))]) C dX3_numberLowestFirst_17 (c_X3_at (zl X) g h a N F m (x + (nI i)) hm) gX3_numberLowestFirst_X3_at rfl ⟨rfl, rfl⟩ (by decide +kernel) (by decide) (by decide) rfl rfl rfl rfl (Nat.le_of_ble_eq_true rfl) rfl rfl ⟨rfl, rfl, rfl⟩ (by decide) rfl ?_
      generalize hT3 : (f_X3_at F m (x + (nI i))) = rq3
      refine z_bipush (v := 8) C dX3_numberLowestFirst_20 (by decide) ?_
      refine z_iload C dX3_numberLowestFirst_22 4 rfl ?_
      refine z_imul C dX3_numberLowestFirst_24 ?_
      refine z_ishl C dX3_numberLowestFirst_25 ?_
      refine z_ior C dX3_numberLowestFirst_26 ?_
      refine z_istore_n (lv' := [(3, .int (w ||| (rq3 <<< ((8 * (nI i)) &&& 31)))), (0, .ref h), (1, .int x), (2, .int b), (4, .int (nI i))]) C dX3_numberLowestFirst_27 rfl (by decide) rfl ?_
      refine z_iinc (v := (nI (i + 1))) (lv' := [(4, .int (nI (i + 1))), (3, .int (w ||| (rq3 <<< ((8 * (nI i)) &&& 31)))), (0, .ref h), (1, .int x), (2, .int b)]) C dX3_numberLowestFirst_28 4 rfl (nI_1 i) (by decide) rfl ?_
      refine z_goto (tgt := 5) C dX3_numberLowestFirst_31 (by decide) ?_
      have hs : lp_X3_numberLowestFirst F m x 0 (i + 1) = (w ||| (rq3 <<< ((8 * (nI i)) &&& 31))) := by
        show b_X3_numberLowestFirst F m x (nI i) (lp_X3_numberLowestFirst F m x 0 i) = _
        rw [hv]
        simp only [b_X3_numberLowestFirst, hT3]
      exact z_lv [2, 3, 4, 1, 0] rfl (ih (i + 1) (by omega) (w ||| (rq3 <<< ((8 * (nI i)) &&& 31))) hs )
  exact z_lv [2, 3, 4, 1, 0] rfl (loop (b).toNatClampNeg 0 (Nat.zero_add _) 0 rfl)
end
section
set_option maxHeartbeats 4000000 in
set_option maxRecDepth 100000 in
theorem c_X4_withByte (l : Launch) (g : zG) (r : Int32) (v : Int32) : zMI l yX4_withByte wsX4_withByte ({ frames := 0, cells := 0, slots := 0, locals := 0 }) g [.int r, .int v] [] ((zUshr ((zUshr r 4) ^^^ (zRem (((r ^^^ v) &&& 15)).toNatClampNeg)) 4) ^^^ (zRem (((((zUshr r 4) ^^^ (zRem (((r ^^^ v) &&& 15)).toNatClampNeg)) ^^^ (zUshr v 4)) &&& 15)).toNatClampNeg)) [] := by
  refine zMI_of (cc := cX4_withByte) (nL := 3) (ty := .int) (by decide) rfl (Nat.le_of_ble_eq_true rfl) rfl ?_
  intro X C hret
  refine z_lv (lv' := [(0, .int r), (1, .int v)]) [0, 1] rfl ?_
  refine z_iload_n C dX4_withByte_0 rfl 0 rfl ?_
  refine z_iconst (v := 4) C dX4_withByte_1 (by decide) ?_
  refine z_iushr C dX4_withByte_2 ?_
  refine z_rem C dX4_withByte_3 (List.mem_of_getElem? (i := 1) rfl) (fun t1 hrem1 => ?_)
  refine z_iload_n C dX4_withByte_6 rfl 0 rfl ?_
  refine z_iload_n C dX4_withByte_7 rfl 1 rfl ?_
  refine z_ixor C dX4_withByte_8 ?_
  refine z_bipush (v := 15) C dX4_withByte_9 (by decide) ?_
  refine z_iand C dX4_withByte_11 ?_
  refine hrem1 _ _ _ _ _ dX4_withByte_12 (zin15 _) ?_
  refine z_ixor C dX4_withByte_13 ?_
  refine z_istore_n (lv' := [(2, .int ((zUshr r 4) ^^^ (zRem (((r ^^^ v) &&& 15)).toNatClampNeg))), (0, .int r), (1, .int v)]) C dX4_withByte_14 rfl (by decide) rfl ?_
  refine z_iload_n C dX4_withByte_15 rfl 0 rfl ?_
  refine z_iconst (v := 4) C dX4_withByte_16 (by decide) ?_
  refine z_iushr C dX4_withByte_17 ?_
  refine z_rem C dX4_withByte_18 (List.mem_of_getElem? (i := 1) rfl) (fun t2 hrem2 => ?_)
  refine z_iload_n C dX4_withByte_21 rfl 0 rfl ?_
  refine z_iload_n C dX4_withByte_22 rfl 2 rfl ?_
  refine z_iconst (v := 4) C dX4_withByte_23 (by decide) ?_
  refine z_iushr C dX4_withByte_24 ?_
  refine z_ixor C dX4_withByte_25 ?_
  refine z_bipush (v := 15) C dX4_withByte_26 (by decide) ?_
  refine z_iand C dX4_withByte_28 ?_
  refine hrem2 _ _ _ _ _ dX4_withByte_29 (zin15 _) ?_
  refine z_ixor C dX4_withByte_30 ?_
  exact hret _ _ _ _ dX4_withByte_31 rfl rfl
def b_X4_of (F : Nat → Int32) (m : Int32) (x : Int32) (k : Int32) (z_ : Int32) : Int32 :=
  match z_ with
  | w =>
    ((zUshr ((zUshr w 4) ^^^ (zRem (((w ^^^ (f_X3_at F m (x + k))) &&& 15)).toNatClampNeg)) 4) ^^^ (zRem (((((zUshr w 4) ^^^ (zRem (((w ^^^ (f_X3_at F m (x + k))) &&& 15)).toNatClampNeg)) ^^^ (zUshr (f_X3_at F m (x + k)) 4)) &&& 15)).toNatClampNeg))
def lp_X4_of (F : Nat → Int32) (m : Int32) (x : Int32) (z_ : Int32) : Nat → Int32
  | 0 => z_
  | i + 1 => b_X4_of F m x (nI i) (lp_X4_of F m x z_ i)
def f_X4_of (F : Nat → Int32) (m : Int32) (q : Int32) (x : Int32) (b : Int32) : Int32 :=
  match lp_X4_of F m x ((zUshr ((zUshr (-1) 4) ^^^ (zRem ((((-1) ^^^ q) &&& 15)).toNatClampNeg)) 4) ^^^ (zRem (((((zUshr (-1) 4) ^^^ (zRem ((((-1) ^^^ q) &&& 15)).toNatClampNeg)) ^^^ (zUshr q 4)) &&& 15)).toNatClampNeg)) (b).toNatClampNeg with
  | w =>
    (((zUshr (w ^^^ (-1)) 15) ||| ((w ^^^ (-1)) <<< (17 &&& 31))) + (-1568478504))
set_option maxHeartbeats 4000000 in
set_option maxRecDepth 100000 in
theorem c_X4_of (l : Launch) (g : zG) (h a : Nat) (N : Nat) (F : Nat → Int32) (m : Int32) (q : Int32) (x : Int32) (b : Int32) (hm : zok N m) : zMI l yX4_of wsX4_of ({ frames := 1, cells := 0, slots := 0, locals := 22 }) g [.int q, .ref h, .int x, .int b] [(h, .inr (3, [.ref a, .int m])), (a, .inl (g.2.1, N, .inl F))] (f_X4_of F m q x b) [(h, .inr (3, [.ref a, .int m])), (a, .inl (g.2.1, N, .inl F))] := by
  refine zMI_of (cc := cX4_of) (nL := 6) (ty := .int) (by decide) rfl (Nat.le_of_ble_eq_true rfl) rfl ?_
  intro X C hret
  refine z_lv (lv' := [(0, .int q), (1, .ref h), (2, .int x), (3, .int b)]) [0, 1, 2, 3] rfl ?_
  refine z_iconst (v := (-1)) C dX4_of_0 (by decide) ?_
  refine z_iload_n C dX4_of_1 rfl 0 rfl ?_
  refine z_callSi (n := 2) (isC := []) (isR := [0, 1]) (isP := [0, 1]) (As := [.int (-1), .int q]) (rest := []) (wr := [(h, .inr (3, [.ref a, .int m])), (a, .inl (g.2.1, N, .inl F))]) (ws2 := [(h, .inr (3, [.ref a, .int m])), (a, .inl (g.2.1, N, .inl F))]) C dX4_of_2 (c_X4_withByte (zl X) g (-1) q) gX4_of_X4_withByte rfl ⟨rfl, rfl⟩ (by decide +kernel) (by decide) (by decide) rfl rfl (Nat.le_of_ble_eq_true rfl) rfl rfl ⟨rfl, rfl, rfl⟩ (by decide) rfl ?_
  refine z_istore (lv' := [(4, .int ((zUshr ((zUshr (-1) 4) ^^^ (zRem ((((-1) ^^^ q) &&& 15)).toNatClampNeg)) 4) ^^^ (zRem (((((zUshr (-1) 4) ^^^ (zRem ((((-1) ^^^ q) &&& 15)).toNatClampNeg)) ^^^ (zUshr q 4)) &&& 15)).toNatClampNeg))), (0, .int q), (1, .ref h), (2, .int x), (3, .int b)]) C dX4_of_5 (by decide) rfl ?_
  refine z_iconst (v := 0) C dX4_of_7 (by decide) ?_
  refine z_istore (lv' := [(5, .int 0), (4, .int ((zUshr ((zUshr (-1) 4) ^^^ (zRem ((((-1) ^^^ q) &&& 15)).toNatClampNeg)) 4) ^^^ (zRem (((((zUshr (-1) 4) ^^^ (zRem ((((-1) ^^^ q) &&& 15)).toNatClampNeg)) ^^^ (zUshr q 4)) &&& 15)).toNatClampNeg))), (0, .int q), (1, .ref h), (2, .int x), (3, .int b)]) C dX4_of_8 (by decide) rfl ?_
  have loop : ∀ (r i : Nat), i + r = (b).toNatClampNeg → ∀ (w : Int32), lp_X4_of F m x ((zUshr ((zUshr (-1) 4) ^^^ (zRem ((((-1) ^^^ q) &&& 15)).toNatClampNeg)) 4) ^^^ (zRem (((((zUshr (-1) 4) ^^^ (zRem ((((-1) ^^^ q) &&& 15)).toNatClampNeg)) ^^^ (zUshr q 4)) &&& 15)).toNatClampNeg)) i = w → zV X g 6 0 0 10 [(0, .int q), (1, .ref h), (2, .int x), (3, .int b), (4, .int w), (5, .int (nI i))] [] [(h, .inr (3, [.ref a, .int m])), (a, .inl (g.2.1, N, .inl F))] := by
    intro r
    induction r with
    | zero =>
      intro i hi w hv 
      have hi : i = (b).toNatClampNeg := hi
      refine z_iload C dX4_of_10 5 rfl ?_
      refine z_iload_n C dX4_of_12 rfl 3 rfl ?_
      refine z_icmp_ge (tgt := 37) C dX4_of_13 (by decide) (fun c_2 => ?_) (fun c_2 => absurd (zfor_out hi) c_2)
      refine z_iload C dX4_of_37 4 rfl ?_
      refine z_iconst (v := (-1)) C dX4_of_39 (by decide) ?_
      refine z_ixor C dX4_of_40 ?_
      refine z_istore (lv' := [(4, .int (w ^^^ (-1))), (0, .int q), (1, .ref h), (2, .int x), (3, .int b), (5, .int (nI i))]) C dX4_of_41 (by decide) rfl ?_
      refine z_iload C dX4_of_43 0 rfl ?_
      refine z_bipush (v := 15) C dX4_of_45 (by decide) ?_
      refine z_iushr C dX4_of_47 ?_
      refine z_iload C dX4_of_48 0 rfl ?_
      refine z_bipush (v := 17) C dX4_of_50 (by decide) ?_
      refine z_ishl C dX4_of_52 ?_
      refine z_ior C dX4_of_53 ?_
      refine z_ldc (v := (-1568478504)) C dX4_of_54 (List.mem_of_getElem? (i := 1) rfl) ?_
      refine z_iadd C dX4_of_56 ?_
      have he : (f_X4_of F m q x b) = (((zUshr (w ^^^ (-1)) 15) ||| ((w ^^^ (-1)) <<< (17 &&& 31))) + (-1568478504)) := by simp only [f_X4_of, ← hi, hv]
      exact hret _ _ _ _ dX4_of_57 (by first | rw [he] | rfl) (by first | rw [he] | rfl)
    | succ r ih =>
      intro i hi w hv 
      refine z_iload C dX4_of_10 5 rfl ?_
      refine z_iload_n C dX4_of_12 rfl 3 rfl ?_
      refine z_icmp_ge (tgt := 37) C dX4_of_13 (by decide) (fun c_3 => absurd c_3 (zfor_in hi)) (fun c_3 => ?_)
      refine z_iload C dX4_of_16 4 rfl ?_
      refine z_aload_n C dX4_of_18 rfl 1 rfl ?_
      refine z_iload_n C dX4_of_19 rfl 2 rfl ?_
      refine z_iload C dX4_of_20 5 rfl ?_
      refine z_iadd C dX4_of_22 ?_
      refine z_callVi (n := 1) (isC := [0, 1]) (isR := []) (isP := [0, 1]) (As := [.int (x + (nI i))]) (rest := [.int w]) (wr := []) (ws2 := [(h, .inr (3, [.ref a, .int m])), (a, .inl (g.2.1, N, .inl F))]) C dX4_of_23 (c_X3_at (zl X) g h a N F m (x + (nI i)) hm) gX4_of_X3_at rfl ⟨rfl, rfl⟩ (by decide +kernel) (by decide) (by decide) rfl rfl rfl rfl (Nat.le_of_ble_eq_true rfl) rfl rfl ⟨rfl, rfl, rfl⟩ (by decide) rfl ?_
      generalize hT4 : (f_X3_at F m (x + (nI i))) = rq4
      refine z_callSi (n := 2) (isC := []) (isR := [0, 1]) (isP := [0, 1]) (As := [.int w, .int rq4]) (rest := []) (wr := [(h, .inr (3, [.ref a, .int m])), (a, .inl (g.2.1, N, .inl F))]) (ws2 := [(h, .inr (3, [.ref a, .int m])), (a, .inl (g.2.1, N, .inl F))]) C dX4_of_26 (c_X4_withByte (zl X) g w rq4) gX4_of_X4_withByte rfl ⟨rfl, rfl⟩ (by decide +kernel) (by decide) (by decide) rfl rfl (Nat.le_of_ble_eq_true rfl) rfl rfl ⟨rfl, rfl, rfl⟩ (by decide) rfl ?_
      refine z_istore (lv' := [(4, .int ((zUshr ((zUshr w 4) ^^^ (zRem (((w ^^^ rq4) &&& 15)).toNatClampNeg)) 4) ^^^ (zRem (((((zUshr w 4) ^^^ (zRem (((w ^^^ rq4) &&& 15)).toNatClampNeg)) ^^^ (zUshr rq4 4)) &&& 15)).toNatClampNeg))), (0, .int q), (1, .ref h), (2, .int x), (3, .int b), (5, .int (nI i))]) C dX4_of_29 (by decide) rfl ?_
      refine z_iinc (v := (nI (i + 1))) (lv' := [(5, .int (nI (i + 1))), (4, .int ((zUshr ((zUshr w 4) ^^^ (zRem (((w ^^^ rq4) &&& 15)).toNatClampNeg)) 4) ^^^ (zRem (((((zUshr w 4) ^^^ (zRem (((w ^^^ rq4) &&& 15)).toNatClampNeg)) ^^^ (zUshr rq4 4)) &&& 15)).toNatClampNeg))), (0, .int q), (1, .ref h), (2, .int x), (3, .int b)]) C dX4_of_31 5 rfl (nI_1 i) (by decide) rfl ?_
      refine z_goto (tgt := 10) C dX4_of_34 (by decide) ?_
      have hs : lp_X4_of F m x ((zUshr ((zUshr (-1) 4) ^^^ (zRem ((((-1) ^^^ q) &&& 15)).toNatClampNeg)) 4) ^^^ (zRem (((((zUshr (-1) 4) ^^^ (zRem ((((-1) ^^^ q) &&& 15)).toNatClampNeg)) ^^^ (zUshr q 4)) &&& 15)).toNatClampNeg)) (i + 1) = ((zUshr ((zUshr w 4) ^^^ (zRem (((w ^^^ rq4) &&& 15)).toNatClampNeg)) 4) ^^^ (zRem (((((zUshr w 4) ^^^ (zRem (((w ^^^ rq4) &&& 15)).toNatClampNeg)) ^^^ (zUshr rq4 4)) &&& 15)).toNatClampNeg)) := by
        show b_X4_of F m x (nI i) (lp_X4_of F m x ((zUshr ((zUshr (-1) 4) ^^^ (zRem ((((-1) ^^^ q) &&& 15)).toNatClampNeg)) 4) ^^^ (zRem (((((zUshr (-1) 4) ^^^ (zRem ((((-1) ^^^ q) &&& 15)).toNatClampNeg)) ^^^ (zUshr q 4)) &&& 15)).toNatClampNeg)) i) = _
        rw [hv]
        simp only [b_X4_of, hT4]
      exact z_lv [2, 3, 4, 5, 1, 0] rfl (ih (i + 1) (by omega) ((zUshr ((zUshr w 4) ^^^ (zRem (((w ^^^ rq4) &&& 15)).toNatClampNeg)) 4) ^^^ (zRem (((((zUshr w 4) ^^^ (zRem (((w ^^^ rq4) &&& 15)).toNatClampNeg)) ^^^ (zUshr rq4 4)) &&& 15)).toNatClampNeg)) hs )
  exact z_lv [2, 3, 4, 5, 1, 0] rfl (loop (b).toNatClampNeg 0 (Nat.zero_add _) ((zUshr ((zUshr (-1) 4) ^^^ (zRem ((((-1) ^^^ q) &&& 15)).toNatClampNeg)) 4) ^^^ (zRem (((((zUshr (-1) 4) ^^^ (zRem ((((-1) ^^^ q) &&& 15)).toNatClampNeg)) ^^^ (zUshr q 4)) &&& 15)).toNatClampNeg)) rfl)
set_option maxHeartbeats 4000000 in
set_option maxRecDepth 100000 in
theorem c_X1_forget (l : Launch) (g : zG) (d dw dy : Nat) (Wf : Nat → Int32) (Yf : Nat → Int32) (dm : Int32) (da : Int32) : zMV l yX1_forget wsX1_forget ({ frames := 0, cells := 0, slots := 0, locals := 0 }) g [.ref d] [(d, .inr (1, [.ref dw, .ref dy, .int dm, .int da])), (dw, .inl (g.2.2.1, 100, .inl Wf)), (dy, .inl (g.2.2.1, 100, .inl Yf))] [(d, .inr (1, [.ref dw, .ref dy, .int 0, .int 0])), (dw, .inl (g.2.2.1, 100, .inl Wf)), (dy, .inl (g.2.2.1, 100, .inl Yf))] := by
  refine zMV_of (cc := cX1_forget) (nL := 1) (by decide) rfl (Nat.le_of_ble_eq_true rfl) ?_
  intro X C hret
  refine z_lv (lv' := [(0, .ref d)]) [0] rfl ?_
  refine z_aload_n C dX1_forget_0 rfl 0 rfl ?_
  refine z_iconst (v := 0) C dX1_forget_1 (by decide) ?_
  refine z_put (ci := 1) (v := .int 0) (ty := .int) (Cn := RX1) (T := TX1) (N := 4) (ws' := [(d, .inr (1, [.ref dw, .ref dy, .int 0, .int da])), (dw, .inl (g.2.2.1, 100, .inl Wf)), (dy, .inl (g.2.2.1, 100, .inl Yf))]) C dX1_forget_2 (fun w h => List.mem_cons_of_mem _ (List.mem_append_right _ h)) tyX1 tyX1_ok nmX1 0 rfl rfl 2 (by decide) (List.mem_of_getElem? (i := 1) rfl) rfl rfl (by decide +kernel) rfl rfl (Nat.le_of_ble_eq_true rfl) rfl ?_
  refine z_aload_n C dX1_forget_5 rfl 0 rfl ?_
  refine z_iconst (v := 0) C dX1_forget_6 (by decide) ?_
  refine z_put (ci := 1) (v := .int 0) (ty := .int) (Cn := RX1) (T := TX1) (N := 4) (ws' := [(d, .inr (1, [.ref dw, .ref dy, .int 0, .int 0])), (dw, .inl (g.2.2.1, 100, .inl Wf)), (dy, .inl (g.2.2.1, 100, .inl Yf))]) C dX1_forget_7 (fun w h => List.mem_cons_of_mem _ (List.mem_append_right _ h)) tyX1 tyX1_ok nmX1 0 rfl rfl 3 (by decide) (List.mem_of_getElem? (i := 2) rfl) rfl rfl (by decide +kernel) rfl rfl (Nat.le_of_ble_eq_true rfl) rfl ?_
  exact hret _ _ _ dX1_forget_10 rfl
def f_X1_tell (Wf : Nat → Int32) (Yf : Nat → Int32) (dm : Int32) (da : Int32) (x : Int32) (v : Int32) : (Nat → Int32) × (Nat → Int32) × Int32 × Int32 :=
  if 100 ≤ dm then
    (Wf, Yf, (dm + 1), (da + v))
  else
    ((upd Wf (dm).toNatClampNeg x), (upd Yf (dm).toNatClampNeg v), (dm + 1), (da + v))
theorem zdok_X1_tell {k : Nat} {Wf Yf W1 Y1 : Nat → Int32} {dm da x v d1 a1 : Int32} (h : zdok (k + 1) dm) (e : f_X1_tell Wf Yf dm da x v = (W1, Y1, d1, a1)) : zdok k d1 := by
  unfold f_X1_tell at e
  split at e <;> (cases e; exact zdok_inc h)
set_option maxHeartbeats 4000000 in
set_option maxRecDepth 100000 in
theorem c_X1_tell (l : Launch) (g : zG) (d dw dy : Nat) (Wf : Nat → Int32) (Yf : Nat → Int32) (dm : Int32) (da : Int32) (x : Int32) (v : Int32) (hd : zdok 1 dm) : zMV l yX1_tell wsX1_tell ({ frames := 0, cells := 0, slots := 0, locals := 0 }) g [.ref d, .int x, .int v] [(d, .inr (1, [.ref dw, .ref dy, .int dm, .int da])), (dw, .inl (g.2.2.1, 100, .inl Wf)), (dy, .inl (g.2.2.1, 100, .inl Yf))] [(d, .inr (1, [.ref dw, .ref dy, .int ((f_X1_tell Wf Yf dm da x v).2.2.1), .int ((f_X1_tell Wf Yf dm da x v).2.2.2)])), (dw, .inl (g.2.2.1, 100, .inl ((f_X1_tell Wf Yf dm da x v).1))), (dy, .inl (g.2.2.1, 100, .inl ((f_X1_tell Wf Yf dm da x v).2.1)))] := by
  refine zMV_of (cc := cX1_tell) (nL := 3) (by decide) rfl (Nat.le_of_ble_eq_true rfl) ?_
  intro X C hret
  refine z_lv (lv' := [(0, .ref d), (1, .int x), (2, .int v)]) [0, 1, 2] rfl ?_
  refine z_aload_n C dX1_tell_0 rfl 0 rfl ?_
  refine z_get (ci := 1) (v := .int dm) (Cn := RX1) (T := TX1) (N := 4) C dX1_tell_1 (fun w h => List.mem_cons_of_mem _ (List.mem_append_right _ h)) 0 rfl rfl 2 (by decide) (List.mem_of_getElem? (i := 1) rfl) rfl rfl ?_
  refine z_bipush (v := 100) C dX1_tell_4 (by decide) ?_
  refine z_icmp_ge (tgt := 29) C dX1_tell_6 (by decide) (fun c_1 => ?_) (fun c_1 => ?_)
  · skip
    refine z_aload_n C dX1_tell_29 rfl 0 rfl ?_
    refine z_dup C dX1_tell_30 rfl ?_
    refine z_get (ci := 1) (v := .int dm) (Cn := RX1) (T := TX1) (N := 4) C dX1_tell_31 (fun w h => List.mem_cons_of_mem _ (List.mem_append_right _ h)) 0 rfl rfl 2 (by decide) (List.mem_of_getElem? (i := 1) rfl) rfl rfl ?_
    refine z_iconst (v := 1) C dX1_tell_34 (by decide) ?_
    refine z_iadd C dX1_tell_35 ?_
    refine z_put (ci := 1) (v := .int (dm + 1)) (ty := .int) (Cn := RX1) (T := TX1) (N := 4) (ws' := [(d, .inr (1, [.ref dw, .ref dy, .int (dm + 1), .int da])), (dw, .inl (g.2.2.1, 100, .inl Wf)), (dy, .inl (g.2.2.1, 100, .inl Yf))]) C dX1_tell_36 (fun w h => List.mem_cons_of_mem _ (List.mem_append_right _ h)) tyX1 tyX1_ok nmX1 0 rfl rfl 2 (by decide) (List.mem_of_getElem? (i := 1) rfl) rfl rfl (by decide +kernel) rfl rfl (Nat.le_of_ble_eq_true rfl) rfl ?_
    refine z_aload_n C dX1_tell_39 rfl 0 rfl ?_
    refine z_dup C dX1_tell_40 rfl ?_
    refine z_get (ci := 1) (v := .int da) (Cn := RX1) (T := TX1) (N := 4) C dX1_tell_41 (fun w h => List.mem_cons_of_mem _ (List.mem_append_right _ h)) 0 rfl rfl 3 (by decide) (List.mem_of_getElem? (i := 4) rfl) rfl rfl ?_
    refine z_iload_n C dX1_tell_44 rfl 2 rfl ?_
    refine z_iadd C dX1_tell_45 ?_
    refine z_put (ci := 1) (v := .int (da + v)) (ty := .int) (Cn := RX1) (T := TX1) (N := 4) (ws' := [(d, .inr (1, [.ref dw, .ref dy, .int (dm + 1), .int (da + v)])), (dw, .inl (g.2.2.1, 100, .inl Wf)), (dy, .inl (g.2.2.1, 100, .inl Yf))]) C dX1_tell_46 (fun w h => List.mem_cons_of_mem _ (List.mem_append_right _ h)) tyX1 tyX1_ok nmX1 0 rfl rfl 3 (by decide) (List.mem_of_getElem? (i := 4) rfl) rfl rfl (by decide +kernel) rfl rfl (Nat.le_of_ble_eq_true rfl) rfl ?_
    have he : (f_X1_tell Wf Yf dm da x v) = (Wf, Yf, (dm + 1), (da + v)) := by simp only [f_X1_tell, if_pos c_1]
    exact hret _ _ _ dX1_tell_49 (by first | rw [he] | rfl)
  · skip
    refine z_aload_n C dX1_tell_9 rfl 0 rfl ?_
    refine z_get (ci := 1) (v := .ref dw) (Cn := RX1) (T := TX1) (N := 4) C dX1_tell_10 (fun w h => List.mem_cons_of_mem _ (List.mem_append_right _ h)) 0 rfl rfl 0 (by decide) (List.mem_of_getElem? (i := 2) rfl) rfl rfl ?_
    refine z_aload_n C dX1_tell_13 rfl 0 rfl ?_
    refine z_get (ci := 1) (v := .int dm) (Cn := RX1) (T := TX1) (N := 4) C dX1_tell_14 (fun w h => List.mem_cons_of_mem _ (List.mem_append_right _ h)) 0 rfl rfl 2 (by decide) (List.mem_of_getElem? (i := 1) rfl) rfl rfl ?_
    refine z_iload_n C dX1_tell_17 rfl 1 rfl ?_
    refine z_iast (ws' := [(d, .inr (1, [.ref dw, .ref dy, .int dm, .int da])), (dw, .inl (g.2.2.1, 100, .inl (upd Wf (dm).toNatClampNeg x))), (dy, .inl (g.2.2.1, 100, .inl Yf))]) C dX1_tell_18 1 rfl (zind c_1 hd) rfl ?_
    refine z_aload_n C dX1_tell_19 rfl 0 rfl ?_
    refine z_get (ci := 1) (v := .ref dy) (Cn := RX1) (T := TX1) (N := 4) C dX1_tell_20 (fun w h => List.mem_cons_of_mem _ (List.mem_append_right _ h)) 0 rfl rfl 1 (by decide) (List.mem_of_getElem? (i := 3) rfl) rfl rfl ?_
    refine z_aload_n C dX1_tell_23 rfl 0 rfl ?_
    refine z_get (ci := 1) (v := .int dm) (Cn := RX1) (T := TX1) (N := 4) C dX1_tell_24 (fun w h => List.mem_cons_of_mem _ (List.mem_append_right _ h)) 0 rfl rfl 2 (by decide) (List.mem_of_getElem? (i := 1) rfl) rfl rfl ?_
    refine z_iload_n C dX1_tell_27 rfl 2 rfl ?_
    refine z_iast (ws' := [(d, .inr (1, [.ref dw, .ref dy, .int dm, .int da])), (dw, .inl (g.2.2.1, 100, .inl (upd Wf (dm).toNatClampNeg x))), (dy, .inl (g.2.2.1, 100, .inl (upd Yf (dm).toNatClampNeg v)))]) C dX1_tell_28 2 rfl (zind c_1 hd) rfl ?_
    refine z_aload_n C dX1_tell_29 rfl 0 rfl ?_
    refine z_dup C dX1_tell_30 rfl ?_
    refine z_get (ci := 1) (v := .int dm) (Cn := RX1) (T := TX1) (N := 4) C dX1_tell_31 (fun w h => List.mem_cons_of_mem _ (List.mem_append_right _ h)) 0 rfl rfl 2 (by decide) (List.mem_of_getElem? (i := 1) rfl) rfl rfl ?_
    refine z_iconst (v := 1) C dX1_tell_34 (by decide) ?_
    refine z_iadd C dX1_tell_35 ?_
    refine z_put (ci := 1) (v := .int (dm + 1)) (ty := .int) (Cn := RX1) (T := TX1) (N := 4) (ws' := [(d, .inr (1, [.ref dw, .ref dy, .int (dm + 1), .int da])), (dw, .inl (g.2.2.1, 100, .inl (upd Wf (dm).toNatClampNeg x))), (dy, .inl (g.2.2.1, 100, .inl (upd Yf (dm).toNatClampNeg v)))]) C dX1_tell_36 (fun w h => List.mem_cons_of_mem _ (List.mem_append_right _ h)) tyX1 tyX1_ok nmX1 0 rfl rfl 2 (by decide) (List.mem_of_getElem? (i := 1) rfl) rfl rfl (by decide +kernel) rfl rfl (Nat.le_of_ble_eq_true rfl) rfl ?_
    refine z_aload_n C dX1_tell_39 rfl 0 rfl ?_
    refine z_dup C dX1_tell_40 rfl ?_
    refine z_get (ci := 1) (v := .int da) (Cn := RX1) (T := TX1) (N := 4) C dX1_tell_41 (fun w h => List.mem_cons_of_mem _ (List.mem_append_right _ h)) 0 rfl rfl 3 (by decide) (List.mem_of_getElem? (i := 4) rfl) rfl rfl ?_
    refine z_iload_n C dX1_tell_44 rfl 2 rfl ?_
    refine z_iadd C dX1_tell_45 ?_
    refine z_put (ci := 1) (v := .int (da + v)) (ty := .int) (Cn := RX1) (T := TX1) (N := 4) (ws' := [(d, .inr (1, [.ref dw, .ref dy, .int (dm + 1), .int (da + v)])), (dw, .inl (g.2.2.1, 100, .inl (upd Wf (dm).toNatClampNeg x))), (dy, .inl (g.2.2.1, 100, .inl (upd Yf (dm).toNatClampNeg v)))]) C dX1_tell_46 (fun w h => List.mem_cons_of_mem _ (List.mem_append_right _ h)) tyX1 tyX1_ok nmX1 0 rfl rfl 3 (by decide) (List.mem_of_getElem? (i := 4) rfl) rfl rfl (by decide +kernel) rfl rfl (Nat.le_of_ble_eq_true rfl) rfl ?_
    have he : (f_X1_tell Wf Yf dm da x v) = ((upd Wf (dm).toNatClampNeg x), (upd Yf (dm).toNatClampNeg v), (dm + 1), (da + v)) := by simp only [f_X1_tell, if_neg c_1]
    exact hret _ _ _ dX1_tell_49 (by first | rw [he] | rfl)
set_option maxHeartbeats 4000000 in
set_option maxRecDepth 100000 in
theorem c_X1_many (l : Launch) (g : zG) (d dw dy : Nat) (Wf : Nat → Int32) (Yf : Nat → Int32) (dm : Int32) (da : Int32) : zMI l yX1_many wsX1_many ({ frames := 0, cells := 0, slots := 0, locals := 0 }) g [.ref d] [(d, .inr (1, [.ref dw, .ref dy, .int dm, .int da])), (dw, .inl (g.2.2.1, 100, .inl Wf)), (dy, .inl (g.2.2.1, 100, .inl Yf))] dm [(d, .inr (1, [.ref dw, .ref dy, .int dm, .int da])), (dw, .inl (g.2.2.1, 100, .inl Wf)), (dy, .inl (g.2.2.1, 100, .inl Yf))] := by
  refine zMI_of (cc := cX1_many) (nL := 1) (ty := .int) (by decide) rfl (Nat.le_of_ble_eq_true rfl) rfl ?_
  intro X C hret
  refine z_lv (lv' := [(0, .ref d)]) [0] rfl ?_
  refine z_aload_n C dX1_many_0 rfl 0 rfl ?_
  refine z_get (ci := 1) (v := .int dm) (Cn := RX1) (T := TX1) (N := 4) C dX1_many_1 (fun w h => List.mem_cons_of_mem _ (List.mem_append_right _ h)) 0 rfl rfl 2 (by decide) (List.mem_of_getElem? (i := 1) rfl) rfl rfl ?_
  exact hret _ _ _ _ dX1_many_4 rfl rfl
set_option maxHeartbeats 4000000 in
set_option maxRecDepth 100000 in
theorem c_X1_allBytes (l : Launch) (g : zG) (d dw dy : Nat) (Wf : Nat → Int32) (Yf : Nat → Int32) (dm : Int32) (da : Int32) : zMI l yX1_allBytes wsX1_allBytes ({ frames := 0, cells := 0, slots := 0, locals := 0 }) g [.ref d] [(d, .inr (1, [.ref dw, .ref dy, .int dm, .int da])), (dw, .inl (g.2.2.1, 100, .inl Wf)), (dy, .inl (g.2.2.1, 100, .inl Yf))] da [(d, .inr (1, [.ref dw, .ref dy, .int dm, .int da])), (dw, .inl (g.2.2.1, 100, .inl Wf)), (dy, .inl (g.2.2.1, 100, .inl Yf))] := by
  refine zMI_of (cc := cX1_allBytes) (nL := 1) (ty := .int) (by decide) rfl (Nat.le_of_ble_eq_true rfl) rfl ?_
  intro X C hret
  refine z_lv (lv' := [(0, .ref d)]) [0] rfl ?_
  refine z_aload_n C dX1_allBytes_0 rfl 0 rfl ?_
  refine z_get (ci := 1) (v := .int da) (Cn := RX1) (T := TX1) (N := 4) C dX1_allBytes_1 (fun w h => List.mem_cons_of_mem _ (List.mem_append_right _ h)) 0 rfl rfl 3 (by decide) (List.mem_of_getElem? (i := 1) rfl) rfl rfl ?_
  exact hret _ _ _ _ dX1_allBytes_4 rfl rfl
def f_X1_isKept (dm : Int32) (v : Int32) : Int32 :=
  if v < 0 then
    0
  else
    if dm ≤ v then
      0
    else
      if 100 ≤ v then
        0
      else
        1
theorem zbool_X1_isKept (dm v : Int32) : narrow .boolean (.int (f_X1_isKept dm v)) = .int (f_X1_isKept dm v) := by
  unfold f_X1_isKept
  repeat' split
  all_goals ((try dsimp only); rfl)
theorem zin_kept {dm v r : Int32} (h : f_X1_isKept dm v = r) (c : ¬ r = 0) : vp_in v 100 := by
  unfold f_X1_isKept at h
  split at h
  · exact absurd h.symm c
  · split at h
    · exact absurd h.symm c
    · split at h
      · exact absurd h.symm c
      · next c1 c2 c3 => exact zin100 c1 c3
set_option maxHeartbeats 4000000 in
set_option maxRecDepth 100000 in
theorem c_X1_isKept (l : Launch) (g : zG) (d dw dy : Nat) (Wf : Nat → Int32) (Yf : Nat → Int32) (dm : Int32) (da : Int32) (v : Int32) : zMI l yX1_isKept wsX1_isKept ({ frames := 0, cells := 0, slots := 0, locals := 0 }) g [.ref d, .int v] [(d, .inr (1, [.ref dw, .ref dy, .int dm, .int da])), (dw, .inl (g.2.2.1, 100, .inl Wf)), (dy, .inl (g.2.2.1, 100, .inl Yf))] (f_X1_isKept dm v) [(d, .inr (1, [.ref dw, .ref dy, .int dm, .int da])), (dw, .inl (g.2.2.1, 100, .inl Wf)), (dy, .inl (g.2.2.1, 100, .inl Yf))] := by
  refine zMI_of (cc := cX1_isKept) (nL := 2) (ty := .boolean) (by decide) rfl (Nat.le_of_ble_eq_true rfl) (zbool_X1_isKept _ _) ?_
  intro X C hret
  refine z_lv (lv' := [(0, .ref d), (1, .int v)]) [0, 1] rfl ?_
  refine z_iload_n C dX1_isKept_0 rfl 1 rfl ?_
  refine z_if_lt (tgt := 22) C dX1_isKept_1 (by decide) (fun c_1 => ?_) (fun c_1 => ?_)
  · skip
    refine z_iconst (v := 0) C dX1_isKept_22 (by decide) ?_
    have he : (f_X1_isKept dm v) = 0 := by simp only [f_X1_isKept, if_pos c_1]
    exact hret _ _ _ _ dX1_isKept_23 (by first | rw [he] | rfl) (by first | rw [he] | rfl)
  · skip
    refine z_iload_n C dX1_isKept_4 rfl 1 rfl ?_
    refine z_aload_n C dX1_isKept_5 rfl 0 rfl ?_
    refine z_get (ci := 1) (v := .int dm) (Cn := RX1) (T := TX1) (N := 4) C dX1_isKept_6 (fun w h => List.mem_cons_of_mem _ (List.mem_append_right _ h)) 0 rfl rfl 2 (by decide) (List.mem_of_getElem? (i := 1) rfl) rfl rfl ?_
    refine z_icmp_ge (tgt := 22) C dX1_isKept_9 (by decide) (fun c_2 => ?_) (fun c_2 => ?_)
    · skip
      refine z_iconst (v := 0) C dX1_isKept_22 (by decide) ?_
      have he : (f_X1_isKept dm v) = 0 := by simp only [f_X1_isKept, if_neg c_1, if_pos c_2]
      exact hret _ _ _ _ dX1_isKept_23 (by first | rw [he] | rfl) (by first | rw [he] | rfl)
    · skip
      refine z_iload_n C dX1_isKept_12 rfl 1 rfl ?_
      refine z_bipush (v := 100) C dX1_isKept_13 (by decide) ?_
      refine z_icmp_ge (tgt := 22) C dX1_isKept_15 (by decide) (fun c_3 => ?_) (fun c_3 => ?_)
      · skip
        refine z_iconst (v := 0) C dX1_isKept_22 (by decide) ?_
        have he : (f_X1_isKept dm v) = 0 := by simp only [f_X1_isKept, if_neg c_1, if_neg c_2, if_pos c_3]
        exact hret _ _ _ _ dX1_isKept_23 (by first | rw [he] | rfl) (by first | rw [he] | rfl)
      · skip
        refine z_iconst (v := 1) C dX1_isKept_18 (by decide) ?_
        refine z_goto (tgt := 23) C dX1_isKept_19 (by decide) ?_
        have he : (f_X1_isKept dm v) = 1 := by simp only [f_X1_isKept, if_neg c_1, if_neg c_2, if_neg c_3]
        exact hret _ _ _ _ dX1_isKept_23 (by first | rw [he] | rfl) (by first | rw [he] | rfl)
def f_X1_whichAt (Wf : Nat → Int32) (dm : Int32) (v : Int32) : Int32 :=
  if (f_X1_isKept dm v) = 0 then
    (-1)
  else
    (Wf (v).toNatClampNeg)
set_option maxHeartbeats 4000000 in
set_option maxRecDepth 100000 in
theorem c_X1_whichAt (l : Launch) (g : zG) (d dw dy : Nat) (Wf : Nat → Int32) (Yf : Nat → Int32) (dm : Int32) (da : Int32) (v : Int32) : zMI l yX1_whichAt wsX1_whichAt ({ frames := 1, cells := 0, slots := 0, locals := 21 }) g [.ref d, .int v] [(d, .inr (1, [.ref dw, .ref dy, .int dm, .int da])), (dw, .inl (g.2.2.1, 100, .inl Wf)), (dy, .inl (g.2.2.1, 100, .inl Yf))] (f_X1_whichAt Wf dm v) [(d, .inr (1, [.ref dw, .ref dy, .int dm, .int da])), (dw, .inl (g.2.2.1, 100, .inl Wf)), (dy, .inl (g.2.2.1, 100, .inl Yf))] := by
  refine zMI_of (cc := cX1_whichAt) (nL := 2) (ty := .int) (by decide) rfl (Nat.le_of_ble_eq_true rfl) rfl ?_
  intro X C hret
  refine z_lv (lv' := [(0, .ref d), (1, .int v)]) [0, 1] rfl ?_
  refine z_aload_n C dX1_whichAt_0 rfl 0 rfl ?_
  refine z_iload_n C dX1_whichAt_1 rfl 1 rfl ?_
  refine z_callVi (n := 1) (isC := [0, 1, 2]) (isR := []) (isP := [0, 1, 2]) (As := [.int v]) (rest := []) (wr := []) (ws2 := [(d, .inr (1, [.ref dw, .ref dy, .int dm, .int da])), (dw, .inl (g.2.2.1, 100, .inl Wf)), (dy, .inl (g.2.2.1, 100, .inl Yf))]) C dX1_whichAt_2 (c_X1_isKept (zl X) g d dw dy Wf Yf dm da v) gX1_whichAt_X1_isKept rfl ⟨rfl, rfl⟩ (by decide +kernel) (by decide) (by decide) rfl rfl rfl rfl (Nat.le_of_ble_eq_true rfl) rfl rfl ⟨rfl, rfl, rfl⟩ (by decide) rfl ?_
  generalize hT1 : (f_X1_isKept dm v) = rq1
  refine z_if_eq (tgt := 17) C dX1_whichAt_5 (by decide) (fun c_2 => ?_) (fun c_2 => ?_)
  · skip
    refine z_iconst (v := (-1)) C dX1_whichAt_17 (by decide) ?_
    have he : (f_X1_whichAt Wf dm v) = (-1) := by simp only [f_X1_whichAt, hT1, if_pos c_2]
    exact hret _ _ _ _ dX1_whichAt_18 (by first | rw [he] | rfl) (by first | rw [he] | rfl)
  · skip
    refine z_aload_n C dX1_whichAt_8 rfl 0 rfl ?_
    refine z_get (ci := 1) (v := .ref dw) (Cn := RX1) (T := TX1) (N := 4) C dX1_whichAt_9 (fun w h => List.mem_cons_of_mem _ (List.mem_append_right _ h)) 0 rfl rfl 0 (by decide) (List.mem_of_getElem? (i := 1) rfl) rfl rfl ?_
    refine z_iload_n C dX1_whichAt_12 rfl 1 rfl ?_
    refine z_iald C dX1_whichAt_13 1 rfl (zin_kept hT1 c_2) ?_
    refine z_goto (tgt := 18) C dX1_whichAt_14 (by decide) ?_
    have he : (f_X1_whichAt Wf dm v) = (Wf (v).toNatClampNeg) := by simp only [f_X1_whichAt, hT1, if_neg c_2]
    exact hret _ _ _ _ dX1_whichAt_18 (by first | rw [he] | rfl) (by first | rw [he] | rfl)
def f_X1_bytesAt (Yf : Nat → Int32) (dm : Int32) (v : Int32) : Int32 :=
  if (f_X1_isKept dm v) = 0 then
    (-1)
  else
    (Yf (v).toNatClampNeg)
set_option maxHeartbeats 4000000 in
set_option maxRecDepth 100000 in
theorem c_X1_bytesAt (l : Launch) (g : zG) (d dw dy : Nat) (Wf : Nat → Int32) (Yf : Nat → Int32) (dm : Int32) (da : Int32) (v : Int32) : zMI l yX1_bytesAt wsX1_bytesAt ({ frames := 1, cells := 0, slots := 0, locals := 21 }) g [.ref d, .int v] [(d, .inr (1, [.ref dw, .ref dy, .int dm, .int da])), (dw, .inl (g.2.2.1, 100, .inl Wf)), (dy, .inl (g.2.2.1, 100, .inl Yf))] (f_X1_bytesAt Yf dm v) [(d, .inr (1, [.ref dw, .ref dy, .int dm, .int da])), (dw, .inl (g.2.2.1, 100, .inl Wf)), (dy, .inl (g.2.2.1, 100, .inl Yf))] := by
  refine zMI_of (cc := cX1_bytesAt) (nL := 2) (ty := .int) (by decide) rfl (Nat.le_of_ble_eq_true rfl) rfl ?_
  intro X C hret
  refine z_lv (lv' := [(0, .ref d), (1, .int v)]) [0, 1] rfl ?_
  refine z_aload_n C dX1_bytesAt_0 rfl 0 rfl ?_
  refine z_iload_n C dX1_bytesAt_1 rfl 1 rfl ?_
  refine z_callVi (n := 1) (isC := [0, 1, 2]) (isR := []) (isP := [0, 1, 2]) (As := [.int v]) (rest := []) (wr := []) (ws2 := [(d, .inr (1, [.ref dw, .ref dy, .int dm, .int da])), (dw, .inl (g.2.2.1, 100, .inl Wf)), (dy, .inl (g.2.2.1, 100, .inl Yf))]) C dX1_bytesAt_2 (c_X1_isKept (zl X) g d dw dy Wf Yf dm da v) gX1_bytesAt_X1_isKept rfl ⟨rfl, rfl⟩ (by decide +kernel) (by decide) (by decide) rfl rfl rfl rfl (Nat.le_of_ble_eq_true rfl) rfl rfl ⟨rfl, rfl, rfl⟩ (by decide) rfl ?_
  generalize hT1 : (f_X1_isKept dm v) = rq1
  refine z_if_eq (tgt := 17) C dX1_bytesAt_5 (by decide) (fun c_2 => ?_) (fun c_2 => ?_)
  · skip
    refine z_iconst (v := (-1)) C dX1_bytesAt_17 (by decide) ?_
    have he : (f_X1_bytesAt Yf dm v) = (-1) := by simp only [f_X1_bytesAt, hT1, if_pos c_2]
    exact hret _ _ _ _ dX1_bytesAt_18 (by first | rw [he] | rfl) (by first | rw [he] | rfl)
  · skip
    refine z_aload_n C dX1_bytesAt_8 rfl 0 rfl ?_
    refine z_get (ci := 1) (v := .ref dy) (Cn := RX1) (T := TX1) (N := 4) C dX1_bytesAt_9 (fun w h => List.mem_cons_of_mem _ (List.mem_append_right _ h)) 0 rfl rfl 1 (by decide) (List.mem_of_getElem? (i := 1) rfl) rfl rfl ?_
    refine z_iload_n C dX1_bytesAt_12 rfl 1 rfl ?_
    refine z_iald C dX1_bytesAt_13 2 rfl (zin_kept hT1 c_2) ?_
    refine z_goto (tgt := 18) C dX1_bytesAt_14 (by decide) ?_
    have he : (f_X1_bytesAt Yf dm v) = (Yf (v).toNatClampNeg) := by simp only [f_X1_bytesAt, hT1, if_neg c_2]
    exact hret _ _ _ _ dX1_bytesAt_18 (by first | rw [he] | rfl) (by first | rw [he] | rfl)
set_option maxHeartbeats 4000000 in
set_option maxRecDepth 100000 in
theorem c_X0_bytes (l : Launch) (g : zG) (b br ba : Nat) (F : Nat → Int32) (z : Int32) (m : Int32) : zMR l yX0_bytes wsX0_bytes ({ frames := 0, cells := 0, slots := 0, locals := 0 }) g [.ref b] [(b, .inr (0, [.ref br, .int z])), (br, .inr (3, [.ref ba, .int m])), (ba, .inl (g.2.1, 4096, .inl F))] br [(b, .inr (0, [.ref br, .int z])), (br, .inr (3, [.ref ba, .int m])), (ba, .inl (g.2.1, 4096, .inl F))] := by
  refine zMR_of (cc := cX0_bytes) (nL := 1) (ty := (.object "FragmentLog$Row")) (by decide) rfl (Nat.le_of_ble_eq_true rfl) (Or.inl ⟨_, rfl⟩) ?_
  intro X C hret
  refine z_lv (lv' := [(0, .ref b)]) [0] rfl ?_
  refine z_aload_n C dX0_bytes_0 rfl 0 rfl ?_
  refine z_get (ci := 0) (v := .ref br) (Cn := RX0) (T := TX0) (N := 2) C dX0_bytes_1 (fun w h => List.mem_cons_of_mem _ (List.mem_append_right _ h)) 0 rfl rfl 0 (by decide) (List.mem_of_getElem? (i := 1) rfl) rfl rfl ?_
  exact hret _ _ _ _ dX0_bytes_4 rfl rfl
def f_X0_startAnew (m : Int32) (v : Int32) : Int32 × Int32 :=
  (v, (f_X3_shorten m 0))
set_option maxHeartbeats 4000000 in
set_option maxRecDepth 100000 in
theorem c_X0_startAnew (l : Launch) (g : zG) (b br ba : Nat) (F : Nat → Int32) (z : Int32) (m : Int32) (v : Int32) (hm : zok 4096 m) : zMV l yX0_startAnew wsX0_startAnew ({ frames := 1, cells := 0, slots := 0, locals := 21 }) g [.ref b, .int v] [(b, .inr (0, [.ref br, .int z])), (br, .inr (3, [.ref ba, .int m])), (ba, .inl (g.2.1, 4096, .inl F))] [(b, .inr (0, [.ref br, .int ((f_X0_startAnew m v).1)])), (br, .inr (3, [.ref ba, .int ((f_X0_startAnew m v).2)])), (ba, .inl (g.2.1, 4096, .inl F))] := by
  refine zMV_of (cc := cX0_startAnew) (nL := 2) (by decide) rfl (Nat.le_of_ble_eq_true rfl) ?_
  intro X C hret
  refine z_lv (lv' := [(0, .ref b), (1, .int v)]) [0, 1] rfl ?_
  refine z_aload_n C dX0_startAnew_0 rfl 0 rfl ?_
  refine z_get (ci := 0) (v := .ref br) (Cn := RX0) (T := TX0) (N := 2) C dX0_startAnew_1 (fun w h => List.mem_cons_of_mem _ (List.mem_append_left _ (List.mem_append_right _ h))) 0 rfl rfl 0 (by decide) (List.mem_of_getElem? (i := 1) rfl) rfl rfl ?_
  refine z_iconst (v := 0) C dX0_startAnew_4 (by decide) ?_
  refine z_callVv (n := 1) (isC := [1, 2]) (isR := [0]) (isP := [0, 1, 2]) (As := [.int 0]) (rest := []) (wr := [(b, .inr (0, [.ref br, .int z]))]) (ws2 := [(b, .inr (0, [.ref br, .int z])), (br, .inr (3, [.ref ba, .int (f_X3_shorten m 0)])), (ba, .inl (g.2.1, 4096, .inl F))]) C dX0_startAnew_5 (c_X3_shorten (zl X) g br ba 4096 F m 0 hm) gX0_startAnew_X3_shorten rfl ⟨rfl, rfl⟩ (by decide +kernel) (by decide) (by decide) rfl rfl rfl rfl (Nat.le_of_ble_eq_true rfl) rfl rfl ⟨rfl, rfl, rfl⟩ (by decide) rfl ?_
  generalize hT1 : (f_X3_shorten m 0) = mq1
  have k1_m : zok 4096 mq1 := zok_X3_shorten hm hT1
  refine z_aload_n C dX0_startAnew_8 rfl 0 rfl ?_
  refine z_iload_n C dX0_startAnew_9 rfl 1 rfl ?_
  refine z_put (ci := 0) (v := .int v) (ty := .int) (Cn := RX0) (T := TX0) (N := 2) (ws' := [(b, .inr (0, [.ref br, .int v])), (br, .inr (3, [.ref ba, .int mq1])), (ba, .inl (g.2.1, 4096, .inl F))]) C dX0_startAnew_10 (fun w h => List.mem_cons_of_mem _ (List.mem_append_left _ (List.mem_append_right _ h))) tyX0 tyX0_ok nmX0 0 rfl rfl 1 (by decide) (List.mem_of_getElem? (i := 2) rfl) rfl rfl (by decide +kernel) rfl rfl (Nat.le_of_ble_eq_true rfl) rfl ?_
  have he : (f_X0_startAnew m v) = (v, mq1) := by simp only [f_X0_startAnew, hT1]
  exact hret _ _ _ dX0_startAnew_13 (by first | rw [he] | rfl)
set_option maxHeartbeats 4000000 in
set_option maxRecDepth 100000 in
theorem c_X0_startOfBlock (l : Launch) (g : zG) (b br ba : Nat) (F : Nat → Int32) (z : Int32) (m : Int32) (v : Int32) (hz : zsz z) : zMI l yX0_startOfBlock wsX0_startOfBlock ({ frames := 0, cells := 0, slots := 0, locals := 0 }) g [.ref b, .int v] [(b, .inr (0, [.ref br, .int z])), (br, .inr (3, [.ref ba, .int m])), (ba, .inl (g.2.1, 4096, .inl F))] (v - (zMod v z)) [(b, .inr (0, [.ref br, .int z])), (br, .inr (3, [.ref ba, .int m])), (ba, .inl (g.2.1, 4096, .inl F))] := by
  refine zMI_of (cc := cX0_startOfBlock) (nL := 2) (ty := .int) (by decide) rfl (Nat.le_of_ble_eq_true rfl) rfl ?_
  intro X C hret
  refine z_lv (lv' := [(0, .ref b), (1, .int v)]) [0, 1] rfl ?_
  refine z_iload_n C dX0_startOfBlock_0 rfl 1 rfl ?_
  refine z_iload_n C dX0_startOfBlock_1 rfl 1 rfl ?_
  refine z_aload_n C dX0_startOfBlock_2 rfl 0 rfl ?_
  refine z_get (ci := 0) (v := .int z) (Cn := RX0) (T := TX0) (N := 2) C dX0_startOfBlock_3 (fun w h => List.mem_cons_of_mem _ (List.mem_append_right _ h)) 0 rfl rfl 1 (by decide) (List.mem_of_getElem? (i := 1) rfl) rfl rfl ?_
  refine z_irem C dX0_startOfBlock_6 (zsz_ne hz) ?_
  refine z_isub C dX0_startOfBlock_7 ?_
  exact hret _ _ _ _ dX0_startOfBlock_8 rfl rfl
set_option maxHeartbeats 4000000 in
set_option maxRecDepth 100000 in
theorem c_X0_endOfBlock (l : Launch) (g : zG) (b br ba : Nat) (F : Nat → Int32) (z : Int32) (m : Int32) (v : Int32) (hz : zsz z) : zMI l yX0_endOfBlock wsX0_endOfBlock ({ frames := 1, cells := 0, slots := 0, locals := 21 }) g [.ref b, .int v] [(b, .inr (0, [.ref br, .int z])), (br, .inr (3, [.ref ba, .int m])), (ba, .inl (g.2.1, 4096, .inl F))] ((v - (zMod v z)) + z) [(b, .inr (0, [.ref br, .int z])), (br, .inr (3, [.ref ba, .int m])), (ba, .inl (g.2.1, 4096, .inl F))] := by
  refine zMI_of (cc := cX0_endOfBlock) (nL := 2) (ty := .int) (by decide) rfl (Nat.le_of_ble_eq_true rfl) rfl ?_
  intro X C hret
  refine z_lv (lv' := [(0, .ref b), (1, .int v)]) [0, 1] rfl ?_
  refine z_aload_n C dX0_endOfBlock_0 rfl 0 rfl ?_
  refine z_iload_n C dX0_endOfBlock_1 rfl 1 rfl ?_
  refine z_callVi (n := 1) (isC := [0, 1, 2]) (isR := []) (isP := [0, 1, 2]) (As := [.int v]) (rest := []) (wr := []) (ws2 := [(b, .inr (0, [.ref br, .int z])), (br, .inr (3, [.ref ba, .int m])), (ba, .inl (g.2.1, 4096, .inl F))]) C dX0_endOfBlock_2 (c_X0_startOfBlock (zl X) g b br ba F z m v hz) gX0_endOfBlock_X0_startOfBlock rfl ⟨rfl, rfl⟩ (by decide +kernel) (by decide) (by decide) rfl rfl rfl rfl (Nat.le_of_ble_eq_true rfl) rfl rfl ⟨rfl, rfl, rfl⟩ (by decide) rfl ?_
  refine z_aload_n C dX0_endOfBlock_5 rfl 0 rfl ?_
  refine z_get (ci := 0) (v := .int z) (Cn := RX0) (T := TX0) (N := 2) C dX0_endOfBlock_6 (fun w h => List.mem_cons_of_mem _ (List.mem_append_right _ h)) 0 rfl rfl 1 (by decide) (List.mem_of_getElem? (i := 1) rfl) rfl rfl ?_
  refine z_iadd C dX0_endOfBlock_9 ?_
  exact hret _ _ _ _ dX0_endOfBlock_10 rfl rfl
def f_X0_isWhole (z : Int32) (m : Int32) (v : Int32) : Int32 :=
  if m < ((v - (zMod v z)) + z) then
    0
  else
    1
theorem zbool_X0_isWhole (m z v : Int32) : narrow .boolean (.int (f_X0_isWhole m z v)) = .int (f_X0_isWhole m z v) := by
  unfold f_X0_isWhole
  repeat' split
  all_goals ((try dsimp only); rfl)
set_option maxHeartbeats 4000000 in
set_option maxRecDepth 100000 in
theorem c_X0_isWhole (l : Launch) (g : zG) (b br ba : Nat) (F : Nat → Int32) (z : Int32) (m : Int32) (v : Int32) (hz : zsz z) : zMI l yX0_isWhole wsX0_isWhole ({ frames := 2, cells := 0, slots := 0, locals := 42 }) g [.ref b, .int v] [(b, .inr (0, [.ref br, .int z])), (br, .inr (3, [.ref ba, .int m])), (ba, .inl (g.2.1, 4096, .inl F))] (f_X0_isWhole z m v) [(b, .inr (0, [.ref br, .int z])), (br, .inr (3, [.ref ba, .int m])), (ba, .inl (g.2.1, 4096, .inl F))] := by
  refine zMI_of (cc := cX0_isWhole) (nL := 2) (ty := .boolean) (by decide) rfl (Nat.le_of_ble_eq_true rfl) (zbool_X0_isWhole _ _ _) ?_
  intro X C hret
  refine z_lv (lv' := [(0, .ref b), (1, .int v)]) [0, 1] rfl ?_
  refine z_aload_n C dX0_isWhole_0 rfl 0 rfl ?_
  refine z_iload_n C dX0_isWhole_1 rfl 1 rfl ?_
  refine z_callVi (n := 1) (isC := [0, 1, 2]) (isR := []) (isP := [0, 1, 2]) (As := [.int v]) (rest := []) (wr := []) (ws2 := [(b, .inr (0, [.ref br, .int z])), (br, .inr (3, [.ref ba, .int m])), (ba, .inl (g.2.1, 4096, .inl F))]) C dX0_isWhole_2 (c_X0_endOfBlock (zl X) g b br ba F z m v hz) gX0_isWhole_X0_endOfBlock rfl ⟨rfl, rfl⟩ (by decide +kernel) (by decide) (by decide) rfl rfl rfl rfl (Nat.le_of_ble_eq_true rfl) rfl rfl ⟨rfl, rfl, rfl⟩ (by decide) rfl ?_
  refine z_aload_n C dX0_isWhole_5 rfl 0 rfl ?_
  refine z_get (ci := 0) (v := .ref br) (Cn := RX0) (T := TX0) (N := 2) C dX0_isWhole_6 (fun w h => List.mem_cons_of_mem _ (List.mem_append_left _ (List.mem_append_right _ h))) 0 rfl rfl 0 (by decide) (List.mem_of_getElem? (i := 1) rfl) rfl rfl ?_
  refine z_callVi (n := 0) (isC := [1, 2]) (isR := [0]) (isP := [0, 1, 2]) (As := []) (rest := [.int ((v - (zMod v z)) + z)]) (wr := [(b, .inr (0, [.ref br, .int z]))]) (ws2 := [(b, .inr (0, [.ref br, .int z])), (br, .inr (3, [.ref ba, .int m])), (ba, .inl (g.2.1, 4096, .inl F))]) C dX0_isWhole_9 (c_X3_many (zl X) g br ba 4096 F m) gX0_isWhole_X3_many rfl ⟨rfl, rfl⟩ (by decide +kernel) (by decide) (by decide) rfl rfl rfl rfl (Nat.le_of_ble_eq_true rfl) rfl rfl ⟨rfl, rfl, rfl⟩ (by decide) rfl ?_
  refine z_icmp_gt (tgt := 19) C dX0_isWhole_12 (by decide) (fun c_3 => ?_) (fun c_3 => ?_)
  · skip
    refine z_iconst (v := 0) C dX0_isWhole_19 (by decide) ?_
    have he : (f_X0_isWhole z m v) = 0 := by simp only [f_X0_isWhole, if_pos c_3]
    exact hret _ _ _ _ dX0_isWhole_20 (by first | rw [he] | rfl) (by first | rw [he] | rfl)
  · skip
    refine z_iconst (v := 1) C dX0_isWhole_15 (by decide) ?_
    refine z_goto (tgt := 20) C dX0_isWhole_16 (by decide) ?_
    have he : (f_X0_isWhole z m v) = 1 := by simp only [f_X0_isWhole, if_neg c_3]
    exact hret _ _ _ _ dX0_isWhole_20 (by first | rw [he] | rfl) (by first | rw [he] | rfl)
set_option maxHeartbeats 4000000 in
set_option maxRecDepth 100000 in
theorem c_X0_leftInBlock (l : Launch) (g : zG) (b br ba : Nat) (F : Nat → Int32) (z : Int32) (m : Int32) (v : Int32) (hz : zsz z) : zMI l yX0_leftInBlock wsX0_leftInBlock ({ frames := 2, cells := 0, slots := 0, locals := 42 }) g [.ref b, .int v] [(b, .inr (0, [.ref br, .int z])), (br, .inr (3, [.ref ba, .int m])), (ba, .inl (g.2.1, 4096, .inl F))] ((zMin ((v - (zMod v z)) + z) m) - v) [(b, .inr (0, [.ref br, .int z])), (br, .inr (3, [.ref ba, .int m])), (ba, .inl (g.2.1, 4096, .inl F))] := by
  refine zMI_of (cc := cX0_leftInBlock) (nL := 2) (ty := .int) (by decide) rfl (Nat.le_of_ble_eq_true rfl) rfl ?_
  intro X C hret
  refine z_lv (lv' := [(0, .ref b), (1, .int v)]) [0, 1] rfl ?_
  refine z_aload_n C dX0_leftInBlock_0 rfl 0 rfl ?_
  refine z_iload_n C dX0_leftInBlock_1 rfl 1 rfl ?_
  refine z_callVi (n := 1) (isC := [0, 1, 2]) (isR := []) (isP := [0, 1, 2]) (As := [.int v]) (rest := []) (wr := []) (ws2 := [(b, .inr (0, [.ref br, .int z])), (br, .inr (3, [.ref ba, .int m])), (ba, .inl (g.2.1, 4096, .inl F))]) C dX0_leftInBlock_2 (c_X0_endOfBlock (zl X) g b br ba F z m v hz) gX0_leftInBlock_X0_endOfBlock rfl ⟨rfl, rfl⟩ (by decide +kernel) (by decide) (by decide) rfl rfl rfl rfl (Nat.le_of_ble_eq_true rfl) rfl rfl ⟨rfl, rfl, rfl⟩ (by decide) rfl ?_
  refine z_aload_n C dX0_leftInBlock_5 rfl 0 rfl ?_
  refine z_get (ci := 0) (v := .ref br) (Cn := RX0) (T := TX0) (N := 2) C dX0_leftInBlock_6 (fun w h => List.mem_cons_of_mem _ (List.mem_append_left _ (List.mem_append_right _ h))) 0 rfl rfl 0 (by decide) (List.mem_of_getElem? (i := 1) rfl) rfl rfl ?_
  refine z_callVi (n := 0) (isC := [1, 2]) (isR := [0]) (isP := [0, 1, 2]) (As := []) (rest := [.int ((v - (zMod v z)) + z)]) (wr := [(b, .inr (0, [.ref br, .int z]))]) (ws2 := [(b, .inr (0, [.ref br, .int z])), (br, .inr (3, [.ref ba, .int m])), (ba, .inl (g.2.1, 4096, .inl F))]) C dX0_leftInBlock_9 (c_X3_many (zl X) g br ba 4096 F m) gX0_leftInBlock_X3_many rfl ⟨rfl, rfl⟩ (by decide +kernel) (by decide) (by decide) rfl rfl rfl rfl (Nat.le_of_ble_eq_true rfl) rfl rfl ⟨rfl, rfl, rfl⟩ (by decide) rfl ?_
  refine z_min C dX0_leftInBlock_12 (List.mem_of_getElem? (i := 2) rfl) (List.mem_of_getElem? (i := 3) rfl) (List.mem_of_getElem? (i := 4) rfl) (List.mem_of_getElem? (i := 5) rfl) (by decide) (by decide) (by decide) (by decide) ?_
  refine z_iload_n C dX0_leftInBlock_15 rfl 1 rfl ?_
  refine z_isub C dX0_leftInBlock_16 ?_
  exact hret _ _ _ _ dX0_leftInBlock_17 rfl rfl
set_option maxHeartbeats 4000000 in
set_option maxRecDepth 100000 in
theorem c_X0_roomInBlock (l : Launch) (g : zG) (b br ba : Nat) (F : Nat → Int32) (z : Int32) (m : Int32) (hz : zsz z) : zMI l yX0_roomInBlock wsX0_roomInBlock ({ frames := 2, cells := 0, slots := 0, locals := 42 }) g [.ref b] [(b, .inr (0, [.ref br, .int z])), (br, .inr (3, [.ref ba, .int m])), (ba, .inl (g.2.1, 4096, .inl F))] (((m - (zMod m z)) + z) - m) [(b, .inr (0, [.ref br, .int z])), (br, .inr (3, [.ref ba, .int m])), (ba, .inl (g.2.1, 4096, .inl F))] := by
  refine zMI_of (cc := cX0_roomInBlock) (nL := 1) (ty := .int) (by decide) rfl (Nat.le_of_ble_eq_true rfl) rfl ?_
  intro X C hret
  refine z_lv (lv' := [(0, .ref b)]) [0] rfl ?_
  refine z_aload_n C dX0_roomInBlock_0 rfl 0 rfl ?_
  refine z_aload_n C dX0_roomInBlock_1 rfl 0 rfl ?_
  refine z_get (ci := 0) (v := .ref br) (Cn := RX0) (T := TX0) (N := 2) C dX0_roomInBlock_2 (fun w h => List.mem_cons_of_mem _ (List.mem_append_left _ (List.mem_append_right _ h))) 0 rfl rfl 0 (by decide) (List.mem_of_getElem? (i := 1) rfl) rfl rfl ?_
  refine z_callVi (n := 0) (isC := [1, 2]) (isR := [0]) (isP := [0, 1, 2]) (As := []) (rest := [.ref b]) (wr := [(b, .inr (0, [.ref br, .int z]))]) (ws2 := [(b, .inr (0, [.ref br, .int z])), (br, .inr (3, [.ref ba, .int m])), (ba, .inl (g.2.1, 4096, .inl F))]) C dX0_roomInBlock_5 (c_X3_many (zl X) g br ba 4096 F m) gX0_roomInBlock_X3_many rfl ⟨rfl, rfl⟩ (by decide +kernel) (by decide) (by decide) rfl rfl rfl rfl (Nat.le_of_ble_eq_true rfl) rfl rfl ⟨rfl, rfl, rfl⟩ (by decide) rfl ?_
  refine z_callVi (n := 1) (isC := [0, 1, 2]) (isR := []) (isP := [0, 1, 2]) (As := [.int m]) (rest := []) (wr := []) (ws2 := [(b, .inr (0, [.ref br, .int z])), (br, .inr (3, [.ref ba, .int m])), (ba, .inl (g.2.1, 4096, .inl F))]) C dX0_roomInBlock_8 (c_X0_endOfBlock (zl X) g b br ba F z m m hz) gX0_roomInBlock_X0_endOfBlock rfl ⟨rfl, rfl⟩ (by decide +kernel) (by decide) (by decide) rfl rfl rfl rfl (Nat.le_of_ble_eq_true rfl) rfl rfl ⟨rfl, rfl, rfl⟩ (by decide) rfl ?_
  refine z_aload_n C dX0_roomInBlock_11 rfl 0 rfl ?_
  refine z_get (ci := 0) (v := .ref br) (Cn := RX0) (T := TX0) (N := 2) C dX0_roomInBlock_12 (fun w h => List.mem_cons_of_mem _ (List.mem_append_left _ (List.mem_append_right _ h))) 0 rfl rfl 0 (by decide) (List.mem_of_getElem? (i := 1) rfl) rfl rfl ?_
  refine z_callVi (n := 0) (isC := [1, 2]) (isR := [0]) (isP := [0, 1, 2]) (As := []) (rest := [.int ((m - (zMod m z)) + z)]) (wr := [(b, .inr (0, [.ref br, .int z]))]) (ws2 := [(b, .inr (0, [.ref br, .int z])), (br, .inr (3, [.ref ba, .int m])), (ba, .inl (g.2.1, 4096, .inl F))]) C dX0_roomInBlock_15 (c_X3_many (zl X) g br ba 4096 F m) gX0_roomInBlock_X3_many rfl ⟨rfl, rfl⟩ (by decide +kernel) (by decide) (by decide) rfl rfl rfl rfl (Nat.le_of_ble_eq_true rfl) rfl rfl ⟨rfl, rfl, rfl⟩ (by decide) rfl ?_
  refine z_isub C dX0_roomInBlock_18 ?_
  exact hret _ _ _ _ dX0_roomInBlock_19 rfl rfl
def f_X0_kindOf (p : Int32) (q : Int32) : Int32 :=
  if p = 0 then
    if q = 0 then
      3
    else
      4
  else
    if q = 0 then
      2
    else
      1
set_option maxHeartbeats 4000000 in
set_option maxRecDepth 100000 in
theorem c_X0_kindOf (l : Launch) (g : zG) (p : Int32) (q : Int32) : zMI l yX0_kindOf wsX0_kindOf ({ frames := 0, cells := 0, slots := 0, locals := 0 }) g [.int p, .int q] [] (f_X0_kindOf p q) [] := by
  refine zMI_of (cc := cX0_kindOf) (nL := 2) (ty := .int) (by decide) rfl (Nat.le_of_ble_eq_true rfl) rfl ?_
  intro X C hret
  refine z_lv (lv' := [(0, .int p), (1, .int q)]) [0, 1] rfl ?_
  refine z_iload_n C dX0_kindOf_0 rfl 0 rfl ?_
  refine z_if_eq (tgt := 14) C dX0_kindOf_1 (by decide) (fun c_1 => ?_) (fun c_1 => ?_)
  · skip
    refine z_iload_n C dX0_kindOf_14 rfl 1 rfl ?_
    refine z_if_eq (tgt := 22) C dX0_kindOf_15 (by decide) (fun c_2 => ?_) (fun c_2 => ?_)
    · skip
      refine z_iconst (v := 3) C dX0_kindOf_22 (by decide) ?_
      have he : (f_X0_kindOf p q) = 3 := by simp only [f_X0_kindOf, if_pos c_1, if_pos c_2]
      exact hret _ _ _ _ dX0_kindOf_23 (by first | rw [he] | rfl) (by first | rw [he] | rfl)
    · skip
      refine z_iconst (v := 4) C dX0_kindOf_18 (by decide) ?_
      refine z_goto (tgt := 23) C dX0_kindOf_19 (by decide) ?_
      have he : (f_X0_kindOf p q) = 4 := by simp only [f_X0_kindOf, if_pos c_1, if_neg c_2]
      exact hret _ _ _ _ dX0_kindOf_23 (by first | rw [he] | rfl) (by first | rw [he] | rfl)
  · skip
    refine z_iload_n C dX0_kindOf_4 rfl 1 rfl ?_
    refine z_if_eq (tgt := 12) C dX0_kindOf_5 (by decide) (fun c_3 => ?_) (fun c_3 => ?_)
    · skip
      refine z_iconst (v := 2) C dX0_kindOf_12 (by decide) ?_
      have he : (f_X0_kindOf p q) = 2 := by simp only [f_X0_kindOf, if_neg c_1, if_pos c_3]
      exact hret _ _ _ _ dX0_kindOf_13 (by first | rw [he] | rfl) (by first | rw [he] | rfl)
    · skip
      refine z_iconst (v := 1) C dX0_kindOf_8 (by decide) ?_
      refine z_goto (tgt := 13) C dX0_kindOf_9 (by decide) ?_
      have he : (f_X0_kindOf p q) = 1 := by simp only [f_X0_kindOf, if_neg c_1, if_neg c_3]
      exact hret _ _ _ _ dX0_kindOf_13 (by first | rw [he] | rfl) (by first | rw [he] | rfl)
def f_X0_fillBlock (F : Nat → Int32) (z : Int32) (m : Int32) : Int32 × (Nat → Int32) × Int32 :=
  if (((m - (zMod m z)) + z) - m) < 7 then
    if (f_X3_hasRoomFor 4096 m (((m - (zMod m z)) + z) - m)) = 0 then
      (0, F, m)
    else
      match (f_X3_addLowestFirst 4096 F m 0 (((m - (zMod m z)) + z) - m)) with
      | (Fq5, mq5) =>
        (1, Fq5, mq5)
  else
    (1, F, m)
theorem zbool_X0_fillBlock (F : Nat → Int32) (z m : Int32) : narrow .boolean (.int (f_X0_fillBlock F z m).1) = .int (f_X0_fillBlock F z m).1 := by
  unfold f_X0_fillBlock
  repeat' split
  all_goals ((try dsimp only); rfl)
theorem zok_X0_fillBlock {F F1 : Nat → Int32} {m z r m1 : Int32} (_ : zsz z) (hm : zok 4096 m) (h : f_X0_fillBlock F z m = (r, F1, m1)) : zok 4096 m1 := by
  unfold f_X0_fillBlock at h
  split at h
  · split at h
    · cases h; exact hm
    · split at h
      next e1 =>
      cases h
      exact zok_X3_addLowestFirst hm e1
  · cases h; exact hm
set_option maxHeartbeats 4000000 in
set_option maxRecDepth 100000 in
theorem c_X0_fillBlock (l : Launch) (g : zG) (b br ba : Nat) (F : Nat → Int32) (z : Int32) (m : Int32) (hz : zsz z) (hm : zok 4096 m) : zMI l yX0_fillBlock wsX0_fillBlock ({ frames := 3, cells := 0, slots := 0, locals := 62 }) g [.ref b] [(b, .inr (0, [.ref br, .int z])), (br, .inr (3, [.ref ba, .int m])), (ba, .inl (g.2.1, 4096, .inl F))] ((f_X0_fillBlock F z m).1) [(b, .inr (0, [.ref br, .int z])), (br, .inr (3, [.ref ba, .int ((f_X0_fillBlock F z m).2.2)])), (ba, .inl (g.2.1, 4096, .inl ((f_X0_fillBlock F z m).2.1)))] := by
  refine zMI_of (cc := cX0_fillBlock) (nL := 2) (ty := .boolean) (by decide) rfl (Nat.le_of_ble_eq_true rfl) (zbool_X0_fillBlock _ _ _) ?_
  intro X C hret
  refine z_lv (lv' := [(0, .ref b)]) [0] rfl ?_
  refine z_aload_n C dX0_fillBlock_0 rfl 0 rfl ?_
  refine z_callVi (n := 0) (isC := [0, 1, 2]) (isR := []) (isP := [0, 1, 2]) (As := []) (rest := []) (wr := []) (ws2 := [(b, .inr (0, [.ref br, .int z])), (br, .inr (3, [.ref ba, .int m])), (ba, .inl (g.2.1, 4096, .inl F))]) C dX0_fillBlock_1 (c_X0_roomInBlock (zl X) g b br ba F z m hz) gX0_fillBlock_X0_roomInBlock rfl ⟨rfl, rfl⟩ (by decide +kernel) (by decide) (by decide) rfl rfl rfl rfl (Nat.le_of_ble_eq_true rfl) rfl rfl ⟨rfl, rfl, rfl⟩ (by decide) rfl ?_
  refine z_istore_n (lv' := [(1, .int (((m - (zMod m z)) + z) - m)), (0, .ref b)]) C dX0_fillBlock_4 rfl (by decide) rfl ?_
  refine z_iload_n C dX0_fillBlock_5 rfl 0 rfl ?_
  refine z_bipush (v := 7) C dX0_fillBlock_6 (by decide) ?_
  refine z_icmp_lt (tgt := 13) C dX0_fillBlock_8 (by decide) (fun c_2 => ?_) (fun c_2 => ?_)
  · skip
    refine z_aload_n C dX0_fillBlock_13 rfl 1 rfl ?_
    refine z_get (ci := 0) (v := .ref br) (Cn := RX0) (T := TX0) (N := 2) C dX0_fillBlock_14 (fun w h => List.mem_cons_of_mem _ (List.mem_append_left _ (List.mem_append_right _ h))) 0 rfl rfl 0 (by decide) (List.mem_of_getElem? (i := 1) rfl) rfl rfl ?_
    refine z_iload_n C dX0_fillBlock_17 rfl 0 rfl ?_
    refine z_callVi (n := 1) (isC := [1, 2]) (isR := [0]) (isP := [0, 1, 2]) (As := [.int (((m - (zMod m z)) + z) - m)]) (rest := []) (wr := [(b, .inr (0, [.ref br, .int z]))]) (ws2 := [(b, .inr (0, [.ref br, .int z])), (br, .inr (3, [.ref ba, .int m])), (ba, .inl (g.2.1, 4096, .inl F))]) C dX0_fillBlock_18 (c_X3_hasRoomFor (zl X) g br ba 4096 F m (((m - (zMod m z)) + z) - m)) gX0_fillBlock_X3_hasRoomFor rfl ⟨rfl, rfl⟩ (by decide +kernel) (by decide) (by decide) rfl rfl rfl rfl (Nat.le_of_ble_eq_true rfl) rfl rfl ⟨rfl, rfl, rfl⟩ (by decide) rfl ?_
    generalize hT3 : (f_X3_hasRoomFor 4096 m (((m - (zMod m z)) + z) - m)) = rq3
    refine z_if_ne (tgt := 26) C dX0_fillBlock_21 (by decide) (fun c_4 => ?_) (fun c_4 => ?_)
    · skip
      refine z_aload_n C dX0_fillBlock_26 rfl 1 rfl ?_
      refine z_get (ci := 0) (v := .ref br) (Cn := RX0) (T := TX0) (N := 2) C dX0_fillBlock_27 (fun w h => List.mem_cons_of_mem _ (List.mem_append_left _ (List.mem_append_right _ h))) 0 rfl rfl 0 (by decide) (List.mem_of_getElem? (i := 1) rfl) rfl rfl ?_
      refine z_iconst (v := 0) C dX0_fillBlock_30 (by decide) ?_
      refine z_iload_n C dX0_fillBlock_31 rfl 0 rfl ?_
      refine z_callVv (n := 2) (isC := [1, 2]) (isR := [0]) (isP := [0, 1, 2]) (As := [.int 0, .int (((m - (zMod m z)) + z) - m)]) (rest := []) (wr := [(b, .inr (0, [.ref br, .int z]))]) (ws2 := [(b, .inr (0, [.ref br, .int z])), (br, .inr (3, [.ref ba, .int ((f_X3_addLowestFirst 4096 F m 0 (((m - (zMod m z)) + z) - m)).2)])), (ba, .inl (g.2.1, 4096, .inl ((f_X3_addLowestFirst 4096 F m 0 (((m - (zMod m z)) + z) - m)).1)))]) C dX0_fillBlock_32 (c_X3_addLowestFirst (zl X) g br ba 4096 F m 0 (((m - (zMod m z)) + z) - m) hm) gX0_fillBlock_X3_addLowestFirst rfl ⟨rfl, rfl⟩ (by decide +kernel) (by decide) (by decide) rfl rfl rfl rfl (Nat.le_of_ble_eq_true rfl) rfl rfl ⟨rfl, rfl, rfl⟩ (by decide) rfl ?_
      generalize hT5 : (f_X3_addLowestFirst 4096 F m 0 (((m - (zMod m z)) + z) - m)) = T5
      obtain ⟨Fq5, mq5⟩ := T5
      have k5_m : zok 4096 mq5 := zok_X3_addLowestFirst hm hT5
      refine z_iconst (v := 1) C dX0_fillBlock_35 (by decide) ?_
      have he : (f_X0_fillBlock F z m) = (1, Fq5, mq5) := by simp only [f_X0_fillBlock, if_pos c_2, hT3, if_neg c_4, hT5]
      exact hret _ _ _ _ dX0_fillBlock_36 (by first | rw [he] | rfl) (by first | rw [he] | rfl)
    · skip
      refine z_iconst (v := 0) C dX0_fillBlock_24 (by decide) ?_
      have he : (f_X0_fillBlock F z m) = (0, F, m) := by simp only [f_X0_fillBlock, if_pos c_2, hT3, if_pos c_4]
      exact hret _ _ _ _ dX0_fillBlock_25 (by first | rw [he] | rfl) (by first | rw [he] | rfl)
  · skip
    refine z_iconst (v := 1) C dX0_fillBlock_11 (by decide) ?_
    have he : (f_X0_fillBlock F z m) = (1, F, m) := by simp only [f_X0_fillBlock, if_neg c_2]
    exact hret _ _ _ _ dX0_fillBlock_12 (by first | rw [he] | rfl) (by first | rw [he] | rfl)
def f_X0_addFragment (F : Nat → Int32) (F2 : Nat → Int32) (m : Int32) (m2 : Int32) (q : Int32) (x : Int32) (v : Int32) : Int32 × (Nat → Int32) × Int32 :=
  if (f_X3_hasRoomFor 4096 m (7 + v)) = 0 then
    (0, F, m)
  else
    match (f_X3_addLowestFirst 4096 F m (f_X4_of F2 m2 q x v) 4) with
    | (Fq4, mq4) =>
      match (f_X3_addLowestFirst 4096 Fq4 mq4 v 2) with
      | (Fq5, mq5) =>
        match (f_X3_add 4096 Fq5 mq5 q) with
        | (Fq6, mq6) =>
          match (f_X3_addPart 4096 Fq6 F2 mq6 m2 x v) with
          | (Fq7, mq7) =>
            (1, Fq7, mq7)
theorem zbool_X0_addFragment (F F2 : Nat → Int32) (m m2 q x v : Int32) : narrow .boolean (.int (f_X0_addFragment F F2 m m2 q x v).1) = .int (f_X0_addFragment F F2 m m2 q x v).1 := by
  unfold f_X0_addFragment
  repeat' split
  all_goals ((try dsimp only); rfl)
theorem zok_X0_addFragment {N2 : Nat} {F F1 F2 : Nat → Int32} {m m2 q x v r m1 : Int32} (hm : zok 4096 m) (hm2 : zok N2 m2) (h : f_X0_addFragment F F2 m m2 q x v = (r, F1, m1)) : zok 4096 m1 := by
  unfold f_X0_addFragment at h
  split at h
  · cases h; exact hm
  · split at h
    next e1 =>
    split at h
    next e2 =>
    split at h
    next e3 =>
    split at h
    next e4 =>
    cases h
    exact zok_X3_addPart (zok_X3_add (zok_X3_addLowestFirst (zok_X3_addLowestFirst hm e1) e2) e3) hm2 e4
set_option maxHeartbeats 4000000 in
set_option maxRecDepth 100000 in
theorem c_X0_addFragment (l : Launch) (g : zG) (b br ba h2 a2 : Nat) (N2 : Nat) (F : Nat → Int32) (F2 : Nat → Int32) (z : Int32) (m : Int32) (m2 : Int32) (q : Int32) (x : Int32) (v : Int32) (hm : zok 4096 m) (hm2 : zok N2 m2) : zMI l yX0_addFragment wsX0_addFragment ({ frames := 2, cells := 0, slots := 0, locals := 47 }) g [.ref b, .int q, .ref h2, .int x, .int v] [(b, .inr (0, [.ref br, .int z])), (br, .inr (3, [.ref ba, .int m])), (ba, .inl (g.2.1, 4096, .inl F)), (h2, .inr (3, [.ref a2, .int m2])), (a2, .inl (g.2.1, N2, .inl F2))] ((f_X0_addFragment F F2 m m2 q x v).1) [(b, .inr (0, [.ref br, .int z])), (br, .inr (3, [.ref ba, .int ((f_X0_addFragment F F2 m m2 q x v).2.2)])), (ba, .inl (g.2.1, 4096, .inl ((f_X0_addFragment F F2 m m2 q x v).2.1))), (h2, .inr (3, [.ref a2, .int m2])), (a2, .inl (g.2.1, N2, .inl F2))] := by
  refine zMI_of (cc := cX0_addFragment) (nL := 5) (ty := .boolean) (by decide) rfl (Nat.le_of_ble_eq_true rfl) (zbool_X0_addFragment _ _ _ _ _ _ _) ?_
  intro X C hret
  refine z_lv (lv' := [(0, .ref b), (1, .int q), (2, .ref h2), (3, .int x), (4, .int v)]) [0, 1, 2, 3, 4] rfl ?_
  refine z_aload_n C dX0_addFragment_0 rfl 0 rfl ?_
  refine z_get (ci := 0) (v := .ref br) (Cn := RX0) (T := TX0) (N := 2) C dX0_addFragment_1 (fun w h => List.mem_cons_of_mem _ (List.mem_append_left _ (List.mem_append_right _ h))) 0 rfl rfl 0 (by decide) (List.mem_of_getElem? (i := 1) rfl) rfl rfl ?_
  refine z_bipush (v := 7) C dX0_addFragment_4 (by decide) ?_
  refine z_iload C dX0_addFragment_6 4 rfl ?_
  refine z_iadd C dX0_addFragment_8 ?_
  refine z_callVi (n := 1) (isC := [1, 2]) (isR := [0, 3, 4]) (isP := [0, 3, 4, 1, 2]) (As := [.int (7 + v)]) (rest := []) (wr := [(b, .inr (0, [.ref br, .int z])), (h2, .inr (3, [.ref a2, .int m2])), (a2, .inl (g.2.1, N2, .inl F2))]) (ws2 := [(b, .inr (0, [.ref br, .int z])), (br, .inr (3, [.ref ba, .int m])), (ba, .inl (g.2.1, 4096, .inl F)), (h2, .inr (3, [.ref a2, .int m2])), (a2, .inl (g.2.1, N2, .inl F2))]) C dX0_addFragment_9 (c_X3_hasRoomFor (zl X) g br ba 4096 F m (7 + v)) gX0_addFragment_X3_hasRoomFor rfl ⟨rfl, rfl⟩ (by decide +kernel) (by decide) (by decide) rfl rfl rfl rfl (Nat.le_of_ble_eq_true rfl) rfl rfl ⟨rfl, rfl, rfl⟩ (by decide) rfl ?_
  generalize hT1 : (f_X3_hasRoomFor 4096 m (7 + v)) = rq1
  refine z_if_ne (tgt := 17) C dX0_addFragment_12 (by decide) (fun c_2 => ?_) (fun c_2 => ?_)
  · skip
    refine z_aload_n C dX0_addFragment_17 rfl 0 rfl ?_
    refine z_get (ci := 0) (v := .ref br) (Cn := RX0) (T := TX0) (N := 2) C dX0_addFragment_18 (fun w h => List.mem_cons_of_mem _ (List.mem_append_left _ (List.mem_append_right _ h))) 0 rfl rfl 0 (by decide) (List.mem_of_getElem? (i := 1) rfl) rfl rfl ?_
    refine z_iload_n C dX0_addFragment_21 rfl 1 rfl ?_
    refine z_aload_n C dX0_addFragment_22 rfl 2 rfl ?_
    refine z_iload_n C dX0_addFragment_23 rfl 3 rfl ?_
    refine z_iload C dX0_addFragment_24 4 rfl ?_
    refine z_callSi (n := 4) (isC := [3, 4]) (isR := [0, 1, 2]) (isP := [0, 1, 2, 3, 4]) (As := [.int q, .ref h2, .int x, .int v]) (rest := [.ref br]) (wr := [(b, .inr (0, [.ref br, .int z])), (br, .inr (3, [.ref ba, .int m])), (ba, .inl (g.2.1, 4096, .inl F))]) (ws2 := [(b, .inr (0, [.ref br, .int z])), (br, .inr (3, [.ref ba, .int m])), (ba, .inl (g.2.1, 4096, .inl F)), (h2, .inr (3, [.ref a2, .int m2])), (a2, .inl (g.2.1, N2, .inl F2))]) C dX0_addFragment_26 (c_X4_of (zl X) g h2 a2 N2 F2 m2 q x v hm2) gX0_addFragment_X4_of rfl ⟨rfl, rfl⟩ (by decide +kernel) (by decide) (by decide) rfl rfl (Nat.le_of_ble_eq_true rfl) rfl rfl ⟨rfl, rfl, rfl⟩ (by decide) rfl ?_
    generalize hT3 : (f_X4_of F2 m2 q x v) = rq3
    refine z_iconst (v := 4) C dX0_addFragment_29 (by decide) ?_
    refine z_callVv (n := 2) (isC := [1, 2]) (isR := [0, 3, 4]) (isP := [0, 3, 4, 1, 2]) (As := [.int rq3, .int 4]) (rest := []) (wr := [(b, .inr (0, [.ref br, .int z])), (h2, .inr (3, [.ref a2, .int m2])), (a2, .inl (g.2.1, N2, .inl F2))]) (ws2 := [(b, .inr (0, [.ref br, .int z])), (br, .inr (3, [.ref ba, .int ((f_X3_addLowestFirst 4096 F m rq3 4).2)])), (ba, .inl (g.2.1, 4096, .inl ((f_X3_addLowestFirst 4096 F m rq3 4).1))), (h2, .inr (3, [.ref a2, .int m2])), (a2, .inl (g.2.1, N2, .inl F2))]) C dX0_addFragment_30 (c_X3_addLowestFirst (zl X) g br ba 4096 F m rq3 4 hm) gX0_addFragment_X3_addLowestFirst rfl ⟨rfl, rfl⟩ (by decide +kernel) (by decide) (by decide) rfl rfl rfl rfl (Nat.le_of_ble_eq_true rfl) rfl rfl ⟨rfl, rfl, rfl⟩ (by decide) rfl ?_
    generalize hT4 : (f_X3_addLowestFirst 4096 F m rq3 4) = T4
    obtain ⟨Fq4, mq4⟩ := T4
    have k4_m : zok 4096 mq4 := zok_X3_addLowestFirst hm hT4
    refine z_aload_n C dX0_addFragment_33 rfl 0 rfl ?_
    refine z_get (ci := 0) (v := .ref br) (Cn := RX0) (T := TX0) (N := 2) C dX0_addFragment_34 (fun w h => List.mem_cons_of_mem _ (List.mem_append_left _ (List.mem_append_right _ h))) 0 rfl rfl 0 (by decide) (List.mem_of_getElem? (i := 1) rfl) rfl rfl ?_
    refine z_iload C dX0_addFragment_37 4 rfl ?_
    refine z_iconst (v := 2) C dX0_addFragment_39 (by decide) ?_
    refine z_callVv (n := 2) (isC := [1, 2]) (isR := [0, 3, 4]) (isP := [0, 3, 4, 1, 2]) (As := [.int v, .int 2]) (rest := []) (wr := [(b, .inr (0, [.ref br, .int z])), (h2, .inr (3, [.ref a2, .int m2])), (a2, .inl (g.2.1, N2, .inl F2))]) (ws2 := [(b, .inr (0, [.ref br, .int z])), (br, .inr (3, [.ref ba, .int ((f_X3_addLowestFirst 4096 Fq4 mq4 v 2).2)])), (ba, .inl (g.2.1, 4096, .inl ((f_X3_addLowestFirst 4096 Fq4 mq4 v 2).1))), (h2, .inr (3, [.ref a2, .int m2])), (a2, .inl (g.2.1, N2, .inl F2))]) C dX0_addFragment_40 (c_X3_addLowestFirst (zl X) g br ba 4096 Fq4 mq4 v 2 k4_m) gX0_addFragment_X3_addLowestFirst rfl ⟨rfl, rfl⟩ (by decide +kernel) (by decide) (by decide) rfl rfl rfl rfl (Nat.le_of_ble_eq_true rfl) rfl rfl ⟨rfl, rfl, rfl⟩ (by decide) rfl ?_
    generalize hT5 : (f_X3_addLowestFirst 4096 Fq4 mq4 v 2) = T5
    obtain ⟨Fq5, mq5⟩ := T5
    have k5_m : zok 4096 mq5 := zok_X3_addLowestFirst k4_m hT5
    refine z_aload_n C dX0_addFragment_43 rfl 0 rfl ?_
    refine z_get (ci := 0) (v := .ref br) (Cn := RX0) (T := TX0) (N := 2) C dX0_addFragment_44 (fun w h => List.mem_cons_of_mem _ (List.mem_append_left _ (List.mem_append_right _ h))) 0 rfl rfl 0 (by decide) (List.mem_of_getElem? (i := 1) rfl) rfl rfl ?_
    refine z_iload_n C dX0_addFragment_47 rfl 1 rfl ?_
    refine z_callVv (n := 1) (isC := [1, 2]) (isR := [0, 3, 4]) (isP := [0, 3, 4, 1, 2]) (As := [.int q]) (rest := []) (wr := [(b, .inr (0, [.ref br, .int z])), (h2, .inr (3, [.ref a2, .int m2])), (a2, .inl (g.2.1, N2, .inl F2))]) (ws2 := [(b, .inr (0, [.ref br, .int z])), (br, .inr (3, [.ref ba, .int ((f_X3_add 4096 Fq5 mq5 q).2)])), (ba, .inl (g.2.1, 4096, .inl ((f_X3_add 4096 Fq5 mq5 q).1))), (h2, .inr (3, [.ref a2, .int m2])), (a2, .inl (g.2.1, N2, .inl F2))]) C dX0_addFragment_48 (c_X3_add (zl X) g br ba 4096 Fq5 mq5 q k5_m) gX0_addFragment_X3_add rfl ⟨rfl, rfl⟩ (by decide +kernel) (by decide) (by decide) rfl rfl rfl rfl (Nat.le_of_ble_eq_true rfl) rfl rfl ⟨rfl, rfl, rfl⟩ (by decide) rfl ?_
    generalize hT6 : (f_X3_add 4096 Fq5 mq5 q) = T6
    obtain ⟨Fq6, mq6⟩ := T6
    have k6_m : zok 4096 mq6 := zok_X3_add k5_m hT6
    refine z_aload_n C dX0_addFragment_51 rfl 0 rfl ?_
    refine z_get (ci := 0) (v := .ref br) (Cn := RX0) (T := TX0) (N := 2) C dX0_addFragment_52 (fun w h => List.mem_cons_of_mem _ (List.mem_append_left _ (List.mem_append_right _ h))) 0 rfl rfl 0 (by decide) (List.mem_of_getElem? (i := 1) rfl) rfl rfl ?_
    refine z_aload_n C dX0_addFragment_55 rfl 2 rfl ?_
    refine z_iload_n C dX0_addFragment_56 rfl 3 rfl ?_
    refine z_iload C dX0_addFragment_57 4 rfl ?_
    refine z_callVv (n := 3) (isC := [1, 2, 3, 4]) (isR := [0]) (isP := [0, 1, 2, 3, 4]) (As := [.ref h2, .int x, .int v]) (rest := []) (wr := [(b, .inr (0, [.ref br, .int z]))]) (ws2 := [(b, .inr (0, [.ref br, .int z])), (br, .inr (3, [.ref ba, .int ((f_X3_addPart 4096 Fq6 F2 mq6 m2 x v).2)])), (ba, .inl (g.2.1, 4096, .inl ((f_X3_addPart 4096 Fq6 F2 mq6 m2 x v).1))), (h2, .inr (3, [.ref a2, .int m2])), (a2, .inl (g.2.1, N2, .inl F2))]) C dX0_addFragment_59 (c_X3_addPart (zl X) g br ba h2 a2 4096 N2 Fq6 F2 mq6 m2 x v k6_m hm2) gX0_addFragment_X3_addPart rfl ⟨rfl, rfl⟩ (by decide +kernel) (by decide) (by decide) rfl rfl rfl rfl (Nat.le_of_ble_eq_true rfl) rfl rfl ⟨rfl, rfl, rfl⟩ (by decide) rfl ?_
    generalize hT7 : (f_X3_addPart 4096 Fq6 F2 mq6 m2 x v) = T7
    obtain ⟨Fq7, mq7⟩ := T7
    have k7_m : zok 4096 mq7 := zok_X3_addPart k6_m hm2 hT7
    refine z_iconst (v := 1) C dX0_addFragment_62 (by decide) ?_
    have he : (f_X0_addFragment F F2 m m2 q x v) = (1, Fq7, mq7) := by simp only [f_X0_addFragment, hT1, if_neg c_2, hT3, hT4, hT5, hT6, hT7]
    exact hret _ _ _ _ dX0_addFragment_63 (by first | rw [he] | rfl) (by first | rw [he] | rfl)
  · skip
    refine z_iconst (v := 0) C dX0_addFragment_15 (by decide) ?_
    have he : (f_X0_addFragment F F2 m m2 q x v) = (0, F, m) := by simp only [f_X0_addFragment, hT1, if_pos c_2]
    exact hret _ _ _ _ dX0_addFragment_16 (by first | rw [he] | rfl) (by first | rw [he] | rfl)
end
section
def lp_X0_addPieces (F2 : Nat → Int32) (z : Int32) (m2 : Int32) : Nat → Int32 → Int32 → (Nat → Int32) → Int32 → Int32 × (Nat → Int32) × Int32
  | 0, _, _, _, _ => (0, fun _ => 0, 0)
  | n + 1, dn, pv, F_, m_ =>
    if 400 < pv then
      (0, F_, m_)
    else
      match (f_X0_fillBlock F_ z m_) with
      | (rq2, Fq2, mq2) =>
        if rq2 = 0 then
          (0, Fq2, mq2)
        else
          if (dn + (zMin (m2 - dn) ((((mq2 - (zMod mq2 z)) + z) - mq2) - 7))) = m2 then
            if pv = 0 then
              match (f_X0_addFragment Fq2 F2 mq2 m2 (f_X0_kindOf 1 1) dn (zMin (m2 - dn) ((((mq2 - (zMod mq2 z)) + z) - mq2) - 7))) with
              | (rq23, Fq23, mq23) =>
                if rq23 = 0 then
                  (0, Fq23, mq23)
                else
                  (1, Fq23, mq23)
            else
              match (f_X0_addFragment Fq2 F2 mq2 m2 (f_X0_kindOf 0 1) dn (zMin (m2 - dn) ((((mq2 - (zMod mq2 z)) + z) - mq2) - 7))) with
              | (rq19, Fq19, mq19) =>
                if rq19 = 0 then
                  (0, Fq19, mq19)
                else
                  (1, Fq19, mq19)
          else
            if pv = 0 then
              match (f_X0_addFragment Fq2 F2 mq2 m2 (f_X0_kindOf 1 0) dn (zMin (m2 - dn) ((((mq2 - (zMod mq2 z)) + z) - mq2) - 7))) with
              | (rq14, Fq14, mq14) =>
                if rq14 = 0 then
                  (0, Fq14, mq14)
                else
                  lp_X0_addPieces F2 z m2 n (dn + (zMin (m2 - dn) ((((mq2 - (zMod mq2 z)) + z) - mq2) - 7))) (pv + 1) Fq14 mq14
            else
              match (f_X0_addFragment Fq2 F2 mq2 m2 (f_X0_kindOf 0 0) dn (zMin (m2 - dn) ((((mq2 - (zMod mq2 z)) + z) - mq2) - 7))) with
              | (rq10, Fq10, mq10) =>
                if rq10 = 0 then
                  (0, Fq10, mq10)
                else
                  lp_X0_addPieces F2 z m2 n (dn + (zMin (m2 - dn) ((((mq2 - (zMod mq2 z)) + z) - mq2) - 7))) (pv + 1) Fq10 mq10
def f_X0_addPieces (F : Nat → Int32) (F2 : Nat → Int32) (z : Int32) (m : Int32) (m2 : Int32) : Int32 × (Nat → Int32) × Int32 :=
  lp_X0_addPieces F2 z m2 402 0 0 F m
theorem zbool_lp_X0_addPieces (F2 : Nat → Int32) (z m2 : Int32) : ∀ (n : Nat) (dn pv : Int32) (F : Nat → Int32) (m : Int32), narrow .boolean (.int (lp_X0_addPieces F2 z m2 n dn pv F m).1) = .int (lp_X0_addPieces F2 z m2 n dn pv F m).1 := by
  intro n
  induction n with
  | zero => intros; unfold lp_X0_addPieces; (try dsimp only); rfl
  | succ n ih =>
    intro dn pv F m
    unfold lp_X0_addPieces
    repeat' split
    all_goals first | exact ih _ _ _ _ | ((try dsimp only); rfl)
theorem zbool_X0_addPieces (F F2 : Nat → Int32) (z m m2 : Int32) : narrow .boolean (.int (f_X0_addPieces F F2 z m m2).1) = .int (f_X0_addPieces F F2 z m m2).1 := zbool_lp_X0_addPieces _ _ _ _ _ _ _ _
theorem zok_lp_X0_addPieces {N2 : Nat} {F2 : Nat → Int32} {z m2 : Int32} (hz : zsz z) (hm2 : zok N2 m2) : ∀ (n : Nat) (dn pv : Int32) (F : Nat → Int32) (m : Int32), zok 4096 m → zok 4096 (lp_X0_addPieces F2 z m2 n dn pv F m).2.2 := by
  intro n
  induction n with
  | zero => intro dn pv F m hm; show zok 4096 0; exact ⟨by decide, by decide, by decide⟩
  | succ n ih =>
    intro dn pv F m hm
    unfold lp_X0_addPieces
    split
    · exact hm
    · split
      next r1 F1 m1 e1 =>
      have k1 := zok_X0_fillBlock hz hm e1
      repeat' split
      all_goals first | exact k1 | (next e2 _ => exact zok_X0_addFragment k1 hm2 e2) | (next e2 _ _ => exact zok_X0_addFragment k1 hm2 e2) | (next e2 _ => exact ih _ _ _ _ (zok_X0_addFragment k1 hm2 e2)) | (next e2 _ _ => exact ih _ _ _ _ (zok_X0_addFragment k1 hm2 e2))
theorem zok_X0_addPieces {N2 : Nat} {F F1 F2 : Nat → Int32} {z m m2 r m1 : Int32} (hz : zsz z) (hm : zok 4096 m) (hm2 : zok N2 m2) (h : f_X0_addPieces F F2 z m m2 = (r, F1, m1)) : zok 4096 m1 := by
  have := zok_lp_X0_addPieces (F2 := F2) hz hm2 402 0 0 F m hm
  have e : lp_X0_addPieces F2 z m2 402 0 0 F m = (r, F1, m1) := h
  rw [e] at this
  exact this
set_option maxHeartbeats 4000000 in
set_option maxRecDepth 100000 in
theorem c_X0_addPieces (l : Launch) (g : zG) (b br ba h2 a2 : Nat) (N2 : Nat) (F : Nat → Int32) (F2 : Nat → Int32) (z : Int32) (m : Int32) (m2 : Int32) (hz : zsz z) (hm : zok 4096 m) (hm2 : zok N2 m2) : zMI l yX0_addPieces wsX0_addPieces ({ frames := 4, cells := 0, slots := 0, locals := 83 }) g [.ref b, .ref h2] [(b, .inr (0, [.ref br, .int z])), (br, .inr (3, [.ref ba, .int m])), (ba, .inl (g.2.1, 4096, .inl F)), (h2, .inr (3, [.ref a2, .int m2])), (a2, .inl (g.2.1, N2, .inl F2))] ((f_X0_addPieces F F2 z m m2).1) [(b, .inr (0, [.ref br, .int z])), (br, .inr (3, [.ref ba, .int ((f_X0_addPieces F F2 z m m2).2.2)])), (ba, .inl (g.2.1, 4096, .inl ((f_X0_addPieces F F2 z m m2).2.1))), (h2, .inr (3, [.ref a2, .int m2])), (a2, .inl (g.2.1, N2, .inl F2))] := by
  refine zMI_of (cc := cX0_addPieces) (nL := 6) (ty := .boolean) (by decide) rfl (Nat.le_of_ble_eq_true rfl) (zbool_X0_addPieces _ _ _ _ _) ?_
  intro X C hret
  refine z_lv (lv' := [(0, .ref b), (1, .ref h2)]) [0, 1] rfl ?_
  refine z_iconst (v := 0) C dX0_addPieces_0 (by decide) ?_
  refine z_istore_n (lv' := [(2, .int 0), (0, .ref b), (1, .ref h2)]) C dX0_addPieces_1 rfl (by decide) rfl ?_
  refine z_iconst (v := 0) C dX0_addPieces_2 (by decide) ?_
  refine z_istore_n (lv' := [(3, .int 0), (2, .int 0), (0, .ref b), (1, .ref h2)]) C dX0_addPieces_3 rfl (by decide) rfl ?_
  have loop : ∀ (n : Nat) (dn : Int32) (pv : Int32) (F_ : Nat → Int32) (m_ : Int32), zfuel 400 n pv → zok 4096 m_ → lp_X0_addPieces F2 z m2 n dn pv F_ m_ = (f_X0_addPieces F F2 z m m2) → zV X g 6 0 0 4 [(0, .ref b), (1, .ref h2), (2, .int dn), (3, .int pv)] [] [(b, .inr (0, [.ref br, .int z])), (br, .inr (3, [.ref ba, .int m_])), (ba, .inl (g.2.1, 4096, .inl F_)), (h2, .inr (3, [.ref a2, .int m2])), (a2, .inl (g.2.1, N2, .inl F2))] := by
    intro n
    induction n with
    | zero =>
      intro dn pv F_ m_ hp hm_ hv
      exact absurd (zfuel_0 hp) id
    | succ n ih =>
      intro dn pv F_ m_ hp hm_ hv
      refine z_iload_n C dX0_addPieces_4 rfl 3 rfl ?_
      refine z_sipush (v := 400) C dX0_addPieces_5 (by decide) ?_
      refine z_icmp_gt (tgt := 101) C dX0_addPieces_8 (by decide) (fun c_1 => ?_) (fun c_1 => ?_)
      · skip
        refine z_iconst (v := 0) C dX0_addPieces_101 (by decide) ?_
        have he : (f_X0_addPieces F F2 z m m2) = (0, F_, m_) := by rw [← hv]; simp only [lp_X0_addPieces, if_pos c_1]
        exact hret _ _ _ _ dX0_addPieces_102 (by first | rw [he] | rfl) (by first | rw [he] | rfl)
      · skip
        refine z_aload_n C dX0_addPieces_11 rfl 0 rfl ?_
        refine z_callVi (n := 0) (isC := [0, 1, 2]) (isR := [3, 4]) (isP := [2, 3, 4, 0, 1]) (As := []) (rest := []) (wr := [(h2, .inr (3, [.ref a2, .int m2])), (a2, .inl (g.2.1, N2, .inl F2))]) (ws2 := [(b, .inr (0, [.ref br, .int z])), (br, .inr (3, [.ref ba, .int ((f_X0_fillBlock F_ z m_).2.2)])), (ba, .inl (g.2.1, 4096, .inl ((f_X0_fillBlock F_ z m_).2.1))), (h2, .inr (3, [.ref a2, .int m2])), (a2, .inl (g.2.1, N2, .inl F2))]) C dX0_addPieces_12 (c_X0_fillBlock (zl X) g b br ba F_ z m_ hz hm_) gX0_addPieces_X0_fillBlock rfl ⟨rfl, rfl⟩ (by decide +kernel) (by decide) (by decide) rfl rfl rfl rfl (Nat.le_of_ble_eq_true rfl) rfl rfl ⟨rfl, rfl, rfl⟩ (by decide) rfl ?_
        generalize hT2 : (f_X0_fillBlock F_ z m_) = T2
        obtain ⟨rq2, Fq2, mq2⟩ := T2
        have k2_m : zok 4096 mq2 := zok_X0_fillBlock hz hm_ hT2
        refine z_if_ne (tgt := 20) C dX0_addPieces_15 (by decide) (fun c_3 => ?_) (fun c_3 => ?_)
        · skip
          refine z_aload_n C dX0_addPieces_20 rfl 1 rfl ?_
          refine z_callVi (n := 0) (isC := [3, 4]) (isR := [0, 1, 2]) (isP := [0, 1, 2, 3, 4]) (As := []) (rest := []) (wr := [(b, .inr (0, [.ref br, .int z])), (br, .inr (3, [.ref ba, .int mq2])), (ba, .inl (g.2.1, 4096, .inl Fq2))]) (ws2 := [(b, .inr (0, [.ref br, .int z])), (br, .inr (3, [.ref ba, .int mq2])), (ba, .inl (g.2.1, 4096, .inl Fq2)), (h2, .inr (3, [.ref a2, .int m2])), (a2, .inl (g.2.1, N2, .inl F2))]) C dX0_addPieces_21 (c_X3_many (zl X) g h2 a2 N2 F2 m2) gX0_addPieces_X3_many rfl ⟨rfl, rfl⟩ (by decide +kernel) (by decide) (by decide) rfl rfl rfl rfl (Nat.le_of_ble_eq_true rfl) rfl rfl ⟨rfl, rfl, rfl⟩ (by decide) rfl ?_
          refine z_iload_n C dX0_addPieces_24 rfl 2 rfl ?_
          refine z_isub C dX0_addPieces_25 ?_
          refine z_aload_n C dX0_addPieces_26 rfl 0 rfl ?_
          refine z_callVi (n := 0) (isC := [0, 1, 2]) (isR := [3, 4]) (isP := [2, 3, 4, 0, 1]) (As := []) (rest := [.int (m2 - dn)]) (wr := [(h2, .inr (3, [.ref a2, .int m2])), (a2, .inl (g.2.1, N2, .inl F2))]) (ws2 := [(b, .inr (0, [.ref br, .int z])), (br, .inr (3, [.ref ba, .int mq2])), (ba, .inl (g.2.1, 4096, .inl Fq2)), (h2, .inr (3, [.ref a2, .int m2])), (a2, .inl (g.2.1, N2, .inl F2))]) C dX0_addPieces_27 (c_X0_roomInBlock (zl X) g b br ba Fq2 z mq2 hz) gX0_addPieces_X0_roomInBlock rfl ⟨rfl, rfl⟩ (by decide +kernel) (by decide) (by decide) rfl rfl rfl rfl (Nat.le_of_ble_eq_true rfl) rfl rfl ⟨rfl, rfl, rfl⟩ (by decide) rfl ?_
          refine z_bipush (v := 7) C dX0_addPieces_30 (by decide) ?_
          refine z_isub C dX0_addPieces_32 ?_
          refine z_min C dX0_addPieces_33 (List.mem_of_getElem? (i := 1) rfl) (List.mem_of_getElem? (i := 2) rfl) (List.mem_of_getElem? (i := 3) rfl) (List.mem_of_getElem? (i := 4) rfl) (by decide) (by decide) (by decide) (by decide) ?_
          refine z_istore (lv' := [(4, .int (zMin (m2 - dn) ((((mq2 - (zMod mq2 z)) + z) - mq2) - 7))), (0, .ref b), (1, .ref h2), (2, .int dn), (3, .int pv)]) C dX0_addPieces_36 (by decide) rfl ?_
          refine z_iload_n C dX0_addPieces_38 rfl 3 rfl ?_
          refine z_iload C dX0_addPieces_39 0 rfl ?_
          refine z_iadd C dX0_addPieces_41 ?_
          refine z_aload_n C dX0_addPieces_42 rfl 2 rfl ?_
          refine z_callVi (n := 0) (isC := [3, 4]) (isR := [0, 1, 2]) (isP := [0, 1, 2, 3, 4]) (As := []) (rest := [.int (dn + (zMin (m2 - dn) ((((mq2 - (zMod mq2 z)) + z) - mq2) - 7)))]) (wr := [(b, .inr (0, [.ref br, .int z])), (br, .inr (3, [.ref ba, .int mq2])), (ba, .inl (g.2.1, 4096, .inl Fq2))]) (ws2 := [(b, .inr (0, [.ref br, .int z])), (br, .inr (3, [.ref ba, .int mq2])), (ba, .inl (g.2.1, 4096, .inl Fq2)), (h2, .inr (3, [.ref a2, .int m2])), (a2, .inl (g.2.1, N2, .inl F2))]) C dX0_addPieces_43 (c_X3_many (zl X) g h2 a2 N2 F2 m2) gX0_addPieces_X3_many rfl ⟨rfl, rfl⟩ (by decide +kernel) (by decide) (by decide) rfl rfl rfl rfl (Nat.le_of_ble_eq_true rfl) rfl rfl ⟨rfl, rfl, rfl⟩ (by decide) rfl ?_
          refine z_icmp_ne (tgt := 53) C dX0_addPieces_46 (by decide) (fun c_7 => ?_) (fun c_7 => ?_)
          · skip
            refine z_iconst (v := 0) C dX0_addPieces_53 (by decide) ?_
            refine z_istore (lv' := [(5, .int 0), (4, .int (zMin (m2 - dn) ((((mq2 - (zMod mq2 z)) + z) - mq2) - 7))), (0, .ref b), (1, .ref h2), (2, .int dn), (3, .int pv)]) C dX0_addPieces_54 (by decide) rfl ?_
            refine z_aload_n C dX0_addPieces_56 rfl 2 rfl ?_
            refine z_iload_n C dX0_addPieces_57 rfl 5 rfl ?_
            refine z_if_ne (tgt := 65) C dX0_addPieces_58 (by decide) (fun c_8 => ?_) (fun c_8 => ?_)
            · skip
              refine z_iconst (v := 0) C dX0_addPieces_65 (by decide) ?_
              refine z_iload C dX0_addPieces_66 0 rfl ?_
              refine z_callSi (n := 2) (isC := []) (isR := [0, 1, 2, 3, 4]) (isP := [0, 1, 2, 3, 4]) (As := [.int 0, .int 0]) (rest := [.ref b]) (wr := [(b, .inr (0, [.ref br, .int z])), (br, .inr (3, [.ref ba, .int mq2])), (ba, .inl (g.2.1, 4096, .inl Fq2)), (h2, .inr (3, [.ref a2, .int m2])), (a2, .inl (g.2.1, N2, .inl F2))]) (ws2 := [(b, .inr (0, [.ref br, .int z])), (br, .inr (3, [.ref ba, .int mq2])), (ba, .inl (g.2.1, 4096, .inl Fq2)), (h2, .inr (3, [.ref a2, .int m2])), (a2, .inl (g.2.1, N2, .inl F2))]) C dX0_addPieces_68 (c_X0_kindOf (zl X) g 0 0) gX0_addPieces_X0_kindOf rfl ⟨rfl, rfl⟩ (by decide +kernel) (by decide) (by decide) rfl rfl (Nat.le_of_ble_eq_true rfl) rfl rfl ⟨rfl, rfl, rfl⟩ (by decide) rfl ?_
              generalize hT9 : (f_X0_kindOf 0 0) = rq9
              refine z_aload_n C dX0_addPieces_71 rfl 3 rfl ?_
              refine z_iload_n C dX0_addPieces_72 rfl 4 rfl ?_
              refine z_iload C dX0_addPieces_73 1 rfl ?_
              refine z_callVi (n := 4) (isC := [0, 1, 2, 3, 4]) (isR := []) (isP := [0, 1, 2, 3, 4]) (As := [.int rq9, .ref h2, .int dn, .int (zMin (m2 - dn) ((((mq2 - (zMod mq2 z)) + z) - mq2) - 7))]) (rest := []) (wr := []) (ws2 := [(b, .inr (0, [.ref br, .int z])), (br, .inr (3, [.ref ba, .int ((f_X0_addFragment Fq2 F2 mq2 m2 rq9 dn (zMin (m2 - dn) ((((mq2 - (zMod mq2 z)) + z) - mq2) - 7))).2.2)])), (ba, .inl (g.2.1, 4096, .inl ((f_X0_addFragment Fq2 F2 mq2 m2 rq9 dn (zMin (m2 - dn) ((((mq2 - (zMod mq2 z)) + z) - mq2) - 7))).2.1))), (h2, .inr (3, [.ref a2, .int m2])), (a2, .inl (g.2.1, N2, .inl F2))]) C dX0_addPieces_75 (c_X0_addFragment (zl X) g b br ba h2 a2 N2 Fq2 F2 z mq2 m2 rq9 dn (zMin (m2 - dn) ((((mq2 - (zMod mq2 z)) + z) - mq2) - 7)) k2_m hm2) gX0_addPieces_X0_addFragment rfl ⟨rfl, rfl⟩ (by decide +kernel) (by decide) (by decide) rfl rfl rfl rfl (Nat.le_of_ble_eq_true rfl) rfl rfl ⟨rfl, rfl, rfl⟩ (by decide) rfl ?_
              generalize hT10 : (f_X0_addFragment Fq2 F2 mq2 m2 rq9 dn (zMin (m2 - dn) ((((mq2 - (zMod mq2 z)) + z) - mq2) - 7))) = T10
              obtain ⟨rq10, Fq10, mq10⟩ := T10
              have k10_m : zok 4096 mq10 := zok_X0_addFragment k2_m hm2 hT10
              refine z_if_ne (tgt := 83) C dX0_addPieces_78 (by decide) (fun c_11 => ?_) (fun c_11 => ?_)
              · skip
                refine z_iload_n C dX0_addPieces_83 rfl 4 rfl ?_
                refine z_iload C dX0_addPieces_84 1 rfl ?_
                refine z_iadd C dX0_addPieces_86 ?_
                refine z_istore_n (lv' := [(2, .int (dn + (zMin (m2 - dn) ((((mq2 - (zMod mq2 z)) + z) - mq2) - 7)))), (5, .int 0), (4, .int (zMin (m2 - dn) ((((mq2 - (zMod mq2 z)) + z) - mq2) - 7))), (0, .ref b), (1, .ref h2), (3, .int pv)]) C dX0_addPieces_87 rfl (by decide) rfl ?_
                refine z_iload C dX0_addPieces_88 1 rfl ?_
                refine z_if_eq (tgt := 95) C dX0_addPieces_90 (by decide) (fun c_12 => ?_) (fun c_12 => absurd (by decide) c_12)
                refine z_iinc (v := (pv + 1)) (lv' := [(3, .int (pv + 1)), (2, .int (dn + (zMin (m2 - dn) ((((mq2 - (zMod mq2 z)) + z) - mq2) - 7)))), (5, .int 0), (4, .int (zMin (m2 - dn) ((((mq2 - (zMod mq2 z)) + z) - mq2) - 7))), (0, .ref b), (1, .ref h2)]) C dX0_addPieces_95 5 rfl rfl (by decide) rfl ?_
                refine z_goto (tgt := 4) C dX0_addPieces_98 (by decide) ?_
                exact z_lv [4, 5, 1, 0] rfl (ih (dn + (zMin (m2 - dn) ((((mq2 - (zMod mq2 z)) + z) - mq2) - 7))) (pv + 1) Fq10 mq10 (zfuel_s (by decide) hp c_1) k10_m (by rw [← hv]; simp only [lp_X0_addPieces, if_neg c_1, hT2, if_neg c_3, if_neg c_7, if_neg c_8, hT9, hT10, if_neg c_11]))
              · skip
                refine z_iconst (v := 0) C dX0_addPieces_81 (by decide) ?_
                have he : (f_X0_addPieces F F2 z m m2) = (0, Fq10, mq10) := by rw [← hv]; simp only [lp_X0_addPieces, if_neg c_1, hT2, if_neg c_3, if_neg c_7, if_neg c_8, hT9, hT10, if_pos c_11]
                exact hret _ _ _ _ dX0_addPieces_82 (by first | rw [he] | rfl) (by first | rw [he] | rfl)
            · skip
              refine z_iconst (v := 1) C dX0_addPieces_61 (by decide) ?_
              refine z_goto (tgt := 66) C dX0_addPieces_62 (by decide) ?_
              refine z_iload C dX0_addPieces_66 0 rfl ?_
              refine z_callSi (n := 2) (isC := []) (isR := [0, 1, 2, 3, 4]) (isP := [0, 1, 2, 3, 4]) (As := [.int 1, .int 0]) (rest := [.ref b]) (wr := [(b, .inr (0, [.ref br, .int z])), (br, .inr (3, [.ref ba, .int mq2])), (ba, .inl (g.2.1, 4096, .inl Fq2)), (h2, .inr (3, [.ref a2, .int m2])), (a2, .inl (g.2.1, N2, .inl F2))]) (ws2 := [(b, .inr (0, [.ref br, .int z])), (br, .inr (3, [.ref ba, .int mq2])), (ba, .inl (g.2.1, 4096, .inl Fq2)), (h2, .inr (3, [.ref a2, .int m2])), (a2, .inl (g.2.1, N2, .inl F2))]) C dX0_addPieces_68 (c_X0_kindOf (zl X) g 1 0) gX0_addPieces_X0_kindOf rfl ⟨rfl, rfl⟩ (by decide +kernel) (by decide) (by decide) rfl rfl (Nat.le_of_ble_eq_true rfl) rfl rfl ⟨rfl, rfl, rfl⟩ (by decide) rfl ?_
              generalize hT13 : (f_X0_kindOf 1 0) = rq13
              refine z_aload_n C dX0_addPieces_71 rfl 3 rfl ?_
              refine z_iload_n C dX0_addPieces_72 rfl 4 rfl ?_
              refine z_iload C dX0_addPieces_73 1 rfl ?_
              refine z_callVi (n := 4) (isC := [0, 1, 2, 3, 4]) (isR := []) (isP := [0, 1, 2, 3, 4]) (As := [.int rq13, .ref h2, .int dn, .int (zMin (m2 - dn) ((((mq2 - (zMod mq2 z)) + z) - mq2) - 7))]) (rest := []) (wr := []) (ws2 := [(b, .inr (0, [.ref br, .int z])), (br, .inr (3, [.ref ba, .int ((f_X0_addFragment Fq2 F2 mq2 m2 rq13 dn (zMin (m2 - dn) ((((mq2 - (zMod mq2 z)) + z) - mq2) - 7))).2.2)])), (ba, .inl (g.2.1, 4096, .inl ((f_X0_addFragment Fq2 F2 mq2 m2 rq13 dn (zMin (m2 - dn) ((((mq2 - (zMod mq2 z)) + z) - mq2) - 7))).2.1))), (h2, .inr (3, [.ref a2, .int m2])), (a2, .inl (g.2.1, N2, .inl F2))]) C dX0_addPieces_75 (c_X0_addFragment (zl X) g b br ba h2 a2 N2 Fq2 F2 z mq2 m2 rq13 dn (zMin (m2 - dn) ((((mq2 - (zMod mq2 z)) + z) - mq2) - 7)) k2_m hm2) gX0_addPieces_X0_addFragment rfl ⟨rfl, rfl⟩ (by decide +kernel) (by decide) (by decide) rfl rfl rfl rfl (Nat.le_of_ble_eq_true rfl) rfl rfl ⟨rfl, rfl, rfl⟩ (by decide) rfl ?_
              generalize hT14 : (f_X0_addFragment Fq2 F2 mq2 m2 rq13 dn (zMin (m2 - dn) ((((mq2 - (zMod mq2 z)) + z) - mq2) - 7))) = T14
              obtain ⟨rq14, Fq14, mq14⟩ := T14
              have k14_m : zok 4096 mq14 := zok_X0_addFragment k2_m hm2 hT14
              refine z_if_ne (tgt := 83) C dX0_addPieces_78 (by decide) (fun c_15 => ?_) (fun c_15 => ?_)
              · skip
                refine z_iload_n C dX0_addPieces_83 rfl 4 rfl ?_
                refine z_iload C dX0_addPieces_84 1 rfl ?_
                refine z_iadd C dX0_addPieces_86 ?_
                refine z_istore_n (lv' := [(2, .int (dn + (zMin (m2 - dn) ((((mq2 - (zMod mq2 z)) + z) - mq2) - 7)))), (5, .int 0), (4, .int (zMin (m2 - dn) ((((mq2 - (zMod mq2 z)) + z) - mq2) - 7))), (0, .ref b), (1, .ref h2), (3, .int pv)]) C dX0_addPieces_87 rfl (by decide) rfl ?_
                refine z_iload C dX0_addPieces_88 1 rfl ?_
                refine z_if_eq (tgt := 95) C dX0_addPieces_90 (by decide) (fun c_16 => ?_) (fun c_16 => absurd (by decide) c_16)
                refine z_iinc (v := (pv + 1)) (lv' := [(3, .int (pv + 1)), (2, .int (dn + (zMin (m2 - dn) ((((mq2 - (zMod mq2 z)) + z) - mq2) - 7)))), (5, .int 0), (4, .int (zMin (m2 - dn) ((((mq2 - (zMod mq2 z)) + z) - mq2) - 7))), (0, .ref b), (1, .ref h2)]) C dX0_addPieces_95 5 rfl rfl (by decide) rfl ?_
                refine z_goto (tgt := 4) C dX0_addPieces_98 (by decide) ?_
                exact z_lv [4, 5, 1, 0] rfl (ih (dn + (zMin (m2 - dn) ((((mq2 - (zMod mq2 z)) + z) - mq2) - 7))) (pv + 1) Fq14 mq14 (zfuel_s (by decide) hp c_1) k14_m (by rw [← hv]; simp only [lp_X0_addPieces, if_neg c_1, hT2, if_neg c_3, if_neg c_7, if_pos c_8, hT13, hT14, if_neg c_15]))
              · skip
                refine z_iconst (v := 0) C dX0_addPieces_81 (by decide) ?_
                have he : (f_X0_addPieces F F2 z m m2) = (0, Fq14, mq14) := by rw [← hv]; simp only [lp_X0_addPieces, if_neg c_1, hT2, if_neg c_3, if_neg c_7, if_pos c_8, hT13, hT14, if_pos c_15]
                exact hret _ _ _ _ dX0_addPieces_82 (by first | rw [he] | rfl) (by first | rw [he] | rfl)
          · skip
            refine z_iconst (v := 1) C dX0_addPieces_49 (by decide) ?_
            refine z_goto (tgt := 54) C dX0_addPieces_50 (by decide) ?_
            refine z_istore (lv' := [(5, .int 1), (4, .int (zMin (m2 - dn) ((((mq2 - (zMod mq2 z)) + z) - mq2) - 7))), (0, .ref b), (1, .ref h2), (2, .int dn), (3, .int pv)]) C dX0_addPieces_54 (by decide) rfl ?_
            refine z_aload_n C dX0_addPieces_56 rfl 2 rfl ?_
            refine z_iload_n C dX0_addPieces_57 rfl 5 rfl ?_
            refine z_if_ne (tgt := 65) C dX0_addPieces_58 (by decide) (fun c_17 => ?_) (fun c_17 => ?_)
            · skip
              refine z_iconst (v := 0) C dX0_addPieces_65 (by decide) ?_
              refine z_iload C dX0_addPieces_66 0 rfl ?_
              refine z_callSi (n := 2) (isC := []) (isR := [0, 1, 2, 3, 4]) (isP := [0, 1, 2, 3, 4]) (As := [.int 0, .int 1]) (rest := [.ref b]) (wr := [(b, .inr (0, [.ref br, .int z])), (br, .inr (3, [.ref ba, .int mq2])), (ba, .inl (g.2.1, 4096, .inl Fq2)), (h2, .inr (3, [.ref a2, .int m2])), (a2, .inl (g.2.1, N2, .inl F2))]) (ws2 := [(b, .inr (0, [.ref br, .int z])), (br, .inr (3, [.ref ba, .int mq2])), (ba, .inl (g.2.1, 4096, .inl Fq2)), (h2, .inr (3, [.ref a2, .int m2])), (a2, .inl (g.2.1, N2, .inl F2))]) C dX0_addPieces_68 (c_X0_kindOf (zl X) g 0 1) gX0_addPieces_X0_kindOf rfl ⟨rfl, rfl⟩ (by decide +kernel) (by decide) (by decide) rfl rfl (Nat.le_of_ble_eq_true rfl) rfl rfl ⟨rfl, rfl, rfl⟩ (by decide) rfl ?_
              generalize hT18 : (f_X0_kindOf 0 1) = rq18
              refine z_aload_n C dX0_addPieces_71 rfl 3 rfl ?_
              refine z_iload_n C dX0_addPieces_72 rfl 4 rfl ?_
              refine z_iload C dX0_addPieces_73 1 rfl ?_
              refine z_callVi (n := 4) (isC := [0, 1, 2, 3, 4]) (isR := []) (isP := [0, 1, 2, 3, 4]) (As := [.int rq18, .ref h2, .int dn, .int (zMin (m2 - dn) ((((mq2 - (zMod mq2 z)) + z) - mq2) - 7))]) (rest := []) (wr := []) (ws2 := [(b, .inr (0, [.ref br, .int z])), (br, .inr (3, [.ref ba, .int ((f_X0_addFragment Fq2 F2 mq2 m2 rq18 dn (zMin (m2 - dn) ((((mq2 - (zMod mq2 z)) + z) - mq2) - 7))).2.2)])), (ba, .inl (g.2.1, 4096, .inl ((f_X0_addFragment Fq2 F2 mq2 m2 rq18 dn (zMin (m2 - dn) ((((mq2 - (zMod mq2 z)) + z) - mq2) - 7))).2.1))), (h2, .inr (3, [.ref a2, .int m2])), (a2, .inl (g.2.1, N2, .inl F2))]) C dX0_addPieces_75 (c_X0_addFragment (zl X) g b br ba h2 a2 N2 Fq2 F2 z mq2 m2 rq18 dn (zMin (m2 - dn) ((((mq2 - (zMod mq2 z)) + z) - mq2) - 7)) k2_m hm2) gX0_addPieces_X0_addFragment rfl ⟨rfl, rfl⟩ (by decide +kernel) (by decide) (by decide) rfl rfl rfl rfl (Nat.le_of_ble_eq_true rfl) rfl rfl ⟨rfl, rfl, rfl⟩ (by decide) rfl ?_
              generalize hT19 : (f_X0_addFragment Fq2 F2 mq2 m2 rq18 dn (zMin (m2 - dn) ((((mq2 - (zMod mq2 z)) + z) - mq2) - 7))) = T19
              obtain ⟨rq19, Fq19, mq19⟩ := T19
              have k19_m : zok 4096 mq19 := zok_X0_addFragment k2_m hm2 hT19
              refine z_if_ne (tgt := 83) C dX0_addPieces_78 (by decide) (fun c_20 => ?_) (fun c_20 => ?_)
              · skip
                refine z_iload_n C dX0_addPieces_83 rfl 4 rfl ?_
                refine z_iload C dX0_addPieces_84 1 rfl ?_
                refine z_iadd C dX0_addPieces_86 ?_
                refine z_istore_n (lv' := [(2, .int (dn + (zMin (m2 - dn) ((((mq2 - (zMod mq2 z)) + z) - mq2) - 7)))), (5, .int 1), (4, .int (zMin (m2 - dn) ((((mq2 - (zMod mq2 z)) + z) - mq2) - 7))), (0, .ref b), (1, .ref h2), (3, .int pv)]) C dX0_addPieces_87 rfl (by decide) rfl ?_
                refine z_iload C dX0_addPieces_88 1 rfl ?_
                refine z_if_eq (tgt := 95) C dX0_addPieces_90 (by decide) (fun c_21 => absurd c_21 (by decide)) (fun c_21 => ?_)
                refine z_iconst (v := 1) C dX0_addPieces_93 (by decide) ?_
                have he : (f_X0_addPieces F F2 z m m2) = (1, Fq19, mq19) := by rw [← hv]; simp only [lp_X0_addPieces, if_neg c_1, hT2, if_neg c_3, if_pos c_7, if_neg c_17, hT18, hT19, if_neg c_20]
                exact hret _ _ _ _ dX0_addPieces_94 (by first | rw [he] | rfl) (by first | rw [he] | rfl)
              · skip
                refine z_iconst (v := 0) C dX0_addPieces_81 (by decide) ?_
                have he : (f_X0_addPieces F F2 z m m2) = (0, Fq19, mq19) := by rw [← hv]; simp only [lp_X0_addPieces, if_neg c_1, hT2, if_neg c_3, if_pos c_7, if_neg c_17, hT18, hT19, if_pos c_20]
                exact hret _ _ _ _ dX0_addPieces_82 (by first | rw [he] | rfl) (by first | rw [he] | rfl)
            · skip
              refine z_iconst (v := 1) C dX0_addPieces_61 (by decide) ?_
              refine z_goto (tgt := 66) C dX0_addPieces_62 (by decide) ?_
              refine z_iload C dX0_addPieces_66 0 rfl ?_
              refine z_callSi (n := 2) (isC := []) (isR := [0, 1, 2, 3, 4]) (isP := [0, 1, 2, 3, 4]) (As := [.int 1, .int 1]) (rest := [.ref b]) (wr := [(b, .inr (0, [.ref br, .int z])), (br, .inr (3, [.ref ba, .int mq2])), (ba, .inl (g.2.1, 4096, .inl Fq2)), (h2, .inr (3, [.ref a2, .int m2])), (a2, .inl (g.2.1, N2, .inl F2))]) (ws2 := [(b, .inr (0, [.ref br, .int z])), (br, .inr (3, [.ref ba, .int mq2])), (ba, .inl (g.2.1, 4096, .inl Fq2)), (h2, .inr (3, [.ref a2, .int m2])), (a2, .inl (g.2.1, N2, .inl F2))]) C dX0_addPieces_68 (c_X0_kindOf (zl X) g 1 1) gX0_addPieces_X0_kindOf rfl ⟨rfl, rfl⟩ (by decide +kernel) (by decide) (by decide) rfl rfl (Nat.le_of_ble_eq_true rfl) rfl rfl ⟨rfl, rfl, rfl⟩ (by decide) rfl ?_
              generalize hT22 : (f_X0_kindOf 1 1) = rq22
              refine z_aload_n C dX0_addPieces_71 rfl 3 rfl ?_
              refine z_iload_n C dX0_addPieces_72 rfl 4 rfl ?_
              refine z_iload C dX0_addPieces_73 1 rfl ?_
              refine z_callVi (n := 4) (isC := [0, 1, 2, 3, 4]) (isR := []) (isP := [0, 1, 2, 3, 4]) (As := [.int rq22, .ref h2, .int dn, .int (zMin (m2 - dn) ((((mq2 - (zMod mq2 z)) + z) - mq2) - 7))]) (rest := []) (wr := []) (ws2 := [(b, .inr (0, [.ref br, .int z])), (br, .inr (3, [.ref ba, .int ((f_X0_addFragment Fq2 F2 mq2 m2 rq22 dn (zMin (m2 - dn) ((((mq2 - (zMod mq2 z)) + z) - mq2) - 7))).2.2)])), (ba, .inl (g.2.1, 4096, .inl ((f_X0_addFragment Fq2 F2 mq2 m2 rq22 dn (zMin (m2 - dn) ((((mq2 - (zMod mq2 z)) + z) - mq2) - 7))).2.1))), (h2, .inr (3, [.ref a2, .int m2])), (a2, .inl (g.2.1, N2, .inl F2))]) C dX0_addPieces_75 (c_X0_addFragment (zl X) g b br ba h2 a2 N2 Fq2 F2 z mq2 m2 rq22 dn (zMin (m2 - dn) ((((mq2 - (zMod mq2 z)) + z) - mq2) - 7)) k2_m hm2) gX0_addPieces_X0_addFragment rfl ⟨rfl, rfl⟩ (by decide +kernel) (by decide) (by decide) rfl rfl rfl rfl (Nat.le_of_ble_eq_true rfl) rfl rfl ⟨rfl, rfl, rfl⟩ (by decide) rfl ?_
              generalize hT23 : (f_X0_addFragment Fq2 F2 mq2 m2 rq22 dn (zMin (m2 - dn) ((((mq2 - (zMod mq2 z)) + z) - mq2) - 7))) = T23
              obtain ⟨rq23, Fq23, mq23⟩ := T23
              have k23_m : zok 4096 mq23 := zok_X0_addFragment k2_m hm2 hT23
              refine z_if_ne (tgt := 83) C dX0_addPieces_78 (by decide) (fun c_24 => ?_) (fun c_24 => ?_)
              · skip
                refine z_iload_n C dX0_addPieces_83 rfl 4 rfl ?_
                refine z_iload C dX0_addPieces_84 1 rfl ?_
                refine z_iadd C dX0_addPieces_86 ?_
                refine z_istore_n (lv' := [(2, .int (dn + (zMin (m2 - dn) ((((mq2 - (zMod mq2 z)) + z) - mq2) - 7)))), (5, .int 1), (4, .int (zMin (m2 - dn) ((((mq2 - (zMod mq2 z)) + z) - mq2) - 7))), (0, .ref b), (1, .ref h2), (3, .int pv)]) C dX0_addPieces_87 rfl (by decide) rfl ?_
                refine z_iload C dX0_addPieces_88 1 rfl ?_
                refine z_if_eq (tgt := 95) C dX0_addPieces_90 (by decide) (fun c_25 => absurd c_25 (by decide)) (fun c_25 => ?_)
                refine z_iconst (v := 1) C dX0_addPieces_93 (by decide) ?_
                have he : (f_X0_addPieces F F2 z m m2) = (1, Fq23, mq23) := by rw [← hv]; simp only [lp_X0_addPieces, if_neg c_1, hT2, if_neg c_3, if_pos c_7, if_pos c_17, hT22, hT23, if_neg c_24]
                exact hret _ _ _ _ dX0_addPieces_94 (by first | rw [he] | rfl) (by first | rw [he] | rfl)
              · skip
                refine z_iconst (v := 0) C dX0_addPieces_81 (by decide) ?_
                have he : (f_X0_addPieces F F2 z m m2) = (0, Fq23, mq23) := by rw [← hv]; simp only [lp_X0_addPieces, if_neg c_1, hT2, if_neg c_3, if_pos c_7, if_pos c_17, hT22, hT23, if_pos c_24]
                exact hret _ _ _ _ dX0_addPieces_82 (by first | rw [he] | rfl) (by first | rw [he] | rfl)
        · skip
          refine z_iconst (v := 0) C dX0_addPieces_18 (by decide) ?_
          have he : (f_X0_addPieces F F2 z m m2) = (0, Fq2, mq2) := by rw [← hv]; simp only [lp_X0_addPieces, if_neg c_1, hT2, if_pos c_3]
          exact hret _ _ _ _ dX0_addPieces_19 (by first | rw [he] | rfl) (by first | rw [he] | rfl)
  exact z_lv [2, 3, 1, 0] rfl (loop 402 0 0 F m ⟨by decide, by decide, by decide⟩ hm rfl)
def f_X0_addRecord (F : Nat → Int32) (F2 : Nat → Int32) (z : Int32) (m : Int32) (m2 : Int32) : Int32 × (Nat → Int32) × Int32 :=
  match (f_X0_addPieces F F2 z m m2) with
  | (rq2, Fq2, mq2) =>
    if rq2 = 0 then
      (0, Fq2, (f_X3_shorten mq2 m))
    else
      (1, Fq2, mq2)
theorem zbool_X0_addRecord (F F2 : Nat → Int32) (z m m2 : Int32) : narrow .boolean (.int (f_X0_addRecord F F2 z m m2).1) = .int (f_X0_addRecord F F2 z m m2).1 := by
  unfold f_X0_addRecord
  repeat' split
  all_goals ((try dsimp only); rfl)
theorem zok_X0_addRecord {N2 : Nat} {F F1 F2 : Nat → Int32} {z m m2 r m1 : Int32} (hz : zsz z) (hm : zok 4096 m) (hm2 : zok N2 m2) (h : f_X0_addRecord F F2 z m m2 = (r, F1, m1)) : zok 4096 m1 := by
  unfold f_X0_addRecord at h
  split at h
  next e1 =>
  have k1 := zok_X0_addPieces hz hm hm2 e1
  split at h
  · cases h; exact zok_X3_shorten k1 rfl
  · cases h; exact k1
set_option maxHeartbeats 4000000 in
set_option maxRecDepth 100000 in
theorem c_X0_addRecord (l : Launch) (g : zG) (b br ba h2 a2 : Nat) (N2 : Nat) (F : Nat → Int32) (F2 : Nat → Int32) (z : Int32) (m : Int32) (m2 : Int32) (hz : zsz z) (hm : zok 4096 m) (hm2 : zok N2 m2) : zMI l yX0_addRecord wsX0_addRecord ({ frames := 5, cells := 0, slots := 0, locals := 108 }) g [.ref b, .ref h2] [(b, .inr (0, [.ref br, .int z])), (br, .inr (3, [.ref ba, .int m])), (ba, .inl (g.2.1, 4096, .inl F)), (h2, .inr (3, [.ref a2, .int m2])), (a2, .inl (g.2.1, N2, .inl F2))] ((f_X0_addRecord F F2 z m m2).1) [(b, .inr (0, [.ref br, .int z])), (br, .inr (3, [.ref ba, .int ((f_X0_addRecord F F2 z m m2).2.2)])), (ba, .inl (g.2.1, 4096, .inl ((f_X0_addRecord F F2 z m m2).2.1))), (h2, .inr (3, [.ref a2, .int m2])), (a2, .inl (g.2.1, N2, .inl F2))] := by
  refine zMI_of (cc := cX0_addRecord) (nL := 3) (ty := .boolean) (by decide) rfl (Nat.le_of_ble_eq_true rfl) (zbool_X0_addRecord _ _ _ _ _) ?_
  intro X C hret
  refine z_lv (lv' := [(0, .ref b), (1, .ref h2)]) [0, 1] rfl ?_
  refine z_aload_n C dX0_addRecord_0 rfl 0 rfl ?_
  refine z_get (ci := 0) (v := .ref br) (Cn := RX0) (T := TX0) (N := 2) C dX0_addRecord_1 (fun w h => List.mem_cons_of_mem _ (List.mem_append_left _ (List.mem_append_right _ h))) 0 rfl rfl 0 (by decide) (List.mem_of_getElem? (i := 1) rfl) rfl rfl ?_
  refine z_callVi (n := 0) (isC := [1, 2]) (isR := [0, 3, 4]) (isP := [0, 3, 4, 1, 2]) (As := []) (rest := []) (wr := [(b, .inr (0, [.ref br, .int z])), (h2, .inr (3, [.ref a2, .int m2])), (a2, .inl (g.2.1, N2, .inl F2))]) (ws2 := [(b, .inr (0, [.ref br, .int z])), (br, .inr (3, [.ref ba, .int m])), (ba, .inl (g.2.1, 4096, .inl F)), (h2, .inr (3, [.ref a2, .int m2])), (a2, .inl (g.2.1, N2, .inl F2))]) C dX0_addRecord_4 (c_X3_many (zl X) g br ba 4096 F m) gX0_addRecord_X3_many rfl ⟨rfl, rfl⟩ (by decide +kernel) (by decide) (by decide) rfl rfl rfl rfl (Nat.le_of_ble_eq_true rfl) rfl rfl ⟨rfl, rfl, rfl⟩ (by decide) rfl ?_
  refine z_istore_n (lv' := [(2, .int m), (0, .ref b), (1, .ref h2)]) C dX0_addRecord_7 rfl (by decide) rfl ?_
  refine z_aload_n C dX0_addRecord_8 rfl 1 rfl ?_
  refine z_aload_n C dX0_addRecord_9 rfl 2 rfl ?_
  refine z_callVi (n := 1) (isC := [0, 1, 2, 3, 4]) (isR := []) (isP := [0, 1, 2, 3, 4]) (As := [.ref h2]) (rest := []) (wr := []) (ws2 := [(b, .inr (0, [.ref br, .int z])), (br, .inr (3, [.ref ba, .int ((f_X0_addPieces F F2 z m m2).2.2)])), (ba, .inl (g.2.1, 4096, .inl ((f_X0_addPieces F F2 z m m2).2.1))), (h2, .inr (3, [.ref a2, .int m2])), (a2, .inl (g.2.1, N2, .inl F2))]) C dX0_addRecord_10 (c_X0_addPieces (zl X) g b br ba h2 a2 N2 F F2 z m m2 hz hm hm2) gX0_addRecord_X0_addPieces rfl ⟨rfl, rfl⟩ (by decide +kernel) (by decide) (by decide) rfl rfl rfl rfl (Nat.le_of_ble_eq_true rfl) rfl rfl ⟨rfl, rfl, rfl⟩ (by decide) rfl ?_
  generalize hT2 : (f_X0_addPieces F F2 z m m2) = T2
  obtain ⟨rq2, Fq2, mq2⟩ := T2
  have k2_m : zok 4096 mq2 := zok_X0_addPieces hz hm hm2 hT2
  refine z_if_eq (tgt := 18) C dX0_addRecord_13 (by decide) (fun c_3 => ?_) (fun c_3 => ?_)
  · skip
    refine z_aload_n C dX0_addRecord_18 rfl 1 rfl ?_
    refine z_get (ci := 0) (v := .ref br) (Cn := RX0) (T := TX0) (N := 2) C dX0_addRecord_19 (fun w h => List.mem_cons_of_mem _ (List.mem_append_left _ (List.mem_append_right _ h))) 0 rfl rfl 0 (by decide) (List.mem_of_getElem? (i := 1) rfl) rfl rfl ?_
    refine z_iload_n C dX0_addRecord_22 rfl 0 rfl ?_
    refine z_callVv (n := 1) (isC := [1, 2]) (isR := [0, 3, 4]) (isP := [0, 3, 4, 1, 2]) (As := [.int m]) (rest := []) (wr := [(b, .inr (0, [.ref br, .int z])), (h2, .inr (3, [.ref a2, .int m2])), (a2, .inl (g.2.1, N2, .inl F2))]) (ws2 := [(b, .inr (0, [.ref br, .int z])), (br, .inr (3, [.ref ba, .int (f_X3_shorten mq2 m)])), (ba, .inl (g.2.1, 4096, .inl Fq2)), (h2, .inr (3, [.ref a2, .int m2])), (a2, .inl (g.2.1, N2, .inl F2))]) C dX0_addRecord_23 (c_X3_shorten (zl X) g br ba 4096 Fq2 mq2 m k2_m) gX0_addRecord_X3_shorten rfl ⟨rfl, rfl⟩ (by decide +kernel) (by decide) (by decide) rfl rfl rfl rfl (Nat.le_of_ble_eq_true rfl) rfl rfl ⟨rfl, rfl, rfl⟩ (by decide) rfl ?_
    generalize hT4 : (f_X3_shorten mq2 m) = mq4
    have k4_m : zok 4096 mq4 := zok_X3_shorten k2_m hT4
    refine z_iconst (v := 0) C dX0_addRecord_26 (by decide) ?_
    have he : (f_X0_addRecord F F2 z m m2) = (0, Fq2, mq4) := by simp only [f_X0_addRecord, hT2, if_pos c_3, hT4]
    exact hret _ _ _ _ dX0_addRecord_27 (by first | rw [he] | rfl) (by first | rw [he] | rfl)
  · skip
    refine z_iconst (v := 1) C dX0_addRecord_16 (by decide) ?_
    have he : (f_X0_addRecord F F2 z m m2) = (1, Fq2, mq2) := by simp only [f_X0_addRecord, hT2, if_neg c_3]
    exact hret _ _ _ _ dX0_addRecord_17 (by first | rw [he] | rfl) (by first | rw [he] | rfl)
end
section
set_option maxHeartbeats 4000000 in
set_option maxRecDepth 100000 in
theorem c_X2_place (l : Launch) (g : zG) (e b d c dw dy ca br ba : Nat) (Wf : Nat → Int32) (Yf : Nat → Int32) (Cf : Nat → Int32) (F : Nat → Int32) (rp : Int32) (hf : Int32) (pl : Int32) (bg : Int32) (lo : Int32) (fp : Int32) (fb : Int32) (dm : Int32) (da : Int32) (cm : Int32) (z : Int32) (m : Int32) : zMI l yX2_place wsX2_place ({ frames := 0, cells := 0, slots := 0, locals := 0 }) g [.ref e] [(e, .inr (2, [.ref b, .ref d, .ref c, .int rp, .int hf, .int pl, .int bg, .int lo, .int fp, .int fb])), (d, .inr (1, [.ref dw, .ref dy, .int dm, .int da])), (dw, .inl (g.2.2.1, 100, .inl Wf)), (dy, .inl (g.2.2.1, 100, .inl Yf)), (c, .inr (3, [.ref ca, .int cm])), (ca, .inl (g.2.1, 4096, .inl Cf)), (b, .inr (0, [.ref br, .int z])), (br, .inr (3, [.ref ba, .int m])), (ba, .inl (g.2.1, 4096, .inl F))] pl [(e, .inr (2, [.ref b, .ref d, .ref c, .int rp, .int hf, .int pl, .int bg, .int lo, .int fp, .int fb])), (d, .inr (1, [.ref dw, .ref dy, .int dm, .int da])), (dw, .inl (g.2.2.1, 100, .inl Wf)), (dy, .inl (g.2.2.1, 100, .inl Yf)), (c, .inr (3, [.ref ca, .int cm])), (ca, .inl (g.2.1, 4096, .inl Cf)), (b, .inr (0, [.ref br, .int z])), (br, .inr (3, [.ref ba, .int m])), (ba, .inl (g.2.1, 4096, .inl F))] := by
  refine zMI_of (cc := cX2_place) (nL := 1) (ty := .int) (by decide) rfl (Nat.le_of_ble_eq_true rfl) rfl ?_
  intro X C hret
  refine z_lv (lv' := [(0, .ref e)]) [0] rfl ?_
  refine z_aload_n C dX2_place_0 rfl 0 rfl ?_
  refine z_get (ci := 2) (v := .int pl) (Cn := RX2) (T := TX2) (N := 10) C dX2_place_1 (fun w h => List.mem_cons_of_mem _ (List.mem_append_right _ h)) 0 rfl rfl 5 (by decide) (List.mem_of_getElem? (i := 1) rfl) rfl rfl ?_
  exact hret _ _ _ _ dX2_place_4 rfl rfl
set_option maxHeartbeats 4000000 in
set_option maxRecDepth 100000 in
theorem c_X2_isLost (l : Launch) (g : zG) (e b d c dw dy ca br ba : Nat) (Wf : Nat → Int32) (Yf : Nat → Int32) (Cf : Nat → Int32) (F : Nat → Int32) (rp : Int32) (hf : Int32) (pl : Int32) (bg : Int32) (lo : Int32) (fp : Int32) (fb : Int32) (dm : Int32) (da : Int32) (cm : Int32) (z : Int32) (m : Int32) (hlo : zbo lo) : zMI l yX2_isLost wsX2_isLost ({ frames := 0, cells := 0, slots := 0, locals := 0 }) g [.ref e] [(e, .inr (2, [.ref b, .ref d, .ref c, .int rp, .int hf, .int pl, .int bg, .int lo, .int fp, .int fb])), (d, .inr (1, [.ref dw, .ref dy, .int dm, .int da])), (dw, .inl (g.2.2.1, 100, .inl Wf)), (dy, .inl (g.2.2.1, 100, .inl Yf)), (c, .inr (3, [.ref ca, .int cm])), (ca, .inl (g.2.1, 4096, .inl Cf)), (b, .inr (0, [.ref br, .int z])), (br, .inr (3, [.ref ba, .int m])), (ba, .inl (g.2.1, 4096, .inl F))] lo [(e, .inr (2, [.ref b, .ref d, .ref c, .int rp, .int hf, .int pl, .int bg, .int lo, .int fp, .int fb])), (d, .inr (1, [.ref dw, .ref dy, .int dm, .int da])), (dw, .inl (g.2.2.1, 100, .inl Wf)), (dy, .inl (g.2.2.1, 100, .inl Yf)), (c, .inr (3, [.ref ca, .int cm])), (ca, .inl (g.2.1, 4096, .inl Cf)), (b, .inr (0, [.ref br, .int z])), (br, .inr (3, [.ref ba, .int m])), (ba, .inl (g.2.1, 4096, .inl F))] := by
  refine zMI_of (cc := cX2_isLost) (nL := 1) (ty := .boolean) (by decide) rfl (Nat.le_of_ble_eq_true rfl) (zbo_nar hlo) ?_
  intro X C hret
  refine z_lv (lv' := [(0, .ref e)]) [0] rfl ?_
  refine z_aload_n C dX2_isLost_0 rfl 0 rfl ?_
  refine z_get (ci := 2) (v := .int lo) (Cn := RX2) (T := TX2) (N := 10) C dX2_isLost_1 (fun w h => List.mem_cons_of_mem _ (List.mem_append_right _ h)) 0 rfl rfl 7 (by decide) (List.mem_of_getElem? (i := 1) rfl) rfl rfl ?_
  exact hret _ _ _ _ dX2_isLost_4 rfl rfl
set_option maxHeartbeats 4000000 in
set_option maxRecDepth 100000 in
theorem c_X2_drops (l : Launch) (g : zG) (e b d c dw dy ca br ba : Nat) (Wf : Nat → Int32) (Yf : Nat → Int32) (Cf : Nat → Int32) (F : Nat → Int32) (rp : Int32) (hf : Int32) (pl : Int32) (bg : Int32) (lo : Int32) (fp : Int32) (fb : Int32) (dm : Int32) (da : Int32) (cm : Int32) (z : Int32) (m : Int32) : zMR l yX2_drops wsX2_drops ({ frames := 0, cells := 0, slots := 0, locals := 0 }) g [.ref e] [(e, .inr (2, [.ref b, .ref d, .ref c, .int rp, .int hf, .int pl, .int bg, .int lo, .int fp, .int fb])), (d, .inr (1, [.ref dw, .ref dy, .int dm, .int da])), (dw, .inl (g.2.2.1, 100, .inl Wf)), (dy, .inl (g.2.2.1, 100, .inl Yf)), (c, .inr (3, [.ref ca, .int cm])), (ca, .inl (g.2.1, 4096, .inl Cf)), (b, .inr (0, [.ref br, .int z])), (br, .inr (3, [.ref ba, .int m])), (ba, .inl (g.2.1, 4096, .inl F))] d [(e, .inr (2, [.ref b, .ref d, .ref c, .int rp, .int hf, .int pl, .int bg, .int lo, .int fp, .int fb])), (d, .inr (1, [.ref dw, .ref dy, .int dm, .int da])), (dw, .inl (g.2.2.1, 100, .inl Wf)), (dy, .inl (g.2.2.1, 100, .inl Yf)), (c, .inr (3, [.ref ca, .int cm])), (ca, .inl (g.2.1, 4096, .inl Cf)), (b, .inr (0, [.ref br, .int z])), (br, .inr (3, [.ref ba, .int m])), (ba, .inl (g.2.1, 4096, .inl F))] := by
  refine zMR_of (cc := cX2_drops) (nL := 1) (ty := (.object "FragmentLog$Drops")) (by decide) rfl (Nat.le_of_ble_eq_true rfl) (Or.inl ⟨_, rfl⟩) ?_
  intro X C hret
  refine z_lv (lv' := [(0, .ref e)]) [0] rfl ?_
  refine z_aload_n C dX2_drops_0 rfl 0 rfl ?_
  refine z_get (ci := 2) (v := .ref d) (Cn := RX2) (T := TX2) (N := 10) C dX2_drops_1 (fun w h => List.mem_cons_of_mem _ (List.mem_append_right _ h)) 0 rfl rfl 1 (by decide) (List.mem_of_getElem? (i := 1) rfl) rfl rfl ?_
  exact hret _ _ _ _ dX2_drops_4 rfl rfl
set_option maxHeartbeats 4000000 in
set_option maxRecDepth 100000 in
theorem c_X2_record (l : Launch) (g : zG) (e b d c dw dy ca br ba : Nat) (Wf : Nat → Int32) (Yf : Nat → Int32) (Cf : Nat → Int32) (F : Nat → Int32) (rp : Int32) (hf : Int32) (pl : Int32) (bg : Int32) (lo : Int32) (fp : Int32) (fb : Int32) (dm : Int32) (da : Int32) (cm : Int32) (z : Int32) (m : Int32) : zMR l yX2_record wsX2_record ({ frames := 0, cells := 0, slots := 0, locals := 0 }) g [.ref e] [(e, .inr (2, [.ref b, .ref d, .ref c, .int rp, .int hf, .int pl, .int bg, .int lo, .int fp, .int fb])), (d, .inr (1, [.ref dw, .ref dy, .int dm, .int da])), (dw, .inl (g.2.2.1, 100, .inl Wf)), (dy, .inl (g.2.2.1, 100, .inl Yf)), (c, .inr (3, [.ref ca, .int cm])), (ca, .inl (g.2.1, 4096, .inl Cf)), (b, .inr (0, [.ref br, .int z])), (br, .inr (3, [.ref ba, .int m])), (ba, .inl (g.2.1, 4096, .inl F))] c [(e, .inr (2, [.ref b, .ref d, .ref c, .int rp, .int hf, .int pl, .int bg, .int lo, .int fp, .int fb])), (d, .inr (1, [.ref dw, .ref dy, .int dm, .int da])), (dw, .inl (g.2.2.1, 100, .inl Wf)), (dy, .inl (g.2.2.1, 100, .inl Yf)), (c, .inr (3, [.ref ca, .int cm])), (ca, .inl (g.2.1, 4096, .inl Cf)), (b, .inr (0, [.ref br, .int z])), (br, .inr (3, [.ref ba, .int m])), (ba, .inl (g.2.1, 4096, .inl F))] := by
  refine zMR_of (cc := cX2_record) (nL := 1) (ty := (.object "FragmentLog$Row")) (by decide) rfl (Nat.le_of_ble_eq_true rfl) (Or.inl ⟨_, rfl⟩) ?_
  intro X C hret
  refine z_lv (lv' := [(0, .ref e)]) [0] rfl ?_
  refine z_aload_n C dX2_record_0 rfl 0 rfl ?_
  refine z_get (ci := 2) (v := .ref c) (Cn := RX2) (T := TX2) (N := 10) C dX2_record_1 (fun w h => List.mem_cons_of_mem _ (List.mem_append_right _ h)) 0 rfl rfl 2 (by decide) (List.mem_of_getElem? (i := 1) rfl) rfl rfl ?_
  exact hret _ _ _ _ dX2_record_4 rfl rfl
set_option maxHeartbeats 4000000 in
set_option maxRecDepth 100000 in
theorem c_X2_recordPlace (l : Launch) (g : zG) (e b d c dw dy ca br ba : Nat) (Wf : Nat → Int32) (Yf : Nat → Int32) (Cf : Nat → Int32) (F : Nat → Int32) (rp : Int32) (hf : Int32) (pl : Int32) (bg : Int32) (lo : Int32) (fp : Int32) (fb : Int32) (dm : Int32) (da : Int32) (cm : Int32) (z : Int32) (m : Int32) : zMI l yX2_recordPlace wsX2_recordPlace ({ frames := 0, cells := 0, slots := 0, locals := 0 }) g [.ref e] [(e, .inr (2, [.ref b, .ref d, .ref c, .int rp, .int hf, .int pl, .int bg, .int lo, .int fp, .int fb])), (d, .inr (1, [.ref dw, .ref dy, .int dm, .int da])), (dw, .inl (g.2.2.1, 100, .inl Wf)), (dy, .inl (g.2.2.1, 100, .inl Yf)), (c, .inr (3, [.ref ca, .int cm])), (ca, .inl (g.2.1, 4096, .inl Cf)), (b, .inr (0, [.ref br, .int z])), (br, .inr (3, [.ref ba, .int m])), (ba, .inl (g.2.1, 4096, .inl F))] rp [(e, .inr (2, [.ref b, .ref d, .ref c, .int rp, .int hf, .int pl, .int bg, .int lo, .int fp, .int fb])), (d, .inr (1, [.ref dw, .ref dy, .int dm, .int da])), (dw, .inl (g.2.2.1, 100, .inl Wf)), (dy, .inl (g.2.2.1, 100, .inl Yf)), (c, .inr (3, [.ref ca, .int cm])), (ca, .inl (g.2.1, 4096, .inl Cf)), (b, .inr (0, [.ref br, .int z])), (br, .inr (3, [.ref ba, .int m])), (ba, .inl (g.2.1, 4096, .inl F))] := by
  refine zMI_of (cc := cX2_recordPlace) (nL := 1) (ty := .int) (by decide) rfl (Nat.le_of_ble_eq_true rfl) rfl ?_
  intro X C hret
  refine z_lv (lv' := [(0, .ref e)]) [0] rfl ?_
  refine z_aload_n C dX2_recordPlace_0 rfl 0 rfl ?_
  refine z_get (ci := 2) (v := .int rp) (Cn := RX2) (T := TX2) (N := 10) C dX2_recordPlace_1 (fun w h => List.mem_cons_of_mem _ (List.mem_append_right _ h)) 0 rfl rfl 3 (by decide) (List.mem_of_getElem? (i := 1) rfl) rfl rfl ?_
  exact hret _ _ _ _ dX2_recordPlace_4 rfl rfl
def f_X2_beginAt (z : Int32) (v : Int32) : Int32 × Int32 × Int32 × Int32 × Int32 :=
  if 7 ≤ (((v - (zMod v z)) + z) - v) then
    if v ≤ 0 then
      ((v - (zMod v z)), v, 0, 0, 0)
    else
      ((v - (zMod v z)), v, 1, 0, 0)
  else
    if v ≤ 0 then
      (((v - (zMod v z)) + z), v, 0, 0, 0)
    else
      (((v - (zMod v z)) + z), v, 1, 0, 0)
set_option maxHeartbeats 4000000 in
set_option maxRecDepth 100000 in
theorem c_X2_beginAt (l : Launch) (g : zG) (e b d c dw dy ca br ba : Nat) (Wf : Nat → Int32) (Yf : Nat → Int32) (Cf : Nat → Int32) (F : Nat → Int32) (rp : Int32) (hf : Int32) (pl : Int32) (bg : Int32) (lo : Int32) (fp : Int32) (fb : Int32) (dm : Int32) (da : Int32) (cm : Int32) (z : Int32) (m : Int32) (v : Int32) (hz : zsz z) : zMV l yX2_beginAt wsX2_beginAt ({ frames := 2, cells := 0, slots := 0, locals := 42 }) g [.ref e, .int v] [(e, .inr (2, [.ref b, .ref d, .ref c, .int rp, .int hf, .int pl, .int bg, .int lo, .int fp, .int fb])), (d, .inr (1, [.ref dw, .ref dy, .int dm, .int da])), (dw, .inl (g.2.2.1, 100, .inl Wf)), (dy, .inl (g.2.2.1, 100, .inl Yf)), (c, .inr (3, [.ref ca, .int cm])), (ca, .inl (g.2.1, 4096, .inl Cf)), (b, .inr (0, [.ref br, .int z])), (br, .inr (3, [.ref ba, .int m])), (ba, .inl (g.2.1, 4096, .inl F))] [(e, .inr (2, [.ref b, .ref d, .ref c, .int rp, .int hf, .int ((f_X2_beginAt z v).1), .int ((f_X2_beginAt z v).2.1), .int ((f_X2_beginAt z v).2.2.1), .int fp, .int fb])), (d, .inr (1, [.ref dw, .ref dy, .int ((f_X2_beginAt z v).2.2.2.1), .int ((f_X2_beginAt z v).2.2.2.2)])), (dw, .inl (g.2.2.1, 100, .inl Wf)), (dy, .inl (g.2.2.1, 100, .inl Yf)), (c, .inr (3, [.ref ca, .int cm])), (ca, .inl (g.2.1, 4096, .inl Cf)), (b, .inr (0, [.ref br, .int z])), (br, .inr (3, [.ref ba, .int m])), (ba, .inl (g.2.1, 4096, .inl F))] := by
  refine zMV_of (cc := cX2_beginAt) (nL := 3) (by decide) rfl (Nat.le_of_ble_eq_true rfl) ?_
  intro X C hret
  refine z_lv (lv' := [(0, .ref e), (1, .int v)]) [0, 1] rfl ?_
  refine z_aload_n C dX2_beginAt_0 rfl 0 rfl ?_
  refine z_get (ci := 2) (v := .ref b) (Cn := RX2) (T := TX2) (N := 10) C dX2_beginAt_1 (fun w h => List.mem_cons_of_mem _ (List.mem_append_left _ (List.mem_append_left _ (List.mem_append_right _ h)))) 0 rfl rfl 0 (by decide) (List.mem_of_getElem? (i := 1) rfl) rfl rfl ?_
  refine z_iload_n C dX2_beginAt_4 rfl 1 rfl ?_
  refine z_callVi (n := 1) (isC := [6, 7, 8]) (isR := [0, 1, 2, 3, 4, 5]) (isP := [0, 1, 2, 3, 4, 5, 6, 7, 8]) (As := [.int v]) (rest := []) (wr := [(e, .inr (2, [.ref b, .ref d, .ref c, .int rp, .int hf, .int pl, .int bg, .int lo, .int fp, .int fb])), (d, .inr (1, [.ref dw, .ref dy, .int dm, .int da])), (dw, .inl (g.2.2.1, 100, .inl Wf)), (dy, .inl (g.2.2.1, 100, .inl Yf)), (c, .inr (3, [.ref ca, .int cm])), (ca, .inl (g.2.1, 4096, .inl Cf))]) (ws2 := [(e, .inr (2, [.ref b, .ref d, .ref c, .int rp, .int hf, .int pl, .int bg, .int lo, .int fp, .int fb])), (d, .inr (1, [.ref dw, .ref dy, .int dm, .int da])), (dw, .inl (g.2.2.1, 100, .inl Wf)), (dy, .inl (g.2.2.1, 100, .inl Yf)), (c, .inr (3, [.ref ca, .int cm])), (ca, .inl (g.2.1, 4096, .inl Cf)), (b, .inr (0, [.ref br, .int z])), (br, .inr (3, [.ref ba, .int m])), (ba, .inl (g.2.1, 4096, .inl F))]) C dX2_beginAt_5 (c_X0_endOfBlock (zl X) g b br ba F z m v hz) gX2_beginAt_X0_endOfBlock rfl ⟨rfl, rfl⟩ (by decide +kernel) (by decide) (by decide) rfl rfl rfl rfl (Nat.le_of_ble_eq_true rfl) rfl rfl ⟨rfl, rfl, rfl⟩ (by decide) rfl ?_
  refine z_iload_n C dX2_beginAt_8 rfl 1 rfl ?_
  refine z_isub C dX2_beginAt_9 ?_
  refine z_istore_n (lv' := [(2, .int (((v - (zMod v z)) + z) - v)), (0, .ref e), (1, .int v)]) C dX2_beginAt_10 rfl (by decide) rfl ?_
  refine z_aload_n C dX2_beginAt_11 rfl 1 rfl ?_
  refine z_iload_n C dX2_beginAt_12 rfl 0 rfl ?_
  refine z_bipush (v := 7) C dX2_beginAt_13 (by decide) ?_
  refine z_icmp_ge (tgt := 29) C dX2_beginAt_15 (by decide) (fun c_2 => ?_) (fun c_2 => ?_)
  · skip
    refine z_aload_n C dX2_beginAt_29 rfl 1 rfl ?_
    refine z_get (ci := 2) (v := .ref b) (Cn := RX2) (T := TX2) (N := 10) C dX2_beginAt_30 (fun w h => List.mem_cons_of_mem _ (List.mem_append_left _ (List.mem_append_left _ (List.mem_append_right _ h)))) 0 rfl rfl 0 (by decide) (List.mem_of_getElem? (i := 1) rfl) rfl rfl ?_
    refine z_iload_n C dX2_beginAt_33 rfl 2 rfl ?_
    refine z_callVi (n := 1) (isC := [6, 7, 8]) (isR := [0, 1, 2, 3, 4, 5]) (isP := [0, 1, 2, 3, 4, 5, 6, 7, 8]) (As := [.int v]) (rest := [.ref e]) (wr := [(e, .inr (2, [.ref b, .ref d, .ref c, .int rp, .int hf, .int pl, .int bg, .int lo, .int fp, .int fb])), (d, .inr (1, [.ref dw, .ref dy, .int dm, .int da])), (dw, .inl (g.2.2.1, 100, .inl Wf)), (dy, .inl (g.2.2.1, 100, .inl Yf)), (c, .inr (3, [.ref ca, .int cm])), (ca, .inl (g.2.1, 4096, .inl Cf))]) (ws2 := [(e, .inr (2, [.ref b, .ref d, .ref c, .int rp, .int hf, .int pl, .int bg, .int lo, .int fp, .int fb])), (d, .inr (1, [.ref dw, .ref dy, .int dm, .int da])), (dw, .inl (g.2.2.1, 100, .inl Wf)), (dy, .inl (g.2.2.1, 100, .inl Yf)), (c, .inr (3, [.ref ca, .int cm])), (ca, .inl (g.2.1, 4096, .inl Cf)), (b, .inr (0, [.ref br, .int z])), (br, .inr (3, [.ref ba, .int m])), (ba, .inl (g.2.1, 4096, .inl F))]) C dX2_beginAt_34 (c_X0_startOfBlock (zl X) g b br ba F z m v hz) gX2_beginAt_X0_startOfBlock rfl ⟨rfl, rfl⟩ (by decide +kernel) (by decide) (by decide) rfl rfl rfl rfl (Nat.le_of_ble_eq_true rfl) rfl rfl ⟨rfl, rfl, rfl⟩ (by decide) rfl ?_
    refine z_put (ci := 2) (v := .int (v - (zMod v z))) (ty := .int) (Cn := RX2) (T := TX2) (N := 10) (ws' := [(e, .inr (2, [.ref b, .ref d, .ref c, .int rp, .int hf, .int (v - (zMod v z)), .int bg, .int lo, .int fp, .int fb])), (d, .inr (1, [.ref dw, .ref dy, .int dm, .int da])), (dw, .inl (g.2.2.1, 100, .inl Wf)), (dy, .inl (g.2.2.1, 100, .inl Yf)), (c, .inr (3, [.ref ca, .int cm])), (ca, .inl (g.2.1, 4096, .inl Cf)), (b, .inr (0, [.ref br, .int z])), (br, .inr (3, [.ref ba, .int m])), (ba, .inl (g.2.1, 4096, .inl F))]) C dX2_beginAt_37 (fun w h => List.mem_cons_of_mem _ (List.mem_append_left _ (List.mem_append_left _ (List.mem_append_right _ h)))) tyX2 tyX2_ok nmX2 0 rfl rfl 5 (by decide) (List.mem_of_getElem? (i := 2) rfl) rfl rfl (by decide +kernel) rfl rfl (Nat.le_of_ble_eq_true rfl) rfl ?_
    refine z_aload_n C dX2_beginAt_40 rfl 1 rfl ?_
    refine z_iload_n C dX2_beginAt_41 rfl 2 rfl ?_
    refine z_put (ci := 2) (v := .int v) (ty := .int) (Cn := RX2) (T := TX2) (N := 10) (ws' := [(e, .inr (2, [.ref b, .ref d, .ref c, .int rp, .int hf, .int (v - (zMod v z)), .int v, .int lo, .int fp, .int fb])), (d, .inr (1, [.ref dw, .ref dy, .int dm, .int da])), (dw, .inl (g.2.2.1, 100, .inl Wf)), (dy, .inl (g.2.2.1, 100, .inl Yf)), (c, .inr (3, [.ref ca, .int cm])), (ca, .inl (g.2.1, 4096, .inl Cf)), (b, .inr (0, [.ref br, .int z])), (br, .inr (3, [.ref ba, .int m])), (ba, .inl (g.2.1, 4096, .inl F))]) C dX2_beginAt_42 (fun w h => List.mem_cons_of_mem _ (List.mem_append_left _ (List.mem_append_left _ (List.mem_append_right _ h)))) tyX2 tyX2_ok nmX2 0 rfl rfl 6 (by decide) (List.mem_of_getElem? (i := 3) rfl) rfl rfl (by decide +kernel) rfl rfl (Nat.le_of_ble_eq_true rfl) rfl ?_
    refine z_aload_n C dX2_beginAt_45 rfl 1 rfl ?_
    refine z_iload_n C dX2_beginAt_46 rfl 2 rfl ?_
    refine z_if_le (tgt := 54) C dX2_beginAt_47 (by decide) (fun c_4 => ?_) (fun c_4 => ?_)
    · skip
      refine z_iconst (v := 0) C dX2_beginAt_54 (by decide) ?_
      refine z_put (ci := 2) (v := .int 0) (ty := .boolean) (Cn := RX2) (T := TX2) (N := 10) (ws' := [(e, .inr (2, [.ref b, .ref d, .ref c, .int rp, .int hf, .int (v - (zMod v z)), .int v, .int 0, .int fp, .int fb])), (d, .inr (1, [.ref dw, .ref dy, .int dm, .int da])), (dw, .inl (g.2.2.1, 100, .inl Wf)), (dy, .inl (g.2.2.1, 100, .inl Yf)), (c, .inr (3, [.ref ca, .int cm])), (ca, .inl (g.2.1, 4096, .inl Cf)), (b, .inr (0, [.ref br, .int z])), (br, .inr (3, [.ref ba, .int m])), (ba, .inl (g.2.1, 4096, .inl F))]) C dX2_beginAt_55 (fun w h => List.mem_cons_of_mem _ (List.mem_append_left _ (List.mem_append_left _ (List.mem_append_right _ h)))) tyX2 tyX2_ok nmX2 0 rfl rfl 7 (by decide) (List.mem_of_getElem? (i := 4) rfl) rfl rfl (by decide +kernel) rfl rfl (Nat.le_of_ble_eq_true rfl) rfl ?_
      refine z_aload_n C dX2_beginAt_58 rfl 1 rfl ?_
      refine z_get (ci := 2) (v := .ref d) (Cn := RX2) (T := TX2) (N := 10) C dX2_beginAt_59 (fun w h => List.mem_cons_of_mem _ (List.mem_append_left _ (List.mem_append_left _ (List.mem_append_right _ h)))) 0 rfl rfl 1 (by decide) (List.mem_of_getElem? (i := 5) rfl) rfl rfl ?_
      refine z_callVv (n := 0) (isC := [1, 2, 3]) (isR := [0, 4, 5, 6, 7, 8]) (isP := [0, 6, 7, 8, 1, 2, 3, 4, 5]) (As := []) (rest := []) (wr := [(e, .inr (2, [.ref b, .ref d, .ref c, .int rp, .int hf, .int (v - (zMod v z)), .int v, .int 0, .int fp, .int fb])), (c, .inr (3, [.ref ca, .int cm])), (ca, .inl (g.2.1, 4096, .inl Cf)), (b, .inr (0, [.ref br, .int z])), (br, .inr (3, [.ref ba, .int m])), (ba, .inl (g.2.1, 4096, .inl F))]) (ws2 := [(e, .inr (2, [.ref b, .ref d, .ref c, .int rp, .int hf, .int (v - (zMod v z)), .int v, .int 0, .int fp, .int fb])), (d, .inr (1, [.ref dw, .ref dy, .int 0, .int 0])), (dw, .inl (g.2.2.1, 100, .inl Wf)), (dy, .inl (g.2.2.1, 100, .inl Yf)), (c, .inr (3, [.ref ca, .int cm])), (ca, .inl (g.2.1, 4096, .inl Cf)), (b, .inr (0, [.ref br, .int z])), (br, .inr (3, [.ref ba, .int m])), (ba, .inl (g.2.1, 4096, .inl F))]) C dX2_beginAt_62 (c_X1_forget (zl X) g d dw dy Wf Yf dm da) gX2_beginAt_X1_forget rfl ⟨rfl, rfl⟩ (by decide +kernel) (by decide) (by decide) rfl rfl rfl rfl (Nat.le_of_ble_eq_true rfl) rfl rfl ⟨rfl, rfl, rfl⟩ (by decide) rfl ?_
      have he : (f_X2_beginAt z v) = ((v - (zMod v z)), v, 0, 0, 0) := by simp only [f_X2_beginAt, if_pos c_2, if_pos c_4]
      exact hret _ _ _ dX2_beginAt_65 (by first | rw [he] | rfl)
    · skip
      refine z_iconst (v := 1) C dX2_beginAt_50 (by decide) ?_
      refine z_goto (tgt := 55) C dX2_beginAt_51 (by decide) ?_
      refine z_put (ci := 2) (v := .int 1) (ty := .boolean) (Cn := RX2) (T := TX2) (N := 10) (ws' := [(e, .inr (2, [.ref b, .ref d, .ref c, .int rp, .int hf, .int (v - (zMod v z)), .int v, .int 1, .int fp, .int fb])), (d, .inr (1, [.ref dw, .ref dy, .int dm, .int da])), (dw, .inl (g.2.2.1, 100, .inl Wf)), (dy, .inl (g.2.2.1, 100, .inl Yf)), (c, .inr (3, [.ref ca, .int cm])), (ca, .inl (g.2.1, 4096, .inl Cf)), (b, .inr (0, [.ref br, .int z])), (br, .inr (3, [.ref ba, .int m])), (ba, .inl (g.2.1, 4096, .inl F))]) C dX2_beginAt_55 (fun w h => List.mem_cons_of_mem _ (List.mem_append_left _ (List.mem_append_left _ (List.mem_append_right _ h)))) tyX2 tyX2_ok nmX2 0 rfl rfl 7 (by decide) (List.mem_of_getElem? (i := 4) rfl) rfl rfl (by decide +kernel) rfl rfl (Nat.le_of_ble_eq_true rfl) rfl ?_
      refine z_aload_n C dX2_beginAt_58 rfl 1 rfl ?_
      refine z_get (ci := 2) (v := .ref d) (Cn := RX2) (T := TX2) (N := 10) C dX2_beginAt_59 (fun w h => List.mem_cons_of_mem _ (List.mem_append_left _ (List.mem_append_left _ (List.mem_append_right _ h)))) 0 rfl rfl 1 (by decide) (List.mem_of_getElem? (i := 5) rfl) rfl rfl ?_
      refine z_callVv (n := 0) (isC := [1, 2, 3]) (isR := [0, 4, 5, 6, 7, 8]) (isP := [0, 6, 7, 8, 1, 2, 3, 4, 5]) (As := []) (rest := []) (wr := [(e, .inr (2, [.ref b, .ref d, .ref c, .int rp, .int hf, .int (v - (zMod v z)), .int v, .int 1, .int fp, .int fb])), (c, .inr (3, [.ref ca, .int cm])), (ca, .inl (g.2.1, 4096, .inl Cf)), (b, .inr (0, [.ref br, .int z])), (br, .inr (3, [.ref ba, .int m])), (ba, .inl (g.2.1, 4096, .inl F))]) (ws2 := [(e, .inr (2, [.ref b, .ref d, .ref c, .int rp, .int hf, .int (v - (zMod v z)), .int v, .int 1, .int fp, .int fb])), (d, .inr (1, [.ref dw, .ref dy, .int 0, .int 0])), (dw, .inl (g.2.2.1, 100, .inl Wf)), (dy, .inl (g.2.2.1, 100, .inl Yf)), (c, .inr (3, [.ref ca, .int cm])), (ca, .inl (g.2.1, 4096, .inl Cf)), (b, .inr (0, [.ref br, .int z])), (br, .inr (3, [.ref ba, .int m])), (ba, .inl (g.2.1, 4096, .inl F))]) C dX2_beginAt_62 (c_X1_forget (zl X) g d dw dy Wf Yf dm da) gX2_beginAt_X1_forget rfl ⟨rfl, rfl⟩ (by decide +kernel) (by decide) (by decide) rfl rfl rfl rfl (Nat.le_of_ble_eq_true rfl) rfl rfl ⟨rfl, rfl, rfl⟩ (by decide) rfl ?_
      have he : (f_X2_beginAt z v) = ((v - (zMod v z)), v, 1, 0, 0) := by simp only [f_X2_beginAt, if_pos c_2, if_neg c_4]
      exact hret _ _ _ dX2_beginAt_65 (by first | rw [he] | rfl)
  · skip
    refine z_aload_n C dX2_beginAt_18 rfl 1 rfl ?_
    refine z_get (ci := 2) (v := .ref b) (Cn := RX2) (T := TX2) (N := 10) C dX2_beginAt_19 (fun w h => List.mem_cons_of_mem _ (List.mem_append_left _ (List.mem_append_left _ (List.mem_append_right _ h)))) 0 rfl rfl 0 (by decide) (List.mem_of_getElem? (i := 1) rfl) rfl rfl ?_
    refine z_iload_n C dX2_beginAt_22 rfl 2 rfl ?_
    refine z_callVi (n := 1) (isC := [6, 7, 8]) (isR := [0, 1, 2, 3, 4, 5]) (isP := [0, 1, 2, 3, 4, 5, 6, 7, 8]) (As := [.int v]) (rest := [.ref e]) (wr := [(e, .inr (2, [.ref b, .ref d, .ref c, .int rp, .int hf, .int pl, .int bg, .int lo, .int fp, .int fb])), (d, .inr (1, [.ref dw, .ref dy, .int dm, .int da])), (dw, .inl (g.2.2.1, 100, .inl Wf)), (dy, .inl (g.2.2.1, 100, .inl Yf)), (c, .inr (3, [.ref ca, .int cm])), (ca, .inl (g.2.1, 4096, .inl Cf))]) (ws2 := [(e, .inr (2, [.ref b, .ref d, .ref c, .int rp, .int hf, .int pl, .int bg, .int lo, .int fp, .int fb])), (d, .inr (1, [.ref dw, .ref dy, .int dm, .int da])), (dw, .inl (g.2.2.1, 100, .inl Wf)), (dy, .inl (g.2.2.1, 100, .inl Yf)), (c, .inr (3, [.ref ca, .int cm])), (ca, .inl (g.2.1, 4096, .inl Cf)), (b, .inr (0, [.ref br, .int z])), (br, .inr (3, [.ref ba, .int m])), (ba, .inl (g.2.1, 4096, .inl F))]) C dX2_beginAt_23 (c_X0_endOfBlock (zl X) g b br ba F z m v hz) gX2_beginAt_X0_endOfBlock rfl ⟨rfl, rfl⟩ (by decide +kernel) (by decide) (by decide) rfl rfl rfl rfl (Nat.le_of_ble_eq_true rfl) rfl rfl ⟨rfl, rfl, rfl⟩ (by decide) rfl ?_
    refine z_goto (tgt := 37) C dX2_beginAt_26 (by decide) ?_
    refine z_put (ci := 2) (v := .int ((v - (zMod v z)) + z)) (ty := .int) (Cn := RX2) (T := TX2) (N := 10) (ws' := [(e, .inr (2, [.ref b, .ref d, .ref c, .int rp, .int hf, .int ((v - (zMod v z)) + z), .int bg, .int lo, .int fp, .int fb])), (d, .inr (1, [.ref dw, .ref dy, .int dm, .int da])), (dw, .inl (g.2.2.1, 100, .inl Wf)), (dy, .inl (g.2.2.1, 100, .inl Yf)), (c, .inr (3, [.ref ca, .int cm])), (ca, .inl (g.2.1, 4096, .inl Cf)), (b, .inr (0, [.ref br, .int z])), (br, .inr (3, [.ref ba, .int m])), (ba, .inl (g.2.1, 4096, .inl F))]) C dX2_beginAt_37 (fun w h => List.mem_cons_of_mem _ (List.mem_append_left _ (List.mem_append_left _ (List.mem_append_right _ h)))) tyX2 tyX2_ok nmX2 0 rfl rfl 5 (by decide) (List.mem_of_getElem? (i := 2) rfl) rfl rfl (by decide +kernel) rfl rfl (Nat.le_of_ble_eq_true rfl) rfl ?_
    refine z_aload_n C dX2_beginAt_40 rfl 1 rfl ?_
    refine z_iload_n C dX2_beginAt_41 rfl 2 rfl ?_
    refine z_put (ci := 2) (v := .int v) (ty := .int) (Cn := RX2) (T := TX2) (N := 10) (ws' := [(e, .inr (2, [.ref b, .ref d, .ref c, .int rp, .int hf, .int ((v - (zMod v z)) + z), .int v, .int lo, .int fp, .int fb])), (d, .inr (1, [.ref dw, .ref dy, .int dm, .int da])), (dw, .inl (g.2.2.1, 100, .inl Wf)), (dy, .inl (g.2.2.1, 100, .inl Yf)), (c, .inr (3, [.ref ca, .int cm])), (ca, .inl (g.2.1, 4096, .inl Cf)), (b, .inr (0, [.ref br, .int z])), (br, .inr (3, [.ref ba, .int m])), (ba, .inl (g.2.1, 4096, .inl F))]) C dX2_beginAt_42 (fun w h => List.mem_cons_of_mem _ (List.mem_append_left _ (List.mem_append_left _ (List.mem_append_right _ h)))) tyX2 tyX2_ok nmX2 0 rfl rfl 6 (by decide) (List.mem_of_getElem? (i := 3) rfl) rfl rfl (by decide +kernel) rfl rfl (Nat.le_of_ble_eq_true rfl) rfl ?_
    refine z_aload_n C dX2_beginAt_45 rfl 1 rfl ?_
    refine z_iload_n C dX2_beginAt_46 rfl 2 rfl ?_
    refine z_if_le (tgt := 54) C dX2_beginAt_47 (by decide) (fun c_8 => ?_) (fun c_8 => ?_)
    · skip
      refine z_iconst (v := 0) C dX2_beginAt_54 (by decide) ?_
      refine z_put (ci := 2) (v := .int 0) (ty := .boolean) (Cn := RX2) (T := TX2) (N := 10) (ws' := [(e, .inr (2, [.ref b, .ref d, .ref c, .int rp, .int hf, .int ((v - (zMod v z)) + z), .int v, .int 0, .int fp, .int fb])), (d, .inr (1, [.ref dw, .ref dy, .int dm, .int da])), (dw, .inl (g.2.2.1, 100, .inl Wf)), (dy, .inl (g.2.2.1, 100, .inl Yf)), (c, .inr (3, [.ref ca, .int cm])), (ca, .inl (g.2.1, 4096, .inl Cf)), (b, .inr (0, [.ref br, .int z])), (br, .inr (3, [.ref ba, .int m])), (ba, .inl (g.2.1, 4096, .inl F))]) C dX2_beginAt_55 (fun w h => List.mem_cons_of_mem _ (List.mem_append_left _ (List.mem_append_left _ (List.mem_append_right _ h)))) tyX2 tyX2_ok nmX2 0 rfl rfl 7 (by decide) (List.mem_of_getElem? (i := 4) rfl) rfl rfl (by decide +kernel) rfl rfl (Nat.le_of_ble_eq_true rfl) rfl ?_
      refine z_aload_n C dX2_beginAt_58 rfl 1 rfl ?_
      refine z_get (ci := 2) (v := .ref d) (Cn := RX2) (T := TX2) (N := 10) C dX2_beginAt_59 (fun w h => List.mem_cons_of_mem _ (List.mem_append_left _ (List.mem_append_left _ (List.mem_append_right _ h)))) 0 rfl rfl 1 (by decide) (List.mem_of_getElem? (i := 5) rfl) rfl rfl ?_
      refine z_callVv (n := 0) (isC := [1, 2, 3]) (isR := [0, 4, 5, 6, 7, 8]) (isP := [0, 6, 7, 8, 1, 2, 3, 4, 5]) (As := []) (rest := []) (wr := [(e, .inr (2, [.ref b, .ref d, .ref c, .int rp, .int hf, .int ((v - (zMod v z)) + z), .int v, .int 0, .int fp, .int fb])), (c, .inr (3, [.ref ca, .int cm])), (ca, .inl (g.2.1, 4096, .inl Cf)), (b, .inr (0, [.ref br, .int z])), (br, .inr (3, [.ref ba, .int m])), (ba, .inl (g.2.1, 4096, .inl F))]) (ws2 := [(e, .inr (2, [.ref b, .ref d, .ref c, .int rp, .int hf, .int ((v - (zMod v z)) + z), .int v, .int 0, .int fp, .int fb])), (d, .inr (1, [.ref dw, .ref dy, .int 0, .int 0])), (dw, .inl (g.2.2.1, 100, .inl Wf)), (dy, .inl (g.2.2.1, 100, .inl Yf)), (c, .inr (3, [.ref ca, .int cm])), (ca, .inl (g.2.1, 4096, .inl Cf)), (b, .inr (0, [.ref br, .int z])), (br, .inr (3, [.ref ba, .int m])), (ba, .inl (g.2.1, 4096, .inl F))]) C dX2_beginAt_62 (c_X1_forget (zl X) g d dw dy Wf Yf dm da) gX2_beginAt_X1_forget rfl ⟨rfl, rfl⟩ (by decide +kernel) (by decide) (by decide) rfl rfl rfl rfl (Nat.le_of_ble_eq_true rfl) rfl rfl ⟨rfl, rfl, rfl⟩ (by decide) rfl ?_
      have he : (f_X2_beginAt z v) = (((v - (zMod v z)) + z), v, 0, 0, 0) := by simp only [f_X2_beginAt, if_neg c_2, if_pos c_8]
      exact hret _ _ _ dX2_beginAt_65 (by first | rw [he] | rfl)
    · skip
      refine z_iconst (v := 1) C dX2_beginAt_50 (by decide) ?_
      refine z_goto (tgt := 55) C dX2_beginAt_51 (by decide) ?_
      refine z_put (ci := 2) (v := .int 1) (ty := .boolean) (Cn := RX2) (T := TX2) (N := 10) (ws' := [(e, .inr (2, [.ref b, .ref d, .ref c, .int rp, .int hf, .int ((v - (zMod v z)) + z), .int v, .int 1, .int fp, .int fb])), (d, .inr (1, [.ref dw, .ref dy, .int dm, .int da])), (dw, .inl (g.2.2.1, 100, .inl Wf)), (dy, .inl (g.2.2.1, 100, .inl Yf)), (c, .inr (3, [.ref ca, .int cm])), (ca, .inl (g.2.1, 4096, .inl Cf)), (b, .inr (0, [.ref br, .int z])), (br, .inr (3, [.ref ba, .int m])), (ba, .inl (g.2.1, 4096, .inl F))]) C dX2_beginAt_55 (fun w h => List.mem_cons_of_mem _ (List.mem_append_left _ (List.mem_append_left _ (List.mem_append_right _ h)))) tyX2 tyX2_ok nmX2 0 rfl rfl 7 (by decide) (List.mem_of_getElem? (i := 4) rfl) rfl rfl (by decide +kernel) rfl rfl (Nat.le_of_ble_eq_true rfl) rfl ?_
      refine z_aload_n C dX2_beginAt_58 rfl 1 rfl ?_
      refine z_get (ci := 2) (v := .ref d) (Cn := RX2) (T := TX2) (N := 10) C dX2_beginAt_59 (fun w h => List.mem_cons_of_mem _ (List.mem_append_left _ (List.mem_append_left _ (List.mem_append_right _ h)))) 0 rfl rfl 1 (by decide) (List.mem_of_getElem? (i := 5) rfl) rfl rfl ?_
      refine z_callVv (n := 0) (isC := [1, 2, 3]) (isR := [0, 4, 5, 6, 7, 8]) (isP := [0, 6, 7, 8, 1, 2, 3, 4, 5]) (As := []) (rest := []) (wr := [(e, .inr (2, [.ref b, .ref d, .ref c, .int rp, .int hf, .int ((v - (zMod v z)) + z), .int v, .int 1, .int fp, .int fb])), (c, .inr (3, [.ref ca, .int cm])), (ca, .inl (g.2.1, 4096, .inl Cf)), (b, .inr (0, [.ref br, .int z])), (br, .inr (3, [.ref ba, .int m])), (ba, .inl (g.2.1, 4096, .inl F))]) (ws2 := [(e, .inr (2, [.ref b, .ref d, .ref c, .int rp, .int hf, .int ((v - (zMod v z)) + z), .int v, .int 1, .int fp, .int fb])), (d, .inr (1, [.ref dw, .ref dy, .int 0, .int 0])), (dw, .inl (g.2.2.1, 100, .inl Wf)), (dy, .inl (g.2.2.1, 100, .inl Yf)), (c, .inr (3, [.ref ca, .int cm])), (ca, .inl (g.2.1, 4096, .inl Cf)), (b, .inr (0, [.ref br, .int z])), (br, .inr (3, [.ref ba, .int m])), (ba, .inl (g.2.1, 4096, .inl F))]) C dX2_beginAt_62 (c_X1_forget (zl X) g d dw dy Wf Yf dm da) gX2_beginAt_X1_forget rfl ⟨rfl, rfl⟩ (by decide +kernel) (by decide) (by decide) rfl rfl rfl rfl (Nat.le_of_ble_eq_true rfl) rfl rfl ⟨rfl, rfl, rfl⟩ (by decide) rfl ?_
      have he : (f_X2_beginAt z v) = (((v - (zMod v z)) + z), v, 1, 0, 0) := by simp only [f_X2_beginAt, if_neg c_2, if_neg c_8]
      exact hret _ _ _ dX2_beginAt_65 (by first | rw [he] | rfl)
def f_X2_dropRecord (cm : Int32) : Int32 × Int32 × Int32 :=
  ((-1), 0, (f_X3_shorten cm 0))
theorem zok_X2_dropRecord {cm r h c1 : Int32} (hc : zok 4096 cm) (e : f_X2_dropRecord cm = (r, h, c1)) : zok 4096 c1 := by
  unfold f_X2_dropRecord at e
  cases e
  exact zok_X3_shorten hc rfl
set_option maxHeartbeats 4000000 in
set_option maxRecDepth 100000 in
theorem c_X2_dropRecord (l : Launch) (g : zG) (e b d c dw dy ca br ba : Nat) (Wf : Nat → Int32) (Yf : Nat → Int32) (Cf : Nat → Int32) (F : Nat → Int32) (rp : Int32) (hf : Int32) (pl : Int32) (bg : Int32) (lo : Int32) (fp : Int32) (fb : Int32) (dm : Int32) (da : Int32) (cm : Int32) (z : Int32) (m : Int32) (hc : zok 4096 cm) : zMV l yX2_dropRecord wsX2_dropRecord ({ frames := 1, cells := 0, slots := 0, locals := 21 }) g [.ref e] [(e, .inr (2, [.ref b, .ref d, .ref c, .int rp, .int hf, .int pl, .int bg, .int lo, .int fp, .int fb])), (d, .inr (1, [.ref dw, .ref dy, .int dm, .int da])), (dw, .inl (g.2.2.1, 100, .inl Wf)), (dy, .inl (g.2.2.1, 100, .inl Yf)), (c, .inr (3, [.ref ca, .int cm])), (ca, .inl (g.2.1, 4096, .inl Cf)), (b, .inr (0, [.ref br, .int z])), (br, .inr (3, [.ref ba, .int m])), (ba, .inl (g.2.1, 4096, .inl F))] [(e, .inr (2, [.ref b, .ref d, .ref c, .int ((f_X2_dropRecord cm).1), .int ((f_X2_dropRecord cm).2.1), .int pl, .int bg, .int lo, .int fp, .int fb])), (d, .inr (1, [.ref dw, .ref dy, .int dm, .int da])), (dw, .inl (g.2.2.1, 100, .inl Wf)), (dy, .inl (g.2.2.1, 100, .inl Yf)), (c, .inr (3, [.ref ca, .int ((f_X2_dropRecord cm).2.2)])), (ca, .inl (g.2.1, 4096, .inl Cf)), (b, .inr (0, [.ref br, .int z])), (br, .inr (3, [.ref ba, .int m])), (ba, .inl (g.2.1, 4096, .inl F))] := by
  refine zMV_of (cc := cX2_dropRecord) (nL := 1) (by decide) rfl (Nat.le_of_ble_eq_true rfl) ?_
  intro X C hret
  refine z_lv (lv' := [(0, .ref e)]) [0] rfl ?_
  refine z_aload_n C dX2_dropRecord_0 rfl 0 rfl ?_
  refine z_get (ci := 2) (v := .ref c) (Cn := RX2) (T := TX2) (N := 10) C dX2_dropRecord_1 (fun w h => List.mem_cons_of_mem _ (List.mem_append_left _ (List.mem_append_right _ h))) 0 rfl rfl 2 (by decide) (List.mem_of_getElem? (i := 1) rfl) rfl rfl ?_
  refine z_iconst (v := 0) C dX2_dropRecord_4 (by decide) ?_
  refine z_callVv (n := 1) (isC := [4, 5]) (isR := [0, 1, 2, 3, 6, 7, 8]) (isP := [0, 1, 2, 3, 7, 8, 4, 5, 6]) (As := [.int 0]) (rest := []) (wr := [(e, .inr (2, [.ref b, .ref d, .ref c, .int rp, .int hf, .int pl, .int bg, .int lo, .int fp, .int fb])), (d, .inr (1, [.ref dw, .ref dy, .int dm, .int da])), (dw, .inl (g.2.2.1, 100, .inl Wf)), (dy, .inl (g.2.2.1, 100, .inl Yf)), (b, .inr (0, [.ref br, .int z])), (br, .inr (3, [.ref ba, .int m])), (ba, .inl (g.2.1, 4096, .inl F))]) (ws2 := [(e, .inr (2, [.ref b, .ref d, .ref c, .int rp, .int hf, .int pl, .int bg, .int lo, .int fp, .int fb])), (d, .inr (1, [.ref dw, .ref dy, .int dm, .int da])), (dw, .inl (g.2.2.1, 100, .inl Wf)), (dy, .inl (g.2.2.1, 100, .inl Yf)), (c, .inr (3, [.ref ca, .int (f_X3_shorten cm 0)])), (ca, .inl (g.2.1, 4096, .inl Cf)), (b, .inr (0, [.ref br, .int z])), (br, .inr (3, [.ref ba, .int m])), (ba, .inl (g.2.1, 4096, .inl F))]) C dX2_dropRecord_5 (c_X3_shorten (zl X) g c ca 4096 Cf cm 0 hc) gX2_dropRecord_X3_shorten rfl ⟨rfl, rfl⟩ (by decide +kernel) (by decide) (by decide) rfl rfl rfl rfl (Nat.le_of_ble_eq_true rfl) rfl rfl ⟨rfl, rfl, rfl⟩ (by decide) rfl ?_
  generalize hT1 : (f_X3_shorten cm 0) = mq1
  have k1_m : zok 4096 mq1 := zok_X3_shorten hc hT1
  refine z_aload_n C dX2_dropRecord_8 rfl 0 rfl ?_
  refine z_iconst (v := (-1)) C dX2_dropRecord_9 (by decide) ?_
  refine z_put (ci := 2) (v := .int (-1)) (ty := .int) (Cn := RX2) (T := TX2) (N := 10) (ws' := [(e, .inr (2, [.ref b, .ref d, .ref c, .int (-1), .int hf, .int pl, .int bg, .int lo, .int fp, .int fb])), (d, .inr (1, [.ref dw, .ref dy, .int dm, .int da])), (dw, .inl (g.2.2.1, 100, .inl Wf)), (dy, .inl (g.2.2.1, 100, .inl Yf)), (c, .inr (3, [.ref ca, .int mq1])), (ca, .inl (g.2.1, 4096, .inl Cf)), (b, .inr (0, [.ref br, .int z])), (br, .inr (3, [.ref ba, .int m])), (ba, .inl (g.2.1, 4096, .inl F))]) C dX2_dropRecord_10 (fun w h => List.mem_cons_of_mem _ (List.mem_append_left _ (List.mem_append_right _ h))) tyX2 tyX2_ok nmX2 0 rfl rfl 3 (by decide) (List.mem_of_getElem? (i := 2) rfl) rfl rfl (by decide +kernel) rfl rfl (Nat.le_of_ble_eq_true rfl) rfl ?_
  refine z_aload_n C dX2_dropRecord_13 rfl 0 rfl ?_
  refine z_iconst (v := 0) C dX2_dropRecord_14 (by decide) ?_
  refine z_put (ci := 2) (v := .int 0) (ty := .boolean) (Cn := RX2) (T := TX2) (N := 10) (ws' := [(e, .inr (2, [.ref b, .ref d, .ref c, .int (-1), .int 0, .int pl, .int bg, .int lo, .int fp, .int fb])), (d, .inr (1, [.ref dw, .ref dy, .int dm, .int da])), (dw, .inl (g.2.2.1, 100, .inl Wf)), (dy, .inl (g.2.2.1, 100, .inl Yf)), (c, .inr (3, [.ref ca, .int mq1])), (ca, .inl (g.2.1, 4096, .inl Cf)), (b, .inr (0, [.ref br, .int z])), (br, .inr (3, [.ref ba, .int m])), (ba, .inl (g.2.1, 4096, .inl F))]) C dX2_dropRecord_15 (fun w h => List.mem_cons_of_mem _ (List.mem_append_left _ (List.mem_append_right _ h))) tyX2 tyX2_ok nmX2 0 rfl rfl 4 (by decide) (List.mem_of_getElem? (i := 3) rfl) rfl rfl (by decide +kernel) rfl rfl (Nat.le_of_ble_eq_true rfl) rfl ?_
  have he : (f_X2_dropRecord cm) = ((-1), 0, mq1) := by simp only [f_X2_dropRecord, hT1]
  exact hret _ _ _ dX2_dropRecord_18 (by first | rw [he] | rfl)
def f_X2_addFragmentBytes (Cf : Nat → Int32) (F : Nat → Int32) (fp : Int32) (fb : Int32) (cm : Int32) (m : Int32) : (Nat → Int32) × Int32 :=
  match (f_X3_addPart 4096 Cf F cm m (fp + 7) fb) with
  | (Fq2, mq2) =>
    (Fq2, mq2)
theorem zok_X2_addFragmentBytes {C F C1 : Nat → Int32} {fp fb cm m c1 : Int32} (hc : zok 4096 cm) (hm : zok 4096 m) (e : f_X2_addFragmentBytes C F fp fb cm m = (C1, c1)) : zok 4096 c1 := by
  unfold f_X2_addFragmentBytes at e
  split at e
  next e1 =>
  cases e
  exact zok_X3_addPart hc hm e1
set_option maxHeartbeats 4000000 in
set_option maxRecDepth 100000 in
theorem c_X2_addFragmentBytes (l : Launch) (g : zG) (e b d c dw dy ca br ba : Nat) (Wf : Nat → Int32) (Yf : Nat → Int32) (Cf : Nat → Int32) (F : Nat → Int32) (rp : Int32) (hf : Int32) (pl : Int32) (bg : Int32) (lo : Int32) (fp : Int32) (fb : Int32) (dm : Int32) (da : Int32) (cm : Int32) (z : Int32) (m : Int32) (hc : zok 4096 cm) (hm : zok 4096 m) : zMV l yX2_addFragmentBytes wsX2_addFragmentBytes ({ frames := 2, cells := 0, slots := 0, locals := 45 }) g [.ref e] [(e, .inr (2, [.ref b, .ref d, .ref c, .int rp, .int hf, .int pl, .int bg, .int lo, .int fp, .int fb])), (d, .inr (1, [.ref dw, .ref dy, .int dm, .int da])), (dw, .inl (g.2.2.1, 100, .inl Wf)), (dy, .inl (g.2.2.1, 100, .inl Yf)), (c, .inr (3, [.ref ca, .int cm])), (ca, .inl (g.2.1, 4096, .inl Cf)), (b, .inr (0, [.ref br, .int z])), (br, .inr (3, [.ref ba, .int m])), (ba, .inl (g.2.1, 4096, .inl F))] [(e, .inr (2, [.ref b, .ref d, .ref c, .int rp, .int hf, .int pl, .int bg, .int lo, .int fp, .int fb])), (d, .inr (1, [.ref dw, .ref dy, .int dm, .int da])), (dw, .inl (g.2.2.1, 100, .inl Wf)), (dy, .inl (g.2.2.1, 100, .inl Yf)), (c, .inr (3, [.ref ca, .int ((f_X2_addFragmentBytes Cf F fp fb cm m).2)])), (ca, .inl (g.2.1, 4096, .inl ((f_X2_addFragmentBytes Cf F fp fb cm m).1))), (b, .inr (0, [.ref br, .int z])), (br, .inr (3, [.ref ba, .int m])), (ba, .inl (g.2.1, 4096, .inl F))] := by
  refine zMV_of (cc := cX2_addFragmentBytes) (nL := 1) (by decide) rfl (Nat.le_of_ble_eq_true rfl) ?_
  intro X C hret
  refine z_lv (lv' := [(0, .ref e)]) [0] rfl ?_
  refine z_aload_n C dX2_addFragmentBytes_0 rfl 0 rfl ?_
  refine z_get (ci := 2) (v := .ref c) (Cn := RX2) (T := TX2) (N := 10) C dX2_addFragmentBytes_1 (fun w h => List.mem_cons_of_mem _ (List.mem_append_left _ (List.mem_append_left _ (List.mem_append_right _ h)))) 0 rfl rfl 2 (by decide) (List.mem_of_getElem? (i := 1) rfl) rfl rfl ?_
  refine z_aload_n C dX2_addFragmentBytes_4 rfl 0 rfl ?_
  refine z_get (ci := 2) (v := .ref b) (Cn := RX2) (T := TX2) (N := 10) C dX2_addFragmentBytes_5 (fun w h => List.mem_cons_of_mem _ (List.mem_append_left _ (List.mem_append_left _ (List.mem_append_right _ h)))) 0 rfl rfl 0 (by decide) (List.mem_of_getElem? (i := 2) rfl) rfl rfl ?_
  refine z_callVr (n := 0) (isC := [6, 7, 8]) (isR := [0, 1, 2, 3, 4, 5]) (isP := [0, 1, 2, 3, 4, 5, 6, 7, 8]) (As := []) (rest := [.ref c]) (wr := [(e, .inr (2, [.ref b, .ref d, .ref c, .int rp, .int hf, .int pl, .int bg, .int lo, .int fp, .int fb])), (d, .inr (1, [.ref dw, .ref dy, .int dm, .int da])), (dw, .inl (g.2.2.1, 100, .inl Wf)), (dy, .inl (g.2.2.1, 100, .inl Yf)), (c, .inr (3, [.ref ca, .int cm])), (ca, .inl (g.2.1, 4096, .inl Cf))]) (ws2 := [(e, .inr (2, [.ref b, .ref d, .ref c, .int rp, .int hf, .int pl, .int bg, .int lo, .int fp, .int fb])), (d, .inr (1, [.ref dw, .ref dy, .int dm, .int da])), (dw, .inl (g.2.2.1, 100, .inl Wf)), (dy, .inl (g.2.2.1, 100, .inl Yf)), (c, .inr (3, [.ref ca, .int cm])), (ca, .inl (g.2.1, 4096, .inl Cf)), (b, .inr (0, [.ref br, .int z])), (br, .inr (3, [.ref ba, .int m])), (ba, .inl (g.2.1, 4096, .inl F))]) C dX2_addFragmentBytes_8 (c_X0_bytes (zl X) g b br ba F z m) gX2_addFragmentBytes_X0_bytes rfl ⟨rfl, rfl⟩ (by decide +kernel) (by decide) (by decide) rfl rfl rfl rfl (Nat.le_of_ble_eq_true rfl) rfl rfl ⟨rfl, rfl, rfl⟩ (by decide) rfl ?_
  refine z_aload_n C dX2_addFragmentBytes_11 rfl 0 rfl ?_
  refine z_get (ci := 2) (v := .int fp) (Cn := RX2) (T := TX2) (N := 10) C dX2_addFragmentBytes_12 (fun w h => List.mem_cons_of_mem _ (List.mem_append_left _ (List.mem_append_left _ (List.mem_append_right _ h)))) 0 rfl rfl 8 (by decide) (List.mem_of_getElem? (i := 3) rfl) rfl rfl ?_
  refine z_bipush (v := 7) C dX2_addFragmentBytes_15 (by decide) ?_
  refine z_iadd C dX2_addFragmentBytes_17 ?_
  refine z_aload_n C dX2_addFragmentBytes_18 rfl 0 rfl ?_
  refine z_get (ci := 2) (v := .int fb) (Cn := RX2) (T := TX2) (N := 10) C dX2_addFragmentBytes_19 (fun w h => List.mem_cons_of_mem _ (List.mem_append_left _ (List.mem_append_left _ (List.mem_append_right _ h)))) 0 rfl rfl 9 (by decide) (List.mem_of_getElem? (i := 4) rfl) rfl rfl ?_
  refine z_callVv (n := 3) (isC := [4, 5, 7, 8]) (isR := [0, 1, 2, 3, 6]) (isP := [0, 1, 2, 3, 5, 6, 4, 7, 8]) (As := [.ref br, .int (fp + 7), .int fb]) (rest := []) (wr := [(e, .inr (2, [.ref b, .ref d, .ref c, .int rp, .int hf, .int pl, .int bg, .int lo, .int fp, .int fb])), (d, .inr (1, [.ref dw, .ref dy, .int dm, .int da])), (dw, .inl (g.2.2.1, 100, .inl Wf)), (dy, .inl (g.2.2.1, 100, .inl Yf)), (b, .inr (0, [.ref br, .int z]))]) (ws2 := [(e, .inr (2, [.ref b, .ref d, .ref c, .int rp, .int hf, .int pl, .int bg, .int lo, .int fp, .int fb])), (d, .inr (1, [.ref dw, .ref dy, .int dm, .int da])), (dw, .inl (g.2.2.1, 100, .inl Wf)), (dy, .inl (g.2.2.1, 100, .inl Yf)), (c, .inr (3, [.ref ca, .int ((f_X3_addPart 4096 Cf F cm m (fp + 7) fb).2)])), (ca, .inl (g.2.1, 4096, .inl ((f_X3_addPart 4096 Cf F cm m (fp + 7) fb).1))), (b, .inr (0, [.ref br, .int z])), (br, .inr (3, [.ref ba, .int m])), (ba, .inl (g.2.1, 4096, .inl F))]) C dX2_addFragmentBytes_22 (c_X3_addPart (zl X) g c ca br ba 4096 4096 Cf F cm m (fp + 7) fb hc hm) gX2_addFragmentBytes_X3_addPart rfl ⟨rfl, rfl⟩ (by decide +kernel) (by decide) (by decide) rfl rfl rfl rfl (Nat.le_of_ble_eq_true rfl) rfl rfl ⟨rfl, rfl, rfl⟩ (by decide) rfl ?_
  generalize hT2 : (f_X3_addPart 4096 Cf F cm m (fp + 7) fb) = T2
  obtain ⟨Fq2, mq2⟩ := T2
  have k2_m : zok 4096 mq2 := zok_X3_addPart hc hm hT2
  have he : (f_X2_addFragmentBytes Cf F fp fb cm m) = (Fq2, mq2) := by simp only [f_X2_addFragmentBytes, hT2]
  exact hret _ _ _ dX2_addFragmentBytes_25 (by first | rw [he] | rfl)
def f_X2_goOnWithRecord (Wf : Nat → Int32) (Yf : Nat → Int32) (Cf : Nat → Int32) (F : Nat → Int32) (hf : Int32) (fp : Int32) (fb : Int32) (dm : Int32) (da : Int32) (cm : Int32) (m : Int32) : Int32 × (Nat → Int32) × (Nat → Int32) × (Nat → Int32) × Int32 × Int32 × Int32 :=
  if hf = 0 then
    match (f_X1_tell Wf Yf dm da 5 fb) with
    | (Wfq3, Yfq3, dmq3, daq3) =>
      (0, Wfq3, Yfq3, Cf, dmq3, daq3, cm)
  else
    match (f_X2_addFragmentBytes Cf F fp fb cm m) with
    | (Cfq2, cmq2) =>
      (1, Wf, Yf, Cfq2, dm, da, cmq2)
theorem zbool_X2_goOnWithRecord (Wf Yf C F : Nat → Int32) (hf fp fb dm da cm m : Int32) : narrow .boolean (.int (f_X2_goOnWithRecord Wf Yf C F hf fp fb dm da cm m).1) = .int (f_X2_goOnWithRecord Wf Yf C F hf fp fb dm da cm m).1 := by
  unfold f_X2_goOnWithRecord
  repeat' split
  all_goals ((try dsimp only); rfl)
theorem zok_X2_goOnWithRecord {Wf Yf C F W1 Y1 C1 : Nat → Int32} {hf fp fb dm da cm m r d1 a1 c1 : Int32} (_ : zdok 1 dm) (hc : zok 4096 cm) (hm : zok 4096 m) (e : f_X2_goOnWithRecord Wf Yf C F hf fp fb dm da cm m = (r, W1, Y1, C1, d1, a1, c1)) : zok 4096 c1 := by
  unfold f_X2_goOnWithRecord at e
  split at e
  · split at e
    cases e
    exact hc
  · split at e
    next e1 =>
    cases e
    exact zok_X2_addFragmentBytes hc hm e1
theorem zdok_X2_goOnWithRecord {k : Nat} {Wf Yf C F W1 Y1 C1 : Nat → Int32} {hf fp fb dm da cm m r d1 a1 c1 : Int32} (h : zdok (k + 1) dm) (e : f_X2_goOnWithRecord Wf Yf C F hf fp fb dm da cm m = (r, W1, Y1, C1, d1, a1, c1)) : zdok k d1 := by
  unfold f_X2_goOnWithRecord at e
  split at e
  · split at e
    next e1 =>
    cases e
    exact zdok_X1_tell h e1
  · split at e
    cases e
    exact zdok_le h (by omega)
set_option maxHeartbeats 4000000 in
set_option maxRecDepth 100000 in
theorem c_X2_goOnWithRecord (l : Launch) (g : zG) (e b d c dw dy ca br ba : Nat) (Wf : Nat → Int32) (Yf : Nat → Int32) (Cf : Nat → Int32) (F : Nat → Int32) (rp : Int32) (hf : Int32) (pl : Int32) (bg : Int32) (lo : Int32) (fp : Int32) (fb : Int32) (dm : Int32) (da : Int32) (cm : Int32) (z : Int32) (m : Int32) (hd : zdok 1 dm) (hc : zok 4096 cm) (hm : zok 4096 m) : zMI l yX2_goOnWithRecord wsX2_goOnWithRecord ({ frames := 3, cells := 0, slots := 0, locals := 65 }) g [.ref e] [(e, .inr (2, [.ref b, .ref d, .ref c, .int rp, .int hf, .int pl, .int bg, .int lo, .int fp, .int fb])), (d, .inr (1, [.ref dw, .ref dy, .int dm, .int da])), (dw, .inl (g.2.2.1, 100, .inl Wf)), (dy, .inl (g.2.2.1, 100, .inl Yf)), (c, .inr (3, [.ref ca, .int cm])), (ca, .inl (g.2.1, 4096, .inl Cf)), (b, .inr (0, [.ref br, .int z])), (br, .inr (3, [.ref ba, .int m])), (ba, .inl (g.2.1, 4096, .inl F))] ((f_X2_goOnWithRecord Wf Yf Cf F hf fp fb dm da cm m).1) [(e, .inr (2, [.ref b, .ref d, .ref c, .int rp, .int hf, .int pl, .int bg, .int lo, .int fp, .int fb])), (d, .inr (1, [.ref dw, .ref dy, .int ((f_X2_goOnWithRecord Wf Yf Cf F hf fp fb dm da cm m).2.2.2.2.1), .int ((f_X2_goOnWithRecord Wf Yf Cf F hf fp fb dm da cm m).2.2.2.2.2.1)])), (dw, .inl (g.2.2.1, 100, .inl ((f_X2_goOnWithRecord Wf Yf Cf F hf fp fb dm da cm m).2.1))), (dy, .inl (g.2.2.1, 100, .inl ((f_X2_goOnWithRecord Wf Yf Cf F hf fp fb dm da cm m).2.2.1))), (c, .inr (3, [.ref ca, .int ((f_X2_goOnWithRecord Wf Yf Cf F hf fp fb dm da cm m).2.2.2.2.2.2)])), (ca, .inl (g.2.1, 4096, .inl ((f_X2_goOnWithRecord Wf Yf Cf F hf fp fb dm da cm m).2.2.2.1))), (b, .inr (0, [.ref br, .int z])), (br, .inr (3, [.ref ba, .int m])), (ba, .inl (g.2.1, 4096, .inl F))] := by
  refine zMI_of (cc := cX2_goOnWithRecord) (nL := 1) (ty := .boolean) (by decide) rfl (Nat.le_of_ble_eq_true rfl) (zbool_X2_goOnWithRecord _ _ _ _ _ _ _ _ _ _ _) ?_
  intro X C hret
  refine z_lv (lv' := [(0, .ref e)]) [0] rfl ?_
  refine z_aload_n C dX2_goOnWithRecord_0 rfl 0 rfl ?_
  refine z_get (ci := 2) (v := .int hf) (Cn := RX2) (T := TX2) (N := 10) C dX2_goOnWithRecord_1 (fun w h => List.mem_cons_of_mem _ (List.mem_append_left _ (List.mem_append_left _ (List.mem_append_left _ (List.mem_append_right _ h))))) 0 rfl rfl 4 (by decide) (List.mem_of_getElem? (i := 1) rfl) rfl rfl ?_
  refine z_if_ne (tgt := 21) C dX2_goOnWithRecord_4 (by decide) (fun c_1 => ?_) (fun c_1 => ?_)
  · skip
    refine z_aload_n C dX2_goOnWithRecord_21 rfl 0 rfl ?_
    refine z_callVv (n := 0) (isC := [0, 1, 2, 3, 4, 5, 6, 7, 8]) (isR := []) (isP := [0, 1, 2, 3, 4, 5, 6, 7, 8]) (As := []) (rest := []) (wr := []) (ws2 := [(e, .inr (2, [.ref b, .ref d, .ref c, .int rp, .int hf, .int pl, .int bg, .int lo, .int fp, .int fb])), (d, .inr (1, [.ref dw, .ref dy, .int dm, .int da])), (dw, .inl (g.2.2.1, 100, .inl Wf)), (dy, .inl (g.2.2.1, 100, .inl Yf)), (c, .inr (3, [.ref ca, .int ((f_X2_addFragmentBytes Cf F fp fb cm m).2)])), (ca, .inl (g.2.1, 4096, .inl ((f_X2_addFragmentBytes Cf F fp fb cm m).1))), (b, .inr (0, [.ref br, .int z])), (br, .inr (3, [.ref ba, .int m])), (ba, .inl (g.2.1, 4096, .inl F))]) C dX2_goOnWithRecord_22 (c_X2_addFragmentBytes (zl X) g e b d c dw dy ca br ba Wf Yf Cf F rp hf pl bg lo fp fb dm da cm z m hc hm) gX2_goOnWithRecord_X2_addFragmentBytes rfl ⟨rfl, rfl⟩ (by decide +kernel) (by decide) (by decide) rfl rfl rfl rfl (Nat.le_of_ble_eq_true rfl) rfl rfl ⟨rfl, rfl, rfl⟩ (by decide) rfl ?_
    generalize hT2 : (f_X2_addFragmentBytes Cf F fp fb cm m) = T2
    obtain ⟨Cfq2, cmq2⟩ := T2
    have k2_cm : zok 4096 cmq2 := zok_X2_addFragmentBytes hc hm hT2
    refine z_iconst (v := 1) C dX2_goOnWithRecord_25 (by decide) ?_
    have he : (f_X2_goOnWithRecord Wf Yf Cf F hf fp fb dm da cm m) = (1, Wf, Yf, Cfq2, dm, da, cmq2) := by simp only [f_X2_goOnWithRecord, if_neg c_1, hT2]
    exact hret _ _ _ _ dX2_goOnWithRecord_26 (by first | rw [he] | rfl) (by first | rw [he] | rfl)
  · skip
    refine z_aload_n C dX2_goOnWithRecord_7 rfl 0 rfl ?_
    refine z_get (ci := 2) (v := .ref d) (Cn := RX2) (T := TX2) (N := 10) C dX2_goOnWithRecord_8 (fun w h => List.mem_cons_of_mem _ (List.mem_append_left _ (List.mem_append_left _ (List.mem_append_left _ (List.mem_append_right _ h))))) 0 rfl rfl 1 (by decide) (List.mem_of_getElem? (i := 2) rfl) rfl rfl ?_
    refine z_iconst (v := 5) C dX2_goOnWithRecord_11 (by decide) ?_
    refine z_aload_n C dX2_goOnWithRecord_12 rfl 0 rfl ?_
    refine z_get (ci := 2) (v := .int fb) (Cn := RX2) (T := TX2) (N := 10) C dX2_goOnWithRecord_13 (fun w h => List.mem_cons_of_mem _ (List.mem_append_left _ (List.mem_append_left _ (List.mem_append_left _ (List.mem_append_right _ h))))) 0 rfl rfl 9 (by decide) (List.mem_of_getElem? (i := 3) rfl) rfl rfl ?_
    refine z_callVv (n := 2) (isC := [1, 2, 3]) (isR := [0, 4, 5, 6, 7, 8]) (isP := [0, 6, 7, 8, 1, 2, 3, 4, 5]) (As := [.int 5, .int fb]) (rest := []) (wr := [(e, .inr (2, [.ref b, .ref d, .ref c, .int rp, .int hf, .int pl, .int bg, .int lo, .int fp, .int fb])), (c, .inr (3, [.ref ca, .int cm])), (ca, .inl (g.2.1, 4096, .inl Cf)), (b, .inr (0, [.ref br, .int z])), (br, .inr (3, [.ref ba, .int m])), (ba, .inl (g.2.1, 4096, .inl F))]) (ws2 := [(e, .inr (2, [.ref b, .ref d, .ref c, .int rp, .int hf, .int pl, .int bg, .int lo, .int fp, .int fb])), (d, .inr (1, [.ref dw, .ref dy, .int ((f_X1_tell Wf Yf dm da 5 fb).2.2.1), .int ((f_X1_tell Wf Yf dm da 5 fb).2.2.2)])), (dw, .inl (g.2.2.1, 100, .inl ((f_X1_tell Wf Yf dm da 5 fb).1))), (dy, .inl (g.2.2.1, 100, .inl ((f_X1_tell Wf Yf dm da 5 fb).2.1))), (c, .inr (3, [.ref ca, .int cm])), (ca, .inl (g.2.1, 4096, .inl Cf)), (b, .inr (0, [.ref br, .int z])), (br, .inr (3, [.ref ba, .int m])), (ba, .inl (g.2.1, 4096, .inl F))]) C dX2_goOnWithRecord_16 (c_X1_tell (zl X) g d dw dy Wf Yf dm da 5 fb hd) gX2_goOnWithRecord_X1_tell rfl ⟨rfl, rfl⟩ (by decide +kernel) (by decide) (by decide) rfl rfl rfl rfl (Nat.le_of_ble_eq_true rfl) rfl rfl ⟨rfl, rfl, rfl⟩ (by decide) rfl ?_
    generalize hT3 : (f_X1_tell Wf Yf dm da 5 fb) = T3
    obtain ⟨Wfq3, Yfq3, dmq3, daq3⟩ := T3
    have k3_dm : zdok (0) dmq3 := zdok_X1_tell hd hT3
    refine z_iconst (v := 0) C dX2_goOnWithRecord_19 (by decide) ?_
    have he : (f_X2_goOnWithRecord Wf Yf Cf F hf fp fb dm da cm m) = (0, Wfq3, Yfq3, Cf, dmq3, daq3, cm) := by simp only [f_X2_goOnWithRecord, if_pos c_1, hT3]
    exact hret _ _ _ _ dX2_goOnWithRecord_20 (by first | rw [he] | rfl) (by first | rw [he] | rfl)
def f_X2_startRecord (Wf : Nat → Int32) (Yf : Nat → Int32) (Cf : Nat → Int32) (F : Nat → Int32) (fp : Int32) (fb : Int32) (dm : Int32) (da : Int32) (cm : Int32) (m : Int32) : (Nat → Int32) × (Nat → Int32) × (Nat → Int32) × Int32 × Int32 × Int32 × Int32 × Int32 :=
  if cm ≤ 0 then
    match (f_X2_dropRecord cm) with
    | (rpq3, hfq3, cmq3) =>
      match (f_X2_addFragmentBytes Cf F fp fb cmq3 m) with
      | (Cfq4, cmq4) =>
        (Wf, Yf, Cfq4, fp, 1, dm, da, cmq4)
  else
    match (f_X1_tell Wf Yf dm da 4 cm) with
    | (Wfq6, Yfq6, dmq6, daq6) =>
      match (f_X2_dropRecord cm) with
      | (rpq7, hfq7, cmq7) =>
        match (f_X2_addFragmentBytes Cf F fp fb cmq7 m) with
        | (Cfq8, cmq8) =>
          (Wfq6, Yfq6, Cfq8, fp, 1, dmq6, daq6, cmq8)
theorem zok_X2_startRecord {Wf Yf C F W1 Y1 C1 : Nat → Int32} {fp fb dm da cm m r1 h1 d1 a1 c1 : Int32} (_ : zdok 1 dm) (hc : zok 4096 cm) (hm : zok 4096 m) (e : f_X2_startRecord Wf Yf C F fp fb dm da cm m = (W1, Y1, C1, r1, h1, d1, a1, c1)) : zok 4096 c1 := by
  unfold f_X2_startRecord at e
  split at e
  · split at e
    next e2 =>
    split at e
    next e3 =>
    cases e
    exact zok_X2_addFragmentBytes (zok_X2_dropRecord hc e2) hm e3
  · split at e
    split at e
    next e2 =>
    split at e
    next e3 =>
    cases e
    exact zok_X2_addFragmentBytes (zok_X2_dropRecord hc e2) hm e3
theorem zdok_X2_startRecord {k : Nat} {Wf Yf C F W1 Y1 C1 : Nat → Int32} {fp fb dm da cm m r1 h1 d1 a1 c1 : Int32} (h : zdok (k + 1) dm) (e : f_X2_startRecord Wf Yf C F fp fb dm da cm m = (W1, Y1, C1, r1, h1, d1, a1, c1)) : zdok k d1 := by
  unfold f_X2_startRecord at e
  split at e
  · split at e
    split at e
    cases e
    exact zdok_le h (by omega)
  · split at e
    next e1 =>
    split at e
    split at e
    cases e
    exact zdok_X1_tell h e1
set_option maxHeartbeats 4000000 in
set_option maxRecDepth 100000 in
theorem c_X2_startRecord (l : Launch) (g : zG) (e b d c dw dy ca br ba : Nat) (Wf : Nat → Int32) (Yf : Nat → Int32) (Cf : Nat → Int32) (F : Nat → Int32) (rp : Int32) (hf : Int32) (pl : Int32) (bg : Int32) (lo : Int32) (fp : Int32) (fb : Int32) (dm : Int32) (da : Int32) (cm : Int32) (z : Int32) (m : Int32) (hd : zdok 1 dm) (hc : zok 4096 cm) (hm : zok 4096 m) : zMV l yX2_startRecord wsX2_startRecord ({ frames := 3, cells := 0, slots := 0, locals := 65 }) g [.ref e] [(e, .inr (2, [.ref b, .ref d, .ref c, .int rp, .int hf, .int pl, .int bg, .int lo, .int fp, .int fb])), (d, .inr (1, [.ref dw, .ref dy, .int dm, .int da])), (dw, .inl (g.2.2.1, 100, .inl Wf)), (dy, .inl (g.2.2.1, 100, .inl Yf)), (c, .inr (3, [.ref ca, .int cm])), (ca, .inl (g.2.1, 4096, .inl Cf)), (b, .inr (0, [.ref br, .int z])), (br, .inr (3, [.ref ba, .int m])), (ba, .inl (g.2.1, 4096, .inl F))] [(e, .inr (2, [.ref b, .ref d, .ref c, .int ((f_X2_startRecord Wf Yf Cf F fp fb dm da cm m).2.2.2.1), .int ((f_X2_startRecord Wf Yf Cf F fp fb dm da cm m).2.2.2.2.1), .int pl, .int bg, .int lo, .int fp, .int fb])), (d, .inr (1, [.ref dw, .ref dy, .int ((f_X2_startRecord Wf Yf Cf F fp fb dm da cm m).2.2.2.2.2.1), .int ((f_X2_startRecord Wf Yf Cf F fp fb dm da cm m).2.2.2.2.2.2.1)])), (dw, .inl (g.2.2.1, 100, .inl ((f_X2_startRecord Wf Yf Cf F fp fb dm da cm m).1))), (dy, .inl (g.2.2.1, 100, .inl ((f_X2_startRecord Wf Yf Cf F fp fb dm da cm m).2.1))), (c, .inr (3, [.ref ca, .int ((f_X2_startRecord Wf Yf Cf F fp fb dm da cm m).2.2.2.2.2.2.2)])), (ca, .inl (g.2.1, 4096, .inl ((f_X2_startRecord Wf Yf Cf F fp fb dm da cm m).2.2.1))), (b, .inr (0, [.ref br, .int z])), (br, .inr (3, [.ref ba, .int m])), (ba, .inl (g.2.1, 4096, .inl F))] := by
  refine zMV_of (cc := cX2_startRecord) (nL := 1) (by decide) rfl (Nat.le_of_ble_eq_true rfl) ?_
  intro X C hret
  refine z_lv (lv' := [(0, .ref e)]) [0] rfl ?_
  refine z_aload_n C dX2_startRecord_0 rfl 0 rfl ?_
  refine z_get (ci := 2) (v := .ref c) (Cn := RX2) (T := TX2) (N := 10) C dX2_startRecord_1 (fun w h => List.mem_cons_of_mem _ (List.mem_append_left _ (List.mem_append_left _ (List.mem_append_left _ (List.mem_append_right _ h))))) 0 rfl rfl 2 (by decide) (List.mem_of_getElem? (i := 1) rfl) rfl rfl ?_
  refine z_callVi (n := 0) (isC := [4, 5]) (isR := [0, 1, 2, 3, 6, 7, 8]) (isP := [0, 1, 2, 3, 7, 8, 4, 5, 6]) (As := []) (rest := []) (wr := [(e, .inr (2, [.ref b, .ref d, .ref c, .int rp, .int hf, .int pl, .int bg, .int lo, .int fp, .int fb])), (d, .inr (1, [.ref dw, .ref dy, .int dm, .int da])), (dw, .inl (g.2.2.1, 100, .inl Wf)), (dy, .inl (g.2.2.1, 100, .inl Yf)), (b, .inr (0, [.ref br, .int z])), (br, .inr (3, [.ref ba, .int m])), (ba, .inl (g.2.1, 4096, .inl F))]) (ws2 := [(e, .inr (2, [.ref b, .ref d, .ref c, .int rp, .int hf, .int pl, .int bg, .int lo, .int fp, .int fb])), (d, .inr (1, [.ref dw, .ref dy, .int dm, .int da])), (dw, .inl (g.2.2.1, 100, .inl Wf)), (dy, .inl (g.2.2.1, 100, .inl Yf)), (c, .inr (3, [.ref ca, .int cm])), (ca, .inl (g.2.1, 4096, .inl Cf)), (b, .inr (0, [.ref br, .int z])), (br, .inr (3, [.ref ba, .int m])), (ba, .inl (g.2.1, 4096, .inl F))]) C dX2_startRecord_4 (c_X3_many (zl X) g c ca 4096 Cf cm) gX2_startRecord_X3_many rfl ⟨rfl, rfl⟩ (by decide +kernel) (by decide) (by decide) rfl rfl rfl rfl (Nat.le_of_ble_eq_true rfl) rfl rfl ⟨rfl, rfl, rfl⟩ (by decide) rfl ?_
  refine z_if_le (tgt := 25) C dX2_startRecord_7 (by decide) (fun c_2 => ?_) (fun c_2 => ?_)
  · skip
    refine z_aload_n C dX2_startRecord_25 rfl 0 rfl ?_
    refine z_callVv (n := 0) (isC := [0, 1, 2, 3, 4, 5, 6, 7, 8]) (isR := []) (isP := [0, 1, 2, 3, 4, 5, 6, 7, 8]) (As := []) (rest := []) (wr := []) (ws2 := [(e, .inr (2, [.ref b, .ref d, .ref c, .int ((f_X2_dropRecord cm).1), .int ((f_X2_dropRecord cm).2.1), .int pl, .int bg, .int lo, .int fp, .int fb])), (d, .inr (1, [.ref dw, .ref dy, .int dm, .int da])), (dw, .inl (g.2.2.1, 100, .inl Wf)), (dy, .inl (g.2.2.1, 100, .inl Yf)), (c, .inr (3, [.ref ca, .int ((f_X2_dropRecord cm).2.2)])), (ca, .inl (g.2.1, 4096, .inl Cf)), (b, .inr (0, [.ref br, .int z])), (br, .inr (3, [.ref ba, .int m])), (ba, .inl (g.2.1, 4096, .inl F))]) C dX2_startRecord_26 (c_X2_dropRecord (zl X) g e b d c dw dy ca br ba Wf Yf Cf F rp hf pl bg lo fp fb dm da cm z m hc) gX2_startRecord_X2_dropRecord rfl ⟨rfl, rfl⟩ (by decide +kernel) (by decide) (by decide) rfl rfl rfl rfl (Nat.le_of_ble_eq_true rfl) rfl rfl ⟨rfl, rfl, rfl⟩ (by decide) rfl ?_
    generalize hT3 : (f_X2_dropRecord cm) = T3
    obtain ⟨rpq3, hfq3, cmq3⟩ := T3
    have k3_cm : zok 4096 cmq3 := zok_X2_dropRecord hc hT3
    refine z_aload_n C dX2_startRecord_29 rfl 0 rfl ?_
    refine z_aload_n C dX2_startRecord_30 rfl 0 rfl ?_
    refine z_get (ci := 2) (v := .int fp) (Cn := RX2) (T := TX2) (N := 10) C dX2_startRecord_31 (fun w h => List.mem_cons_of_mem _ (List.mem_append_left _ (List.mem_append_left _ (List.mem_append_left _ (List.mem_append_right _ h))))) 0 rfl rfl 8 (by decide) (List.mem_of_getElem? (i := 3) rfl) rfl rfl ?_
    refine z_put (ci := 2) (v := .int fp) (ty := .int) (Cn := RX2) (T := TX2) (N := 10) (ws' := [(e, .inr (2, [.ref b, .ref d, .ref c, .int fp, .int hfq3, .int pl, .int bg, .int lo, .int fp, .int fb])), (d, .inr (1, [.ref dw, .ref dy, .int dm, .int da])), (dw, .inl (g.2.2.1, 100, .inl Wf)), (dy, .inl (g.2.2.1, 100, .inl Yf)), (c, .inr (3, [.ref ca, .int cmq3])), (ca, .inl (g.2.1, 4096, .inl Cf)), (b, .inr (0, [.ref br, .int z])), (br, .inr (3, [.ref ba, .int m])), (ba, .inl (g.2.1, 4096, .inl F))]) C dX2_startRecord_34 (fun w h => List.mem_cons_of_mem _ (List.mem_append_left _ (List.mem_append_left _ (List.mem_append_left _ (List.mem_append_right _ h))))) tyX2 tyX2_ok nmX2 0 rfl rfl 3 (by decide) (List.mem_of_getElem? (i := 4) rfl) rfl rfl (by decide +kernel) rfl rfl (Nat.le_of_ble_eq_true rfl) rfl ?_
    refine z_aload_n C dX2_startRecord_37 rfl 0 rfl ?_
    refine z_iconst (v := 1) C dX2_startRecord_38 (by decide) ?_
    refine z_put (ci := 2) (v := .int 1) (ty := .boolean) (Cn := RX2) (T := TX2) (N := 10) (ws' := [(e, .inr (2, [.ref b, .ref d, .ref c, .int fp, .int 1, .int pl, .int bg, .int lo, .int fp, .int fb])), (d, .inr (1, [.ref dw, .ref dy, .int dm, .int da])), (dw, .inl (g.2.2.1, 100, .inl Wf)), (dy, .inl (g.2.2.1, 100, .inl Yf)), (c, .inr (3, [.ref ca, .int cmq3])), (ca, .inl (g.2.1, 4096, .inl Cf)), (b, .inr (0, [.ref br, .int z])), (br, .inr (3, [.ref ba, .int m])), (ba, .inl (g.2.1, 4096, .inl F))]) C dX2_startRecord_39 (fun w h => List.mem_cons_of_mem _ (List.mem_append_left _ (List.mem_append_left _ (List.mem_append_left _ (List.mem_append_right _ h))))) tyX2 tyX2_ok nmX2 0 rfl rfl 4 (by decide) (List.mem_of_getElem? (i := 5) rfl) rfl rfl (by decide +kernel) rfl rfl (Nat.le_of_ble_eq_true rfl) rfl ?_
    refine z_aload_n C dX2_startRecord_42 rfl 0 rfl ?_
    refine z_callVv (n := 0) (isC := [0, 1, 2, 3, 4, 5, 6, 7, 8]) (isR := []) (isP := [0, 1, 2, 3, 4, 5, 6, 7, 8]) (As := []) (rest := []) (wr := []) (ws2 := [(e, .inr (2, [.ref b, .ref d, .ref c, .int fp, .int 1, .int pl, .int bg, .int lo, .int fp, .int fb])), (d, .inr (1, [.ref dw, .ref dy, .int dm, .int da])), (dw, .inl (g.2.2.1, 100, .inl Wf)), (dy, .inl (g.2.2.1, 100, .inl Yf)), (c, .inr (3, [.ref ca, .int ((f_X2_addFragmentBytes Cf F fp fb cmq3 m).2)])), (ca, .inl (g.2.1, 4096, .inl ((f_X2_addFragmentBytes Cf F fp fb cmq3 m).1))), (b, .inr (0, [.ref br, .int z])), (br, .inr (3, [.ref ba, .int m])), (ba, .inl (g.2.1, 4096, .inl F))]) C dX2_startRecord_43 (c_X2_addFragmentBytes (zl X) g e b d c dw dy ca br ba Wf Yf Cf F fp 1 pl bg lo fp fb dm da cmq3 z m k3_cm hm) gX2_startRecord_X2_addFragmentBytes rfl ⟨rfl, rfl⟩ (by decide +kernel) (by decide) (by decide) rfl rfl rfl rfl (Nat.le_of_ble_eq_true rfl) rfl rfl ⟨rfl, rfl, rfl⟩ (by decide) rfl ?_
    generalize hT4 : (f_X2_addFragmentBytes Cf F fp fb cmq3 m) = T4
    obtain ⟨Cfq4, cmq4⟩ := T4
    have k4_cm : zok 4096 cmq4 := zok_X2_addFragmentBytes k3_cm hm hT4
    have he : (f_X2_startRecord Wf Yf Cf F fp fb dm da cm m) = (Wf, Yf, Cfq4, fp, 1, dm, da, cmq4) := by simp only [f_X2_startRecord, if_pos c_2, hT3, hT4]
    exact hret _ _ _ dX2_startRecord_46 (by first | rw [he] | rfl)
  · skip
    refine z_aload_n C dX2_startRecord_10 rfl 0 rfl ?_
    refine z_get (ci := 2) (v := .ref d) (Cn := RX2) (T := TX2) (N := 10) C dX2_startRecord_11 (fun w h => List.mem_cons_of_mem _ (List.mem_append_left _ (List.mem_append_left _ (List.mem_append_left _ (List.mem_append_right _ h))))) 0 rfl rfl 1 (by decide) (List.mem_of_getElem? (i := 2) rfl) rfl rfl ?_
    refine z_iconst (v := 4) C dX2_startRecord_14 (by decide) ?_
    refine z_aload_n C dX2_startRecord_15 rfl 0 rfl ?_
    refine z_get (ci := 2) (v := .ref c) (Cn := RX2) (T := TX2) (N := 10) C dX2_startRecord_16 (fun w h => List.mem_cons_of_mem _ (List.mem_append_left _ (List.mem_append_left _ (List.mem_append_left _ (List.mem_append_right _ h))))) 0 rfl rfl 2 (by decide) (List.mem_of_getElem? (i := 1) rfl) rfl rfl ?_
    refine z_callVi (n := 0) (isC := [4, 5]) (isR := [0, 1, 2, 3, 6, 7, 8]) (isP := [0, 1, 2, 3, 7, 8, 4, 5, 6]) (As := []) (rest := [.int 4, .ref d]) (wr := [(e, .inr (2, [.ref b, .ref d, .ref c, .int rp, .int hf, .int pl, .int bg, .int lo, .int fp, .int fb])), (d, .inr (1, [.ref dw, .ref dy, .int dm, .int da])), (dw, .inl (g.2.2.1, 100, .inl Wf)), (dy, .inl (g.2.2.1, 100, .inl Yf)), (b, .inr (0, [.ref br, .int z])), (br, .inr (3, [.ref ba, .int m])), (ba, .inl (g.2.1, 4096, .inl F))]) (ws2 := [(e, .inr (2, [.ref b, .ref d, .ref c, .int rp, .int hf, .int pl, .int bg, .int lo, .int fp, .int fb])), (d, .inr (1, [.ref dw, .ref dy, .int dm, .int da])), (dw, .inl (g.2.2.1, 100, .inl Wf)), (dy, .inl (g.2.2.1, 100, .inl Yf)), (c, .inr (3, [.ref ca, .int cm])), (ca, .inl (g.2.1, 4096, .inl Cf)), (b, .inr (0, [.ref br, .int z])), (br, .inr (3, [.ref ba, .int m])), (ba, .inl (g.2.1, 4096, .inl F))]) C dX2_startRecord_19 (c_X3_many (zl X) g c ca 4096 Cf cm) gX2_startRecord_X3_many rfl ⟨rfl, rfl⟩ (by decide +kernel) (by decide) (by decide) rfl rfl rfl rfl (Nat.le_of_ble_eq_true rfl) rfl rfl ⟨rfl, rfl, rfl⟩ (by decide) rfl ?_
    refine z_callVv (n := 2) (isC := [1, 2, 3]) (isR := [0, 4, 5, 6, 7, 8]) (isP := [0, 6, 7, 8, 1, 2, 3, 4, 5]) (As := [.int 4, .int cm]) (rest := []) (wr := [(e, .inr (2, [.ref b, .ref d, .ref c, .int rp, .int hf, .int pl, .int bg, .int lo, .int fp, .int fb])), (c, .inr (3, [.ref ca, .int cm])), (ca, .inl (g.2.1, 4096, .inl Cf)), (b, .inr (0, [.ref br, .int z])), (br, .inr (3, [.ref ba, .int m])), (ba, .inl (g.2.1, 4096, .inl F))]) (ws2 := [(e, .inr (2, [.ref b, .ref d, .ref c, .int rp, .int hf, .int pl, .int bg, .int lo, .int fp, .int fb])), (d, .inr (1, [.ref dw, .ref dy, .int ((f_X1_tell Wf Yf dm da 4 cm).2.2.1), .int ((f_X1_tell Wf Yf dm da 4 cm).2.2.2)])), (dw, .inl (g.2.2.1, 100, .inl ((f_X1_tell Wf Yf dm da 4 cm).1))), (dy, .inl (g.2.2.1, 100, .inl ((f_X1_tell Wf Yf dm da 4 cm).2.1))), (c, .inr (3, [.ref ca, .int cm])), (ca, .inl (g.2.1, 4096, .inl Cf)), (b, .inr (0, [.ref br, .int z])), (br, .inr (3, [.ref ba, .int m])), (ba, .inl (g.2.1, 4096, .inl F))]) C dX2_startRecord_22 (c_X1_tell (zl X) g d dw dy Wf Yf dm da 4 cm hd) gX2_startRecord_X1_tell rfl ⟨rfl, rfl⟩ (by decide +kernel) (by decide) (by decide) rfl rfl rfl rfl (Nat.le_of_ble_eq_true rfl) rfl rfl ⟨rfl, rfl, rfl⟩ (by decide) rfl ?_
    generalize hT6 : (f_X1_tell Wf Yf dm da 4 cm) = T6
    obtain ⟨Wfq6, Yfq6, dmq6, daq6⟩ := T6
    have k6_dm : zdok (0) dmq6 := zdok_X1_tell hd hT6
    refine z_aload_n C dX2_startRecord_25 rfl 0 rfl ?_
    refine z_callVv (n := 0) (isC := [0, 1, 2, 3, 4, 5, 6, 7, 8]) (isR := []) (isP := [0, 1, 2, 3, 4, 5, 6, 7, 8]) (As := []) (rest := []) (wr := []) (ws2 := [(e, .inr (2, [.ref b, .ref d, .ref c, .int ((f_X2_dropRecord cm).1), .int ((f_X2_dropRecord cm).2.1), .int pl, .int bg, .int lo, .int fp, .int fb])), (d, .inr (1, [.ref dw, .ref dy, .int dmq6, .int daq6])), (dw, .inl (g.2.2.1, 100, .inl Wfq6)), (dy, .inl (g.2.2.1, 100, .inl Yfq6)), (c, .inr (3, [.ref ca, .int ((f_X2_dropRecord cm).2.2)])), (ca, .inl (g.2.1, 4096, .inl Cf)), (b, .inr (0, [.ref br, .int z])), (br, .inr (3, [.ref ba, .int m])), (ba, .inl (g.2.1, 4096, .inl F))]) C dX2_startRecord_26 (c_X2_dropRecord (zl X) g e b d c dw dy ca br ba Wfq6 Yfq6 Cf F rp hf pl bg lo fp fb dmq6 daq6 cm z m hc) gX2_startRecord_X2_dropRecord rfl ⟨rfl, rfl⟩ (by decide +kernel) (by decide) (by decide) rfl rfl rfl rfl (Nat.le_of_ble_eq_true rfl) rfl rfl ⟨rfl, rfl, rfl⟩ (by decide) rfl ?_
    generalize hT7 : (f_X2_dropRecord cm) = T7
    obtain ⟨rpq7, hfq7, cmq7⟩ := T7
    have k7_cm : zok 4096 cmq7 := zok_X2_dropRecord hc hT7
    refine z_aload_n C dX2_startRecord_29 rfl 0 rfl ?_
    refine z_aload_n C dX2_startRecord_30 rfl 0 rfl ?_
    refine z_get (ci := 2) (v := .int fp) (Cn := RX2) (T := TX2) (N := 10) C dX2_startRecord_31 (fun w h => List.mem_cons_of_mem _ (List.mem_append_left _ (List.mem_append_left _ (List.mem_append_left _ (List.mem_append_right _ h))))) 0 rfl rfl 8 (by decide) (List.mem_of_getElem? (i := 3) rfl) rfl rfl ?_
    refine z_put (ci := 2) (v := .int fp) (ty := .int) (Cn := RX2) (T := TX2) (N := 10) (ws' := [(e, .inr (2, [.ref b, .ref d, .ref c, .int fp, .int hfq7, .int pl, .int bg, .int lo, .int fp, .int fb])), (d, .inr (1, [.ref dw, .ref dy, .int dmq6, .int daq6])), (dw, .inl (g.2.2.1, 100, .inl Wfq6)), (dy, .inl (g.2.2.1, 100, .inl Yfq6)), (c, .inr (3, [.ref ca, .int cmq7])), (ca, .inl (g.2.1, 4096, .inl Cf)), (b, .inr (0, [.ref br, .int z])), (br, .inr (3, [.ref ba, .int m])), (ba, .inl (g.2.1, 4096, .inl F))]) C dX2_startRecord_34 (fun w h => List.mem_cons_of_mem _ (List.mem_append_left _ (List.mem_append_left _ (List.mem_append_left _ (List.mem_append_right _ h))))) tyX2 tyX2_ok nmX2 0 rfl rfl 3 (by decide) (List.mem_of_getElem? (i := 4) rfl) rfl rfl (by decide +kernel) rfl rfl (Nat.le_of_ble_eq_true rfl) rfl ?_
    refine z_aload_n C dX2_startRecord_37 rfl 0 rfl ?_
    refine z_iconst (v := 1) C dX2_startRecord_38 (by decide) ?_
    refine z_put (ci := 2) (v := .int 1) (ty := .boolean) (Cn := RX2) (T := TX2) (N := 10) (ws' := [(e, .inr (2, [.ref b, .ref d, .ref c, .int fp, .int 1, .int pl, .int bg, .int lo, .int fp, .int fb])), (d, .inr (1, [.ref dw, .ref dy, .int dmq6, .int daq6])), (dw, .inl (g.2.2.1, 100, .inl Wfq6)), (dy, .inl (g.2.2.1, 100, .inl Yfq6)), (c, .inr (3, [.ref ca, .int cmq7])), (ca, .inl (g.2.1, 4096, .inl Cf)), (b, .inr (0, [.ref br, .int z])), (br, .inr (3, [.ref ba, .int m])), (ba, .inl (g.2.1, 4096, .inl F))]) C dX2_startRecord_39 (fun w h => List.mem_cons_of_mem _ (List.mem_append_left _ (List.mem_append_left _ (List.mem_append_left _ (List.mem_append_right _ h))))) tyX2 tyX2_ok nmX2 0 rfl rfl 4 (by decide) (List.mem_of_getElem? (i := 5) rfl) rfl rfl (by decide +kernel) rfl rfl (Nat.le_of_ble_eq_true rfl) rfl ?_
    refine z_aload_n C dX2_startRecord_42 rfl 0 rfl ?_
    refine z_callVv (n := 0) (isC := [0, 1, 2, 3, 4, 5, 6, 7, 8]) (isR := []) (isP := [0, 1, 2, 3, 4, 5, 6, 7, 8]) (As := []) (rest := []) (wr := []) (ws2 := [(e, .inr (2, [.ref b, .ref d, .ref c, .int fp, .int 1, .int pl, .int bg, .int lo, .int fp, .int fb])), (d, .inr (1, [.ref dw, .ref dy, .int dmq6, .int daq6])), (dw, .inl (g.2.2.1, 100, .inl Wfq6)), (dy, .inl (g.2.2.1, 100, .inl Yfq6)), (c, .inr (3, [.ref ca, .int ((f_X2_addFragmentBytes Cf F fp fb cmq7 m).2)])), (ca, .inl (g.2.1, 4096, .inl ((f_X2_addFragmentBytes Cf F fp fb cmq7 m).1))), (b, .inr (0, [.ref br, .int z])), (br, .inr (3, [.ref ba, .int m])), (ba, .inl (g.2.1, 4096, .inl F))]) C dX2_startRecord_43 (c_X2_addFragmentBytes (zl X) g e b d c dw dy ca br ba Wfq6 Yfq6 Cf F fp 1 pl bg lo fp fb dmq6 daq6 cmq7 z m k7_cm hm) gX2_startRecord_X2_addFragmentBytes rfl ⟨rfl, rfl⟩ (by decide +kernel) (by decide) (by decide) rfl rfl rfl rfl (Nat.le_of_ble_eq_true rfl) rfl rfl ⟨rfl, rfl, rfl⟩ (by decide) rfl ?_
    generalize hT8 : (f_X2_addFragmentBytes Cf F fp fb cmq7 m) = T8
    obtain ⟨Cfq8, cmq8⟩ := T8
    have k8_cm : zok 4096 cmq8 := zok_X2_addFragmentBytes k7_cm hm hT8
    have he : (f_X2_startRecord Wf Yf Cf F fp fb dm da cm m) = (Wfq6, Yfq6, Cfq8, fp, 1, dmq6, daq6, cmq8) := by simp only [f_X2_startRecord, if_neg c_2, hT6, hT7, hT8]
    exact hret _ _ _ dX2_startRecord_46 (by first | rw [he] | rfl)
def f_X2_takeFragment (Wf : Nat → Int32) (Yf : Nat → Int32) (Cf : Nat → Int32) (F : Nat → Int32) (rp : Int32) (hf : Int32) (fp : Int32) (fb : Int32) (dm : Int32) (da : Int32) (cm : Int32) (m : Int32) (v : Int32) : Int32 × (Nat → Int32) × (Nat → Int32) × (Nat → Int32) × Int32 × Int32 × Int32 × Int32 × Int32 :=
  if v = 1 then
    match (f_X2_startRecord Wf Yf Cf F fp fb dm da cm m) with
    | (Wfq2, Yfq2, Cfq2, rpq2, hfq2, dmq2, daq2, cmq2) =>
      (1, Wfq2, Yfq2, Cfq2, rpq2, hfq2, dmq2, daq2, cmq2)
  else
    if v = 2 then
      match (f_X2_startRecord Wf Yf Cf F fp fb dm da cm m) with
      | (Wfq4, Yfq4, Cfq4, rpq4, hfq4, dmq4, daq4, cmq4) =>
        (0, Wfq4, Yfq4, Cfq4, rpq4, hfq4, dmq4, daq4, cmq4)
    else
      if v = 3 then
        match (f_X2_goOnWithRecord Wf Yf Cf F hf fp fb dm da cm m) with
        | (rq6, Wfq6, Yfq6, Cfq6, dmq6, daq6, cmq6) =>
          (0, Wfq6, Yfq6, Cfq6, rp, hf, dmq6, daq6, cmq6)
      else
        if v = 4 then
          match (f_X2_goOnWithRecord Wf Yf Cf F hf fp fb dm da cm m) with
          | (rq8, Wfq8, Yfq8, Cfq8, dmq8, daq8, cmq8) =>
            (rq8, Wfq8, Yfq8, Cfq8, rp, hf, dmq8, daq8, cmq8)
        else
          match (f_X1_tell Wf Yf dm da 6 (fb + cm)) with
          | (Wfq10, Yfq10, dmq10, daq10) =>
            match (f_X2_dropRecord cm) with
            | (rpq11, hfq11, cmq11) =>
              (0, Wfq10, Yfq10, Cf, rpq11, hfq11, dmq10, daq10, cmq11)
theorem zbool_X2_takeFragment (Wf Yf C F : Nat → Int32) (rp hf fp fb dm da cm m v : Int32) : narrow .boolean (.int (f_X2_takeFragment Wf Yf C F rp hf fp fb dm da cm m v).1) = .int (f_X2_takeFragment Wf Yf C F rp hf fp fb dm da cm m v).1 := by
  unfold f_X2_takeFragment
  repeat' split
  all_goals first | ((try dsimp only); rfl) | (next e => have h9 := zbool_X2_goOnWithRecord Wf Yf C F hf fp fb dm da cm m; rw [e] at h9; exact h9)
theorem zok_X2_takeFragment {Wf Yf C F W1 Y1 C1 : Nat → Int32} {rp hf fp fb dm da cm m v r rp1 h1 d1 a1 c1 : Int32} (hd : zdok 1 dm) (hc : zok 4096 cm) (hm : zok 4096 m) (e : f_X2_takeFragment Wf Yf C F rp hf fp fb dm da cm m v = (r, W1, Y1, C1, rp1, h1, d1, a1, c1)) : zok 4096 c1 := by
  unfold f_X2_takeFragment at e
  split at e
  · split at e
    next e1 => cases e; exact zok_X2_startRecord hd hc hm e1
  · split at e
    · split at e
      next e1 => cases e; exact zok_X2_startRecord hd hc hm e1
    · split at e
      · split at e
        next e1 => cases e; exact zok_X2_goOnWithRecord hd hc hm e1
      · split at e
        · split at e
          next e1 => cases e; exact zok_X2_goOnWithRecord hd hc hm e1
        · split at e
          split at e
          next e2 => cases e; exact zok_X2_dropRecord hc e2
theorem zdok_X2_takeFragment {k : Nat} {Wf Yf C F W1 Y1 C1 : Nat → Int32} {rp hf fp fb dm da cm m v r rp1 h1 d1 a1 c1 : Int32} (hd : zdok (k + 1) dm) (e : f_X2_takeFragment Wf Yf C F rp hf fp fb dm da cm m v = (r, W1, Y1, C1, rp1, h1, d1, a1, c1)) : zdok k d1 := by
  unfold f_X2_takeFragment at e
  split at e
  · split at e
    next e1 => cases e; exact zdok_X2_startRecord hd e1
  · split at e
    · split at e
      next e1 => cases e; exact zdok_X2_startRecord hd e1
    · split at e
      · split at e
        next e1 => cases e; exact zdok_X2_goOnWithRecord hd e1
      · split at e
        · split at e
          next e1 => cases e; exact zdok_X2_goOnWithRecord hd e1
        · split at e
          next e1 =>
          split at e
          cases e; exact zdok_X1_tell hd e1
set_option maxHeartbeats 4000000 in
set_option maxRecDepth 100000 in
theorem c_X2_takeFragment (l : Launch) (g : zG) (e b d c dw dy ca br ba : Nat) (Wf : Nat → Int32) (Yf : Nat → Int32) (Cf : Nat → Int32) (F : Nat → Int32) (rp : Int32) (hf : Int32) (pl : Int32) (bg : Int32) (lo : Int32) (fp : Int32) (fb : Int32) (dm : Int32) (da : Int32) (cm : Int32) (z : Int32) (m : Int32) (v : Int32) (hd : zdok 1 dm) (hc : zok 4096 cm) (hm : zok 4096 m) : zMI l yX2_takeFragment wsX2_takeFragment ({ frames := 4, cells := 0, slots := 0, locals := 85 }) g [.ref e, .int v] [(e, .inr (2, [.ref b, .ref d, .ref c, .int rp, .int hf, .int pl, .int bg, .int lo, .int fp, .int fb])), (d, .inr (1, [.ref dw, .ref dy, .int dm, .int da])), (dw, .inl (g.2.2.1, 100, .inl Wf)), (dy, .inl (g.2.2.1, 100, .inl Yf)), (c, .inr (3, [.ref ca, .int cm])), (ca, .inl (g.2.1, 4096, .inl Cf)), (b, .inr (0, [.ref br, .int z])), (br, .inr (3, [.ref ba, .int m])), (ba, .inl (g.2.1, 4096, .inl F))] ((f_X2_takeFragment Wf Yf Cf F rp hf fp fb dm da cm m v).1) [(e, .inr (2, [.ref b, .ref d, .ref c, .int ((f_X2_takeFragment Wf Yf Cf F rp hf fp fb dm da cm m v).2.2.2.2.1), .int ((f_X2_takeFragment Wf Yf Cf F rp hf fp fb dm da cm m v).2.2.2.2.2.1), .int pl, .int bg, .int lo, .int fp, .int fb])), (d, .inr (1, [.ref dw, .ref dy, .int ((f_X2_takeFragment Wf Yf Cf F rp hf fp fb dm da cm m v).2.2.2.2.2.2.1), .int ((f_X2_takeFragment Wf Yf Cf F rp hf fp fb dm da cm m v).2.2.2.2.2.2.2.1)])), (dw, .inl (g.2.2.1, 100, .inl ((f_X2_takeFragment Wf Yf Cf F rp hf fp fb dm da cm m v).2.1))), (dy, .inl (g.2.2.1, 100, .inl ((f_X2_takeFragment Wf Yf Cf F rp hf fp fb dm da cm m v).2.2.1))), (c, .inr (3, [.ref ca, .int ((f_X2_takeFragment Wf Yf Cf F rp hf fp fb dm da cm m v).2.2.2.2.2.2.2.2)])), (ca, .inl (g.2.1, 4096, .inl ((f_X2_takeFragment Wf Yf Cf F rp hf fp fb dm da cm m v).2.2.2.1))), (b, .inr (0, [.ref br, .int z])), (br, .inr (3, [.ref ba, .int m])), (ba, .inl (g.2.1, 4096, .inl F))] := by
  refine zMI_of (cc := cX2_takeFragment) (nL := 2) (ty := .boolean) (by decide) rfl (Nat.le_of_ble_eq_true rfl) (zbool_X2_takeFragment _ _ _ _ _ _ _ _ _ _ _ _ _) ?_
  intro X C hret
  refine z_lv (lv' := [(0, .ref e), (1, .int v)]) [0, 1] rfl ?_
  refine z_iload_n C dX2_takeFragment_0 rfl 1 rfl ?_
  by_cases c_1 : v = 1
  · refine z_tableIn (off := 31) (tgt := 32) C dX2_takeFragment_1 (by rw [c_1]; decide) (by rw [c_1]; decide) (by rw [c_1]; decide) (by decide) ?_
    refine z_aload_n C dX2_takeFragment_32 rfl 0 rfl ?_
    refine z_callVv (n := 0) (isC := [0, 1, 2, 3, 4, 5, 6, 7, 8]) (isR := []) (isP := [0, 1, 2, 3, 4, 5, 6, 7, 8]) (As := []) (rest := []) (wr := []) (ws2 := [(e, .inr (2, [.ref b, .ref d, .ref c, .int ((f_X2_startRecord Wf Yf Cf F fp fb dm da cm m).2.2.2.1), .int ((f_X2_startRecord Wf Yf Cf F fp fb dm da cm m).2.2.2.2.1), .int pl, .int bg, .int lo, .int fp, .int fb])), (d, .inr (1, [.ref dw, .ref dy, .int ((f_X2_startRecord Wf Yf Cf F fp fb dm da cm m).2.2.2.2.2.1), .int ((f_X2_startRecord Wf Yf Cf F fp fb dm da cm m).2.2.2.2.2.2.1)])), (dw, .inl (g.2.2.1, 100, .inl ((f_X2_startRecord Wf Yf Cf F fp fb dm da cm m).1))), (dy, .inl (g.2.2.1, 100, .inl ((f_X2_startRecord Wf Yf Cf F fp fb dm da cm m).2.1))), (c, .inr (3, [.ref ca, .int ((f_X2_startRecord Wf Yf Cf F fp fb dm da cm m).2.2.2.2.2.2.2)])), (ca, .inl (g.2.1, 4096, .inl ((f_X2_startRecord Wf Yf Cf F fp fb dm da cm m).2.2.1))), (b, .inr (0, [.ref br, .int z])), (br, .inr (3, [.ref ba, .int m])), (ba, .inl (g.2.1, 4096, .inl F))]) C dX2_takeFragment_33 (c_X2_startRecord (zl X) g e b d c dw dy ca br ba Wf Yf Cf F rp hf pl bg lo fp fb dm da cm z m hd hc hm) gX2_takeFragment_X2_startRecord rfl ⟨rfl, rfl⟩ (by decide +kernel) (by decide) (by decide) rfl rfl rfl rfl (Nat.le_of_ble_eq_true rfl) rfl rfl ⟨rfl, rfl, rfl⟩ (by decide) rfl ?_
    generalize hT2 : (f_X2_startRecord Wf Yf Cf F fp fb dm da cm m) = T2
    obtain ⟨Wfq2, Yfq2, Cfq2, rpq2, hfq2, dmq2, daq2, cmq2⟩ := T2
    have k2_cm : zok 4096 cmq2 := zok_X2_startRecord hd hc hm hT2
    have k2_dm : zdok (0) dmq2 := zdok_X2_startRecord hd hT2
    refine z_iconst (v := 1) C dX2_takeFragment_36 (by decide) ?_
    have he : (f_X2_takeFragment Wf Yf Cf F rp hf fp fb dm da cm m v) = (1, Wfq2, Yfq2, Cfq2, rpq2, hfq2, dmq2, daq2, cmq2) := by simp only [f_X2_takeFragment, if_pos c_1, hT2]
    exact hret _ _ _ _ dX2_takeFragment_37 (by first | rw [he] | rfl) (by first | rw [he] | rfl)
  · skip
    by_cases c_3 : v = 2
    · refine z_tableIn (off := 37) (tgt := 38) C dX2_takeFragment_1 (by rw [c_3]; decide) (by rw [c_3]; decide) (by rw [c_3]; decide) (by decide) ?_
      refine z_aload_n C dX2_takeFragment_38 rfl 0 rfl ?_
      refine z_callVv (n := 0) (isC := [0, 1, 2, 3, 4, 5, 6, 7, 8]) (isR := []) (isP := [0, 1, 2, 3, 4, 5, 6, 7, 8]) (As := []) (rest := []) (wr := []) (ws2 := [(e, .inr (2, [.ref b, .ref d, .ref c, .int ((f_X2_startRecord Wf Yf Cf F fp fb dm da cm m).2.2.2.1), .int ((f_X2_startRecord Wf Yf Cf F fp fb dm da cm m).2.2.2.2.1), .int pl, .int bg, .int lo, .int fp, .int fb])), (d, .inr (1, [.ref dw, .ref dy, .int ((f_X2_startRecord Wf Yf Cf F fp fb dm da cm m).2.2.2.2.2.1), .int ((f_X2_startRecord Wf Yf Cf F fp fb dm da cm m).2.2.2.2.2.2.1)])), (dw, .inl (g.2.2.1, 100, .inl ((f_X2_startRecord Wf Yf Cf F fp fb dm da cm m).1))), (dy, .inl (g.2.2.1, 100, .inl ((f_X2_startRecord Wf Yf Cf F fp fb dm da cm m).2.1))), (c, .inr (3, [.ref ca, .int ((f_X2_startRecord Wf Yf Cf F fp fb dm da cm m).2.2.2.2.2.2.2)])), (ca, .inl (g.2.1, 4096, .inl ((f_X2_startRecord Wf Yf Cf F fp fb dm da cm m).2.2.1))), (b, .inr (0, [.ref br, .int z])), (br, .inr (3, [.ref ba, .int m])), (ba, .inl (g.2.1, 4096, .inl F))]) C dX2_takeFragment_39 (c_X2_startRecord (zl X) g e b d c dw dy ca br ba Wf Yf Cf F rp hf pl bg lo fp fb dm da cm z m hd hc hm) gX2_takeFragment_X2_startRecord rfl ⟨rfl, rfl⟩ (by decide +kernel) (by decide) (by decide) rfl rfl rfl rfl (Nat.le_of_ble_eq_true rfl) rfl rfl ⟨rfl, rfl, rfl⟩ (by decide) rfl ?_
      generalize hT4 : (f_X2_startRecord Wf Yf Cf F fp fb dm da cm m) = T4
      obtain ⟨Wfq4, Yfq4, Cfq4, rpq4, hfq4, dmq4, daq4, cmq4⟩ := T4
      have k4_cm : zok 4096 cmq4 := zok_X2_startRecord hd hc hm hT4
      have k4_dm : zdok (0) dmq4 := zdok_X2_startRecord hd hT4
      refine z_iconst (v := 0) C dX2_takeFragment_42 (by decide) ?_
      have he : (f_X2_takeFragment Wf Yf Cf F rp hf fp fb dm da cm m v) = (0, Wfq4, Yfq4, Cfq4, rpq4, hfq4, dmq4, daq4, cmq4) := by simp only [f_X2_takeFragment, if_neg c_1, if_pos c_3, hT4]
      exact hret _ _ _ _ dX2_takeFragment_43 (by first | rw [he] | rfl) (by first | rw [he] | rfl)
    · skip
      by_cases c_5 : v = 3
      · refine z_tableIn (off := 43) (tgt := 44) C dX2_takeFragment_1 (by rw [c_5]; decide) (by rw [c_5]; decide) (by rw [c_5]; decide) (by decide) ?_
        refine z_aload_n C dX2_takeFragment_44 rfl 0 rfl ?_
        refine z_callVi (n := 0) (isC := [0, 1, 2, 3, 4, 5, 6, 7, 8]) (isR := []) (isP := [0, 1, 2, 3, 4, 5, 6, 7, 8]) (As := []) (rest := []) (wr := []) (ws2 := [(e, .inr (2, [.ref b, .ref d, .ref c, .int rp, .int hf, .int pl, .int bg, .int lo, .int fp, .int fb])), (d, .inr (1, [.ref dw, .ref dy, .int ((f_X2_goOnWithRecord Wf Yf Cf F hf fp fb dm da cm m).2.2.2.2.1), .int ((f_X2_goOnWithRecord Wf Yf Cf F hf fp fb dm da cm m).2.2.2.2.2.1)])), (dw, .inl (g.2.2.1, 100, .inl ((f_X2_goOnWithRecord Wf Yf Cf F hf fp fb dm da cm m).2.1))), (dy, .inl (g.2.2.1, 100, .inl ((f_X2_goOnWithRecord Wf Yf Cf F hf fp fb dm da cm m).2.2.1))), (c, .inr (3, [.ref ca, .int ((f_X2_goOnWithRecord Wf Yf Cf F hf fp fb dm da cm m).2.2.2.2.2.2)])), (ca, .inl (g.2.1, 4096, .inl ((f_X2_goOnWithRecord Wf Yf Cf F hf fp fb dm da cm m).2.2.2.1))), (b, .inr (0, [.ref br, .int z])), (br, .inr (3, [.ref ba, .int m])), (ba, .inl (g.2.1, 4096, .inl F))]) C dX2_takeFragment_45 (c_X2_goOnWithRecord (zl X) g e b d c dw dy ca br ba Wf Yf Cf F rp hf pl bg lo fp fb dm da cm z m hd hc hm) gX2_takeFragment_X2_goOnWithRecord rfl ⟨rfl, rfl⟩ (by decide +kernel) (by decide) (by decide) rfl rfl rfl rfl (Nat.le_of_ble_eq_true rfl) rfl rfl ⟨rfl, rfl, rfl⟩ (by decide) rfl ?_
        generalize hT6 : (f_X2_goOnWithRecord Wf Yf Cf F hf fp fb dm da cm m) = T6
        obtain ⟨rq6, Wfq6, Yfq6, Cfq6, dmq6, daq6, cmq6⟩ := T6
        have k6_cm : zok 4096 cmq6 := zok_X2_goOnWithRecord hd hc hm hT6
        have k6_dm : zdok (0) dmq6 := zdok_X2_goOnWithRecord hd hT6
        refine z_pop C dX2_takeFragment_48 rfl ?_
        refine z_iconst (v := 0) C dX2_takeFragment_49 (by decide) ?_
        have he : (f_X2_takeFragment Wf Yf Cf F rp hf fp fb dm da cm m v) = (0, Wfq6, Yfq6, Cfq6, rp, hf, dmq6, daq6, cmq6) := by simp only [f_X2_takeFragment, if_neg c_1, if_neg c_3, if_pos c_5, hT6]
        exact hret _ _ _ _ dX2_takeFragment_50 (by first | rw [he] | rfl) (by first | rw [he] | rfl)
      · skip
        by_cases c_7 : v = 4
        · refine z_tableIn (off := 50) (tgt := 51) C dX2_takeFragment_1 (by rw [c_7]; decide) (by rw [c_7]; decide) (by rw [c_7]; decide) (by decide) ?_
          refine z_aload_n C dX2_takeFragment_51 rfl 0 rfl ?_
          refine z_callVi (n := 0) (isC := [0, 1, 2, 3, 4, 5, 6, 7, 8]) (isR := []) (isP := [0, 1, 2, 3, 4, 5, 6, 7, 8]) (As := []) (rest := []) (wr := []) (ws2 := [(e, .inr (2, [.ref b, .ref d, .ref c, .int rp, .int hf, .int pl, .int bg, .int lo, .int fp, .int fb])), (d, .inr (1, [.ref dw, .ref dy, .int ((f_X2_goOnWithRecord Wf Yf Cf F hf fp fb dm da cm m).2.2.2.2.1), .int ((f_X2_goOnWithRecord Wf Yf Cf F hf fp fb dm da cm m).2.2.2.2.2.1)])), (dw, .inl (g.2.2.1, 100, .inl ((f_X2_goOnWithRecord Wf Yf Cf F hf fp fb dm da cm m).2.1))), (dy, .inl (g.2.2.1, 100, .inl ((f_X2_goOnWithRecord Wf Yf Cf F hf fp fb dm da cm m).2.2.1))), (c, .inr (3, [.ref ca, .int ((f_X2_goOnWithRecord Wf Yf Cf F hf fp fb dm da cm m).2.2.2.2.2.2)])), (ca, .inl (g.2.1, 4096, .inl ((f_X2_goOnWithRecord Wf Yf Cf F hf fp fb dm da cm m).2.2.2.1))), (b, .inr (0, [.ref br, .int z])), (br, .inr (3, [.ref ba, .int m])), (ba, .inl (g.2.1, 4096, .inl F))]) C dX2_takeFragment_52 (c_X2_goOnWithRecord (zl X) g e b d c dw dy ca br ba Wf Yf Cf F rp hf pl bg lo fp fb dm da cm z m hd hc hm) gX2_takeFragment_X2_goOnWithRecord rfl ⟨rfl, rfl⟩ (by decide +kernel) (by decide) (by decide) rfl rfl rfl rfl (Nat.le_of_ble_eq_true rfl) rfl rfl ⟨rfl, rfl, rfl⟩ (by decide) rfl ?_
          generalize hT8 : (f_X2_goOnWithRecord Wf Yf Cf F hf fp fb dm da cm m) = T8
          obtain ⟨rq8, Wfq8, Yfq8, Cfq8, dmq8, daq8, cmq8⟩ := T8
          have k8_cm : zok 4096 cmq8 := zok_X2_goOnWithRecord hd hc hm hT8
          have k8_dm : zdok (0) dmq8 := zdok_X2_goOnWithRecord hd hT8
          have he : (f_X2_takeFragment Wf Yf Cf F rp hf fp fb dm da cm m v) = (rq8, Wfq8, Yfq8, Cfq8, rp, hf, dmq8, daq8, cmq8) := by simp only [f_X2_takeFragment, if_neg c_1, if_neg c_3, if_neg c_5, if_pos c_7, hT8]
          exact hret _ _ _ _ dX2_takeFragment_55 (by first | rw [he] | rfl) (by first | rw [he] | rfl)
        · skip
          refine z_tableOut (tgt := 56) C dX2_takeFragment_1 (zsw_out4 c_1 c_3 c_5 c_7) (by decide) ?_
          refine z_aload_n C dX2_takeFragment_56 rfl 0 rfl ?_
          refine z_get (ci := 2) (v := .ref d) (Cn := RX2) (T := TX2) (N := 10) C dX2_takeFragment_57 (fun w h => List.mem_cons_of_mem _ (List.mem_append_left _ (List.mem_append_left _ (List.mem_append_left _ (List.mem_append_right _ h))))) 0 rfl rfl 1 (by decide) (List.mem_of_getElem? (i := 1) rfl) rfl rfl ?_
          refine z_bipush (v := 6) C dX2_takeFragment_60 (by decide) ?_
          refine z_aload_n C dX2_takeFragment_62 rfl 0 rfl ?_
          refine z_get (ci := 2) (v := .int fb) (Cn := RX2) (T := TX2) (N := 10) C dX2_takeFragment_63 (fun w h => List.mem_cons_of_mem _ (List.mem_append_left _ (List.mem_append_left _ (List.mem_append_left _ (List.mem_append_right _ h))))) 0 rfl rfl 9 (by decide) (List.mem_of_getElem? (i := 2) rfl) rfl rfl ?_
          refine z_aload_n C dX2_takeFragment_66 rfl 0 rfl ?_
          refine z_get (ci := 2) (v := .ref c) (Cn := RX2) (T := TX2) (N := 10) C dX2_takeFragment_67 (fun w h => List.mem_cons_of_mem _ (List.mem_append_left _ (List.mem_append_left _ (List.mem_append_left _ (List.mem_append_right _ h))))) 0 rfl rfl 2 (by decide) (List.mem_of_getElem? (i := 3) rfl) rfl rfl ?_
          refine z_callVi (n := 0) (isC := [4, 5]) (isR := [0, 1, 2, 3, 6, 7, 8]) (isP := [0, 1, 2, 3, 7, 8, 4, 5, 6]) (As := []) (rest := [.int fb, .int 6, .ref d]) (wr := [(e, .inr (2, [.ref b, .ref d, .ref c, .int rp, .int hf, .int pl, .int bg, .int lo, .int fp, .int fb])), (d, .inr (1, [.ref dw, .ref dy, .int dm, .int da])), (dw, .inl (g.2.2.1, 100, .inl Wf)), (dy, .inl (g.2.2.1, 100, .inl Yf)), (b, .inr (0, [.ref br, .int z])), (br, .inr (3, [.ref ba, .int m])), (ba, .inl (g.2.1, 4096, .inl F))]) (ws2 := [(e, .inr (2, [.ref b, .ref d, .ref c, .int rp, .int hf, .int pl, .int bg, .int lo, .int fp, .int fb])), (d, .inr (1, [.ref dw, .ref dy, .int dm, .int da])), (dw, .inl (g.2.2.1, 100, .inl Wf)), (dy, .inl (g.2.2.1, 100, .inl Yf)), (c, .inr (3, [.ref ca, .int cm])), (ca, .inl (g.2.1, 4096, .inl Cf)), (b, .inr (0, [.ref br, .int z])), (br, .inr (3, [.ref ba, .int m])), (ba, .inl (g.2.1, 4096, .inl F))]) C dX2_takeFragment_70 (c_X3_many (zl X) g c ca 4096 Cf cm) gX2_takeFragment_X3_many rfl ⟨rfl, rfl⟩ (by decide +kernel) (by decide) (by decide) rfl rfl rfl rfl (Nat.le_of_ble_eq_true rfl) rfl rfl ⟨rfl, rfl, rfl⟩ (by decide) rfl ?_
          refine z_iadd C dX2_takeFragment_73 ?_
          refine z_callVv (n := 2) (isC := [1, 2, 3]) (isR := [0, 4, 5, 6, 7, 8]) (isP := [0, 6, 7, 8, 1, 2, 3, 4, 5]) (As := [.int 6, .int (fb + cm)]) (rest := []) (wr := [(e, .inr (2, [.ref b, .ref d, .ref c, .int rp, .int hf, .int pl, .int bg, .int lo, .int fp, .int fb])), (c, .inr (3, [.ref ca, .int cm])), (ca, .inl (g.2.1, 4096, .inl Cf)), (b, .inr (0, [.ref br, .int z])), (br, .inr (3, [.ref ba, .int m])), (ba, .inl (g.2.1, 4096, .inl F))]) (ws2 := [(e, .inr (2, [.ref b, .ref d, .ref c, .int rp, .int hf, .int pl, .int bg, .int lo, .int fp, .int fb])), (d, .inr (1, [.ref dw, .ref dy, .int ((f_X1_tell Wf Yf dm da 6 (fb + cm)).2.2.1), .int ((f_X1_tell Wf Yf dm da 6 (fb + cm)).2.2.2)])), (dw, .inl (g.2.2.1, 100, .inl ((f_X1_tell Wf Yf dm da 6 (fb + cm)).1))), (dy, .inl (g.2.2.1, 100, .inl ((f_X1_tell Wf Yf dm da 6 (fb + cm)).2.1))), (c, .inr (3, [.ref ca, .int cm])), (ca, .inl (g.2.1, 4096, .inl Cf)), (b, .inr (0, [.ref br, .int z])), (br, .inr (3, [.ref ba, .int m])), (ba, .inl (g.2.1, 4096, .inl F))]) C dX2_takeFragment_74 (c_X1_tell (zl X) g d dw dy Wf Yf dm da 6 (fb + cm) hd) gX2_takeFragment_X1_tell rfl ⟨rfl, rfl⟩ (by decide +kernel) (by decide) (by decide) rfl rfl rfl rfl (Nat.le_of_ble_eq_true rfl) rfl rfl ⟨rfl, rfl, rfl⟩ (by decide) rfl ?_
          generalize hT10 : (f_X1_tell Wf Yf dm da 6 (fb + cm)) = T10
          obtain ⟨Wfq10, Yfq10, dmq10, daq10⟩ := T10
          have k10_dm : zdok (0) dmq10 := zdok_X1_tell hd hT10
          refine z_aload_n C dX2_takeFragment_77 rfl 0 rfl ?_
          refine z_callVv (n := 0) (isC := [0, 1, 2, 3, 4, 5, 6, 7, 8]) (isR := []) (isP := [0, 1, 2, 3, 4, 5, 6, 7, 8]) (As := []) (rest := []) (wr := []) (ws2 := [(e, .inr (2, [.ref b, .ref d, .ref c, .int ((f_X2_dropRecord cm).1), .int ((f_X2_dropRecord cm).2.1), .int pl, .int bg, .int lo, .int fp, .int fb])), (d, .inr (1, [.ref dw, .ref dy, .int dmq10, .int daq10])), (dw, .inl (g.2.2.1, 100, .inl Wfq10)), (dy, .inl (g.2.2.1, 100, .inl Yfq10)), (c, .inr (3, [.ref ca, .int ((f_X2_dropRecord cm).2.2)])), (ca, .inl (g.2.1, 4096, .inl Cf)), (b, .inr (0, [.ref br, .int z])), (br, .inr (3, [.ref ba, .int m])), (ba, .inl (g.2.1, 4096, .inl F))]) C dX2_takeFragment_78 (c_X2_dropRecord (zl X) g e b d c dw dy ca br ba Wfq10 Yfq10 Cf F rp hf pl bg lo fp fb dmq10 daq10 cm z m hc) gX2_takeFragment_X2_dropRecord rfl ⟨rfl, rfl⟩ (by decide +kernel) (by decide) (by decide) rfl rfl rfl rfl (Nat.le_of_ble_eq_true rfl) rfl rfl ⟨rfl, rfl, rfl⟩ (by decide) rfl ?_
          generalize hT11 : (f_X2_dropRecord cm) = T11
          obtain ⟨rpq11, hfq11, cmq11⟩ := T11
          have k11_cm : zok 4096 cmq11 := zok_X2_dropRecord hc hT11
          refine z_iconst (v := 0) C dX2_takeFragment_81 (by decide) ?_
          have he : (f_X2_takeFragment Wf Yf Cf F rp hf fp fb dm da cm m v) = (0, Wfq10, Yfq10, Cf, rpq11, hfq11, dmq10, daq10, cmq11) := by simp only [f_X2_takeFragment, if_neg c_1, if_neg c_3, if_neg c_5, if_neg c_7, hT10, hT11]
          exact hret _ _ _ _ dX2_takeFragment_82 (by first | rw [he] | rfl) (by first | rw [he] | rfl)
def f_X2_passesOver (lo : Int32) (v : Int32) : Int32 × Int32 :=
  if lo = 0 then
    (0, lo)
  else
    if v = 3 then
      (1, 1)
    else
      if v = 4 then
        (1, 0)
      else
        (0, 0)
theorem zbool_X2_passesOver (lo v : Int32) : narrow .boolean (.int (f_X2_passesOver lo v).1) = .int (f_X2_passesOver lo v).1 := by
  unfold f_X2_passesOver
  repeat' split
  all_goals ((try dsimp only); rfl)
set_option maxHeartbeats 4000000 in
set_option maxRecDepth 100000 in
theorem c_X2_passesOver (l : Launch) (g : zG) (e b d c dw dy ca br ba : Nat) (Wf : Nat → Int32) (Yf : Nat → Int32) (Cf : Nat → Int32) (F : Nat → Int32) (rp : Int32) (hf : Int32) (pl : Int32) (bg : Int32) (lo : Int32) (fp : Int32) (fb : Int32) (dm : Int32) (da : Int32) (cm : Int32) (z : Int32) (m : Int32) (v : Int32) : zMI l yX2_passesOver wsX2_passesOver ({ frames := 0, cells := 0, slots := 0, locals := 0 }) g [.ref e, .int v] [(e, .inr (2, [.ref b, .ref d, .ref c, .int rp, .int hf, .int pl, .int bg, .int lo, .int fp, .int fb])), (d, .inr (1, [.ref dw, .ref dy, .int dm, .int da])), (dw, .inl (g.2.2.1, 100, .inl Wf)), (dy, .inl (g.2.2.1, 100, .inl Yf)), (c, .inr (3, [.ref ca, .int cm])), (ca, .inl (g.2.1, 4096, .inl Cf)), (b, .inr (0, [.ref br, .int z])), (br, .inr (3, [.ref ba, .int m])), (ba, .inl (g.2.1, 4096, .inl F))] ((f_X2_passesOver lo v).1) [(e, .inr (2, [.ref b, .ref d, .ref c, .int rp, .int hf, .int pl, .int bg, .int ((f_X2_passesOver lo v).2), .int fp, .int fb])), (d, .inr (1, [.ref dw, .ref dy, .int dm, .int da])), (dw, .inl (g.2.2.1, 100, .inl Wf)), (dy, .inl (g.2.2.1, 100, .inl Yf)), (c, .inr (3, [.ref ca, .int cm])), (ca, .inl (g.2.1, 4096, .inl Cf)), (b, .inr (0, [.ref br, .int z])), (br, .inr (3, [.ref ba, .int m])), (ba, .inl (g.2.1, 4096, .inl F))] := by
  refine zMI_of (cc := cX2_passesOver) (nL := 2) (ty := .boolean) (by decide) rfl (Nat.le_of_ble_eq_true rfl) (zbool_X2_passesOver _ _) ?_
  intro X C hret
  refine z_lv (lv' := [(0, .ref e), (1, .int v)]) [0, 1] rfl ?_
  refine z_aload_n C dX2_passesOver_0 rfl 0 rfl ?_
  refine z_get (ci := 2) (v := .int lo) (Cn := RX2) (T := TX2) (N := 10) C dX2_passesOver_1 (fun w h => List.mem_cons_of_mem _ (List.mem_append_right _ h)) 0 rfl rfl 7 (by decide) (List.mem_of_getElem? (i := 1) rfl) rfl rfl ?_
  refine z_if_ne (tgt := 9) C dX2_passesOver_4 (by decide) (fun c_1 => ?_) (fun c_1 => ?_)
  · skip
    refine z_aload_n C dX2_passesOver_9 rfl 0 rfl ?_
    refine z_iload_n C dX2_passesOver_10 rfl 1 rfl ?_
    refine z_iconst (v := 3) C dX2_passesOver_11 (by decide) ?_
    refine z_icmp_ne (tgt := 19) C dX2_passesOver_12 (by decide) (fun c_2 => ?_) (fun c_2 => ?_)
    · skip
      refine z_iconst (v := 0) C dX2_passesOver_19 (by decide) ?_
      refine z_put (ci := 2) (v := .int 0) (ty := .boolean) (Cn := RX2) (T := TX2) (N := 10) (ws' := [(e, .inr (2, [.ref b, .ref d, .ref c, .int rp, .int hf, .int pl, .int bg, .int 0, .int fp, .int fb])), (d, .inr (1, [.ref dw, .ref dy, .int dm, .int da])), (dw, .inl (g.2.2.1, 100, .inl Wf)), (dy, .inl (g.2.2.1, 100, .inl Yf)), (c, .inr (3, [.ref ca, .int cm])), (ca, .inl (g.2.1, 4096, .inl Cf)), (b, .inr (0, [.ref br, .int z])), (br, .inr (3, [.ref ba, .int m])), (ba, .inl (g.2.1, 4096, .inl F))]) C dX2_passesOver_20 (fun w h => List.mem_cons_of_mem _ (List.mem_append_right _ h)) tyX2 tyX2_ok nmX2 0 rfl rfl 7 (by decide) (List.mem_of_getElem? (i := 1) rfl) rfl rfl (by decide +kernel) rfl rfl (Nat.le_of_ble_eq_true rfl) rfl ?_
      refine z_iload_n C dX2_passesOver_23 rfl 1 rfl ?_
      refine z_iconst (v := 3) C dX2_passesOver_24 (by decide) ?_
      refine z_icmp_eq (tgt := 33) C dX2_passesOver_25 (by decide) (fun c_3 => absurd c_3 c_2) (fun c_3 => ?_)
      refine z_iload_n C dX2_passesOver_28 rfl 1 rfl ?_
      refine z_iconst (v := 4) C dX2_passesOver_29 (by decide) ?_
      refine z_icmp_ne (tgt := 37) C dX2_passesOver_30 (by decide) (fun c_4 => ?_) (fun c_4 => ?_)
      · skip
        refine z_iconst (v := 0) C dX2_passesOver_37 (by decide) ?_
        have he : (f_X2_passesOver lo v) = (0, 0) := by simp only [f_X2_passesOver, if_neg c_1, if_neg c_2, if_neg c_4]
        exact hret _ _ _ _ dX2_passesOver_38 (by first | rw [he] | rfl) (by first | rw [he] | rfl)
      · skip
        refine z_iconst (v := 1) C dX2_passesOver_33 (by decide) ?_
        refine z_goto (tgt := 38) C dX2_passesOver_34 (by decide) ?_
        have he : (f_X2_passesOver lo v) = (1, 0) := by simp only [f_X2_passesOver, if_neg c_1, if_neg c_2, if_pos c_4]
        exact hret _ _ _ _ dX2_passesOver_38 (by first | rw [he] | rfl) (by first | rw [he] | rfl)
    · skip
      refine z_iconst (v := 1) C dX2_passesOver_15 (by decide) ?_
      refine z_goto (tgt := 20) C dX2_passesOver_16 (by decide) ?_
      refine z_put (ci := 2) (v := .int 1) (ty := .boolean) (Cn := RX2) (T := TX2) (N := 10) (ws' := [(e, .inr (2, [.ref b, .ref d, .ref c, .int rp, .int hf, .int pl, .int bg, .int 1, .int fp, .int fb])), (d, .inr (1, [.ref dw, .ref dy, .int dm, .int da])), (dw, .inl (g.2.2.1, 100, .inl Wf)), (dy, .inl (g.2.2.1, 100, .inl Yf)), (c, .inr (3, [.ref ca, .int cm])), (ca, .inl (g.2.1, 4096, .inl Cf)), (b, .inr (0, [.ref br, .int z])), (br, .inr (3, [.ref ba, .int m])), (ba, .inl (g.2.1, 4096, .inl F))]) C dX2_passesOver_20 (fun w h => List.mem_cons_of_mem _ (List.mem_append_right _ h)) tyX2 tyX2_ok nmX2 0 rfl rfl 7 (by decide) (List.mem_of_getElem? (i := 1) rfl) rfl rfl (by decide +kernel) rfl rfl (Nat.le_of_ble_eq_true rfl) rfl ?_
      refine z_iload_n C dX2_passesOver_23 rfl 1 rfl ?_
      refine z_iconst (v := 3) C dX2_passesOver_24 (by decide) ?_
      refine z_icmp_eq (tgt := 33) C dX2_passesOver_25 (by decide) (fun c_5 => ?_) (fun c_5 => absurd c_2 c_5)
      refine z_iconst (v := 1) C dX2_passesOver_33 (by decide) ?_
      refine z_goto (tgt := 38) C dX2_passesOver_34 (by decide) ?_
      have he : (f_X2_passesOver lo v) = (1, 1) := by simp only [f_X2_passesOver, if_neg c_1, if_pos c_2]
      exact hret _ _ _ _ dX2_passesOver_38 (by first | rw [he] | rfl) (by first | rw [he] | rfl)
  · skip
    refine z_iconst (v := 0) C dX2_passesOver_7 (by decide) ?_
    have he : (f_X2_passesOver lo v) = (0, lo) := by simp only [f_X2_passesOver, if_pos c_1]
    exact hret _ _ _ _ dX2_passesOver_8 (by first | rw [he] | rfl) (by first | rw [he] | rfl)
def f_X2_breakBlock (Wf : Nat → Int32) (Yf : Nat → Int32) (pl : Int32) (dm : Int32) (da : Int32) (x : Int32) (v : Int32) : Int32 × (Nat → Int32) × (Nat → Int32) × Int32 × Int32 × Int32 :=
  match (f_X1_tell Wf Yf dm da x v) with
  | (Wfq1, Yfq1, dmq1, daq1) =>
    (257, Wfq1, Yfq1, (pl + v), dmq1, daq1)
theorem zdok_X2_breakBlock {k : Nat} {Wf Yf W1 Y1 : Nat → Int32} {pl dm da x v r p1 d1 a1 : Int32} (hd : zdok (k + 1) dm) (e : f_X2_breakBlock Wf Yf pl dm da x v = (r, W1, Y1, p1, d1, a1)) : zdok k d1 := by
  unfold f_X2_breakBlock at e
  split at e
  next e1 => cases e; exact zdok_X1_tell hd e1
set_option maxHeartbeats 4000000 in
set_option maxRecDepth 100000 in
theorem c_X2_breakBlock (l : Launch) (g : zG) (e b d c dw dy ca br ba : Nat) (Wf : Nat → Int32) (Yf : Nat → Int32) (Cf : Nat → Int32) (F : Nat → Int32) (rp : Int32) (hf : Int32) (pl : Int32) (bg : Int32) (lo : Int32) (fp : Int32) (fb : Int32) (dm : Int32) (da : Int32) (cm : Int32) (z : Int32) (m : Int32) (x : Int32) (v : Int32) (hd : zdok 1 dm) : zMI l yX2_breakBlock wsX2_breakBlock ({ frames := 1, cells := 0, slots := 0, locals := 22 }) g [.ref e, .int x, .int v] [(e, .inr (2, [.ref b, .ref d, .ref c, .int rp, .int hf, .int pl, .int bg, .int lo, .int fp, .int fb])), (d, .inr (1, [.ref dw, .ref dy, .int dm, .int da])), (dw, .inl (g.2.2.1, 100, .inl Wf)), (dy, .inl (g.2.2.1, 100, .inl Yf)), (c, .inr (3, [.ref ca, .int cm])), (ca, .inl (g.2.1, 4096, .inl Cf)), (b, .inr (0, [.ref br, .int z])), (br, .inr (3, [.ref ba, .int m])), (ba, .inl (g.2.1, 4096, .inl F))] ((f_X2_breakBlock Wf Yf pl dm da x v).1) [(e, .inr (2, [.ref b, .ref d, .ref c, .int rp, .int hf, .int ((f_X2_breakBlock Wf Yf pl dm da x v).2.2.2.1), .int bg, .int lo, .int fp, .int fb])), (d, .inr (1, [.ref dw, .ref dy, .int ((f_X2_breakBlock Wf Yf pl dm da x v).2.2.2.2.1), .int ((f_X2_breakBlock Wf Yf pl dm da x v).2.2.2.2.2)])), (dw, .inl (g.2.2.1, 100, .inl ((f_X2_breakBlock Wf Yf pl dm da x v).2.1))), (dy, .inl (g.2.2.1, 100, .inl ((f_X2_breakBlock Wf Yf pl dm da x v).2.2.1))), (c, .inr (3, [.ref ca, .int cm])), (ca, .inl (g.2.1, 4096, .inl Cf)), (b, .inr (0, [.ref br, .int z])), (br, .inr (3, [.ref ba, .int m])), (ba, .inl (g.2.1, 4096, .inl F))] := by
  refine zMI_of (cc := cX2_breakBlock) (nL := 3) (ty := .int) (by decide) rfl (Nat.le_of_ble_eq_true rfl) rfl ?_
  intro X C hret
  refine z_lv (lv' := [(0, .ref e), (1, .int x), (2, .int v)]) [0, 1, 2] rfl ?_
  refine z_aload_n C dX2_breakBlock_0 rfl 0 rfl ?_
  refine z_get (ci := 2) (v := .ref d) (Cn := RX2) (T := TX2) (N := 10) C dX2_breakBlock_1 (fun w h => List.mem_cons_of_mem _ (List.mem_append_left _ (List.mem_append_right _ h))) 0 rfl rfl 1 (by decide) (List.mem_of_getElem? (i := 1) rfl) rfl rfl ?_
  refine z_iload_n C dX2_breakBlock_4 rfl 1 rfl ?_
  refine z_iload_n C dX2_breakBlock_5 rfl 2 rfl ?_
  refine z_callVv (n := 2) (isC := [1, 2, 3]) (isR := [0, 4, 5, 6, 7, 8]) (isP := [0, 6, 7, 8, 1, 2, 3, 4, 5]) (As := [.int x, .int v]) (rest := []) (wr := [(e, .inr (2, [.ref b, .ref d, .ref c, .int rp, .int hf, .int pl, .int bg, .int lo, .int fp, .int fb])), (c, .inr (3, [.ref ca, .int cm])), (ca, .inl (g.2.1, 4096, .inl Cf)), (b, .inr (0, [.ref br, .int z])), (br, .inr (3, [.ref ba, .int m])), (ba, .inl (g.2.1, 4096, .inl F))]) (ws2 := [(e, .inr (2, [.ref b, .ref d, .ref c, .int rp, .int hf, .int pl, .int bg, .int lo, .int fp, .int fb])), (d, .inr (1, [.ref dw, .ref dy, .int ((f_X1_tell Wf Yf dm da x v).2.2.1), .int ((f_X1_tell Wf Yf dm da x v).2.2.2)])), (dw, .inl (g.2.2.1, 100, .inl ((f_X1_tell Wf Yf dm da x v).1))), (dy, .inl (g.2.2.1, 100, .inl ((f_X1_tell Wf Yf dm da x v).2.1))), (c, .inr (3, [.ref ca, .int cm])), (ca, .inl (g.2.1, 4096, .inl Cf)), (b, .inr (0, [.ref br, .int z])), (br, .inr (3, [.ref ba, .int m])), (ba, .inl (g.2.1, 4096, .inl F))]) C dX2_breakBlock_6 (c_X1_tell (zl X) g d dw dy Wf Yf dm da x v hd) gX2_breakBlock_X1_tell rfl ⟨rfl, rfl⟩ (by decide +kernel) (by decide) (by decide) rfl rfl rfl rfl (Nat.le_of_ble_eq_true rfl) rfl rfl ⟨rfl, rfl, rfl⟩ (by decide) rfl ?_
  generalize hT1 : (f_X1_tell Wf Yf dm da x v) = T1
  obtain ⟨Wfq1, Yfq1, dmq1, daq1⟩ := T1
  have k1_dm : zdok (0) dmq1 := zdok_X1_tell hd hT1
  refine z_aload_n C dX2_breakBlock_9 rfl 0 rfl ?_
  refine z_dup C dX2_breakBlock_10 rfl ?_
  refine z_get (ci := 2) (v := .int pl) (Cn := RX2) (T := TX2) (N := 10) C dX2_breakBlock_11 (fun w h => List.mem_cons_of_mem _ (List.mem_append_left _ (List.mem_append_right _ h))) 0 rfl rfl 5 (by decide) (List.mem_of_getElem? (i := 2) rfl) rfl rfl ?_
  refine z_iload_n C dX2_breakBlock_14 rfl 2 rfl ?_
  refine z_iadd C dX2_breakBlock_15 ?_
  refine z_put (ci := 2) (v := .int (pl + v)) (ty := .int) (Cn := RX2) (T := TX2) (N := 10) (ws' := [(e, .inr (2, [.ref b, .ref d, .ref c, .int rp, .int hf, .int (pl + v), .int bg, .int lo, .int fp, .int fb])), (d, .inr (1, [.ref dw, .ref dy, .int dmq1, .int daq1])), (dw, .inl (g.2.2.1, 100, .inl Wfq1)), (dy, .inl (g.2.2.1, 100, .inl Yfq1)), (c, .inr (3, [.ref ca, .int cm])), (ca, .inl (g.2.1, 4096, .inl Cf)), (b, .inr (0, [.ref br, .int z])), (br, .inr (3, [.ref ba, .int m])), (ba, .inl (g.2.1, 4096, .inl F))]) C dX2_breakBlock_16 (fun w h => List.mem_cons_of_mem _ (List.mem_append_left _ (List.mem_append_right _ h))) tyX2 tyX2_ok nmX2 0 rfl rfl 5 (by decide) (List.mem_of_getElem? (i := 2) rfl) rfl rfl (by decide +kernel) rfl rfl (Nat.le_of_ble_eq_true rfl) rfl ?_
  refine z_sipush (v := 257) C dX2_breakBlock_19 (by decide) ?_
  have he : (f_X2_breakBlock Wf Yf pl dm da x v) = (257, Wfq1, Yfq1, (pl + v), dmq1, daq1) := by simp only [f_X2_breakBlock, hT1]
  exact hret _ _ _ _ dX2_breakBlock_22 (by first | rw [he] | rfl) (by first | rw [he] | rfl)
def f_X2_tear (Wf : Nat → Int32) (Yf : Nat → Int32) (rp : Int32) (hf : Int32) (dm : Int32) (da : Int32) (cm : Int32) : (Nat → Int32) × (Nat → Int32) × Int32 × Int32 × Int32 × Int32 × Int32 :=
  if hf = 0 then
    (Wf, Yf, rp, hf, dm, da, cm)
  else
    match (f_X1_tell Wf Yf dm da 3 cm) with
    | (Wfq3, Yfq3, dmq3, daq3) =>
      match (f_X2_dropRecord cm) with
      | (rpq4, hfq4, cmq4) =>
        (Wfq3, Yfq3, rpq4, hfq4, dmq3, daq3, cmq4)
theorem zok_X2_tear {Wf Yf W1 Y1 : Nat → Int32} {rp hf dm da cm r1 h1 d1 a1 c1 : Int32} (_ : zdok 1 dm) (hc : zok 4096 cm) (e : f_X2_tear Wf Yf rp hf dm da cm = (W1, Y1, r1, h1, d1, a1, c1)) : zok 4096 c1 := by
  unfold f_X2_tear at e
  split at e
  · cases e; exact hc
  · split at e
    split at e
    next e2 => cases e; exact zok_X2_dropRecord hc e2
theorem zdok_X2_tear {k : Nat} {Wf Yf W1 Y1 : Nat → Int32} {rp hf dm da cm r1 h1 d1 a1 c1 : Int32} (hd : zdok (k + 1) dm) (e : f_X2_tear Wf Yf rp hf dm da cm = (W1, Y1, r1, h1, d1, a1, c1)) : zdok k d1 := by
  unfold f_X2_tear at e
  split at e
  · cases e; exact zdok_le hd (by omega)
  · split at e
    next e1 =>
    split at e
    cases e; exact zdok_X1_tell hd e1
set_option maxHeartbeats 4000000 in
set_option maxRecDepth 100000 in
theorem c_X2_tear (l : Launch) (g : zG) (e b d c dw dy ca br ba : Nat) (Wf : Nat → Int32) (Yf : Nat → Int32) (Cf : Nat → Int32) (F : Nat → Int32) (rp : Int32) (hf : Int32) (pl : Int32) (bg : Int32) (lo : Int32) (fp : Int32) (fb : Int32) (dm : Int32) (da : Int32) (cm : Int32) (z : Int32) (m : Int32) (hd : zdok 1 dm) (hc : zok 4096 cm) : zMV l yX2_tear wsX2_tear ({ frames := 2, cells := 0, slots := 0, locals := 41 }) g [.ref e] [(e, .inr (2, [.ref b, .ref d, .ref c, .int rp, .int hf, .int pl, .int bg, .int lo, .int fp, .int fb])), (d, .inr (1, [.ref dw, .ref dy, .int dm, .int da])), (dw, .inl (g.2.2.1, 100, .inl Wf)), (dy, .inl (g.2.2.1, 100, .inl Yf)), (c, .inr (3, [.ref ca, .int cm])), (ca, .inl (g.2.1, 4096, .inl Cf)), (b, .inr (0, [.ref br, .int z])), (br, .inr (3, [.ref ba, .int m])), (ba, .inl (g.2.1, 4096, .inl F))] [(e, .inr (2, [.ref b, .ref d, .ref c, .int ((f_X2_tear Wf Yf rp hf dm da cm).2.2.1), .int ((f_X2_tear Wf Yf rp hf dm da cm).2.2.2.1), .int pl, .int bg, .int lo, .int fp, .int fb])), (d, .inr (1, [.ref dw, .ref dy, .int ((f_X2_tear Wf Yf rp hf dm da cm).2.2.2.2.1), .int ((f_X2_tear Wf Yf rp hf dm da cm).2.2.2.2.2.1)])), (dw, .inl (g.2.2.1, 100, .inl ((f_X2_tear Wf Yf rp hf dm da cm).1))), (dy, .inl (g.2.2.1, 100, .inl ((f_X2_tear Wf Yf rp hf dm da cm).2.1))), (c, .inr (3, [.ref ca, .int ((f_X2_tear Wf Yf rp hf dm da cm).2.2.2.2.2.2)])), (ca, .inl (g.2.1, 4096, .inl Cf)), (b, .inr (0, [.ref br, .int z])), (br, .inr (3, [.ref ba, .int m])), (ba, .inl (g.2.1, 4096, .inl F))] := by
  refine zMV_of (cc := cX2_tear) (nL := 1) (by decide) rfl (Nat.le_of_ble_eq_true rfl) ?_
  intro X C hret
  refine z_lv (lv' := [(0, .ref e)]) [0] rfl ?_
  refine z_aload_n C dX2_tear_0 rfl 0 rfl ?_
  refine z_get (ci := 2) (v := .int hf) (Cn := RX2) (T := TX2) (N := 10) C dX2_tear_1 (fun w h => List.mem_cons_of_mem _ (List.mem_append_left _ (List.mem_append_left _ (List.mem_append_right _ h)))) 0 rfl rfl 4 (by decide) (List.mem_of_getElem? (i := 1) rfl) rfl rfl ?_
  refine z_if_eq (tgt := 26) C dX2_tear_4 (by decide) (fun c_1 => ?_) (fun c_1 => ?_)
  · skip
    have he : (f_X2_tear Wf Yf rp hf dm da cm) = (Wf, Yf, rp, hf, dm, da, cm) := by simp only [f_X2_tear, if_pos c_1]
    exact hret _ _ _ dX2_tear_26 (by first | rw [he] | rfl)
  · skip
    refine z_aload_n C dX2_tear_7 rfl 0 rfl ?_
    refine z_get (ci := 2) (v := .ref d) (Cn := RX2) (T := TX2) (N := 10) C dX2_tear_8 (fun w h => List.mem_cons_of_mem _ (List.mem_append_left _ (List.mem_append_left _ (List.mem_append_right _ h)))) 0 rfl rfl 1 (by decide) (List.mem_of_getElem? (i := 2) rfl) rfl rfl ?_
    refine z_iconst (v := 3) C dX2_tear_11 (by decide) ?_
    refine z_aload_n C dX2_tear_12 rfl 0 rfl ?_
    refine z_get (ci := 2) (v := .ref c) (Cn := RX2) (T := TX2) (N := 10) C dX2_tear_13 (fun w h => List.mem_cons_of_mem _ (List.mem_append_left _ (List.mem_append_left _ (List.mem_append_right _ h)))) 0 rfl rfl 2 (by decide) (List.mem_of_getElem? (i := 3) rfl) rfl rfl ?_
    refine z_callVi (n := 0) (isC := [4, 5]) (isR := [0, 1, 2, 3, 6, 7, 8]) (isP := [0, 1, 2, 3, 7, 8, 4, 5, 6]) (As := []) (rest := [.int 3, .ref d]) (wr := [(e, .inr (2, [.ref b, .ref d, .ref c, .int rp, .int hf, .int pl, .int bg, .int lo, .int fp, .int fb])), (d, .inr (1, [.ref dw, .ref dy, .int dm, .int da])), (dw, .inl (g.2.2.1, 100, .inl Wf)), (dy, .inl (g.2.2.1, 100, .inl Yf)), (b, .inr (0, [.ref br, .int z])), (br, .inr (3, [.ref ba, .int m])), (ba, .inl (g.2.1, 4096, .inl F))]) (ws2 := [(e, .inr (2, [.ref b, .ref d, .ref c, .int rp, .int hf, .int pl, .int bg, .int lo, .int fp, .int fb])), (d, .inr (1, [.ref dw, .ref dy, .int dm, .int da])), (dw, .inl (g.2.2.1, 100, .inl Wf)), (dy, .inl (g.2.2.1, 100, .inl Yf)), (c, .inr (3, [.ref ca, .int cm])), (ca, .inl (g.2.1, 4096, .inl Cf)), (b, .inr (0, [.ref br, .int z])), (br, .inr (3, [.ref ba, .int m])), (ba, .inl (g.2.1, 4096, .inl F))]) C dX2_tear_16 (c_X3_many (zl X) g c ca 4096 Cf cm) gX2_tear_X3_many rfl ⟨rfl, rfl⟩ (by decide +kernel) (by decide) (by decide) rfl rfl rfl rfl (Nat.le_of_ble_eq_true rfl) rfl rfl ⟨rfl, rfl, rfl⟩ (by decide) rfl ?_
    refine z_callVv (n := 2) (isC := [1, 2, 3]) (isR := [0, 4, 5, 6, 7, 8]) (isP := [0, 6, 7, 8, 1, 2, 3, 4, 5]) (As := [.int 3, .int cm]) (rest := []) (wr := [(e, .inr (2, [.ref b, .ref d, .ref c, .int rp, .int hf, .int pl, .int bg, .int lo, .int fp, .int fb])), (c, .inr (3, [.ref ca, .int cm])), (ca, .inl (g.2.1, 4096, .inl Cf)), (b, .inr (0, [.ref br, .int z])), (br, .inr (3, [.ref ba, .int m])), (ba, .inl (g.2.1, 4096, .inl F))]) (ws2 := [(e, .inr (2, [.ref b, .ref d, .ref c, .int rp, .int hf, .int pl, .int bg, .int lo, .int fp, .int fb])), (d, .inr (1, [.ref dw, .ref dy, .int ((f_X1_tell Wf Yf dm da 3 cm).2.2.1), .int ((f_X1_tell Wf Yf dm da 3 cm).2.2.2)])), (dw, .inl (g.2.2.1, 100, .inl ((f_X1_tell Wf Yf dm da 3 cm).1))), (dy, .inl (g.2.2.1, 100, .inl ((f_X1_tell Wf Yf dm da 3 cm).2.1))), (c, .inr (3, [.ref ca, .int cm])), (ca, .inl (g.2.1, 4096, .inl Cf)), (b, .inr (0, [.ref br, .int z])), (br, .inr (3, [.ref ba, .int m])), (ba, .inl (g.2.1, 4096, .inl F))]) C dX2_tear_19 (c_X1_tell (zl X) g d dw dy Wf Yf dm da 3 cm hd) gX2_tear_X1_tell rfl ⟨rfl, rfl⟩ (by decide +kernel) (by decide) (by decide) rfl rfl rfl rfl (Nat.le_of_ble_eq_true rfl) rfl rfl ⟨rfl, rfl, rfl⟩ (by decide) rfl ?_
    generalize hT3 : (f_X1_tell Wf Yf dm da 3 cm) = T3
    obtain ⟨Wfq3, Yfq3, dmq3, daq3⟩ := T3
    have k3_dm : zdok (0) dmq3 := zdok_X1_tell hd hT3
    refine z_aload_n C dX2_tear_22 rfl 0 rfl ?_
    refine z_callVv (n := 0) (isC := [0, 1, 2, 3, 4, 5, 6, 7, 8]) (isR := []) (isP := [0, 1, 2, 3, 4, 5, 6, 7, 8]) (As := []) (rest := []) (wr := []) (ws2 := [(e, .inr (2, [.ref b, .ref d, .ref c, .int ((f_X2_dropRecord cm).1), .int ((f_X2_dropRecord cm).2.1), .int pl, .int bg, .int lo, .int fp, .int fb])), (d, .inr (1, [.ref dw, .ref dy, .int dmq3, .int daq3])), (dw, .inl (g.2.2.1, 100, .inl Wfq3)), (dy, .inl (g.2.2.1, 100, .inl Yfq3)), (c, .inr (3, [.ref ca, .int ((f_X2_dropRecord cm).2.2)])), (ca, .inl (g.2.1, 4096, .inl Cf)), (b, .inr (0, [.ref br, .int z])), (br, .inr (3, [.ref ba, .int m])), (ba, .inl (g.2.1, 4096, .inl F))]) C dX2_tear_23 (c_X2_dropRecord (zl X) g e b d c dw dy ca br ba Wfq3 Yfq3 Cf F rp hf pl bg lo fp fb dmq3 daq3 cm z m hc) gX2_tear_X2_dropRecord rfl ⟨rfl, rfl⟩ (by decide +kernel) (by decide) (by decide) rfl rfl rfl rfl (Nat.le_of_ble_eq_true rfl) rfl rfl ⟨rfl, rfl, rfl⟩ (by decide) rfl ?_
    generalize hT4 : (f_X2_dropRecord cm) = T4
    obtain ⟨rpq4, hfq4, cmq4⟩ := T4
    have k4_cm : zok 4096 cmq4 := zok_X2_dropRecord hc hT4
    have he : (f_X2_tear Wf Yf rp hf dm da cm) = (Wfq3, Yfq3, rpq4, hfq4, dmq3, daq3, cmq4) := by simp only [f_X2_tear, if_neg c_1, hT3, hT4]
    exact hret _ _ _ dX2_tear_26 (by first | rw [he] | rfl)
def f_X2_isCheckRight (F : Nat → Int32) (pl : Int32) (m : Int32) (v : Int32) (x : Int32) : Int32 :=
  if (f_X3_numberLowestFirst F m pl 4) = (f_X4_of F m v (pl + 7) x) then
    1
  else
    0
theorem zbool_X2_isCheckRight (F : Nat → Int32) (pl m v x : Int32) : narrow .boolean (.int (f_X2_isCheckRight F pl m v x)) = .int (f_X2_isCheckRight F pl m v x) := by
  unfold f_X2_isCheckRight
  repeat' split
  all_goals ((try dsimp only); rfl)
set_option maxHeartbeats 4000000 in
set_option maxRecDepth 100000 in
theorem c_X2_isCheckRight (l : Launch) (g : zG) (e b d c dw dy ca br ba : Nat) (Wf : Nat → Int32) (Yf : Nat → Int32) (Cf : Nat → Int32) (F : Nat → Int32) (rp : Int32) (hf : Int32) (pl : Int32) (bg : Int32) (lo : Int32) (fp : Int32) (fb : Int32) (dm : Int32) (da : Int32) (cm : Int32) (z : Int32) (m : Int32) (v : Int32) (x : Int32) (hm : zok 4096 m) : zMI l yX2_isCheckRight wsX2_isCheckRight ({ frames := 2, cells := 0, slots := 0, locals := 47 }) g [.ref e, .int v, .int x] [(e, .inr (2, [.ref b, .ref d, .ref c, .int rp, .int hf, .int pl, .int bg, .int lo, .int fp, .int fb])), (d, .inr (1, [.ref dw, .ref dy, .int dm, .int da])), (dw, .inl (g.2.2.1, 100, .inl Wf)), (dy, .inl (g.2.2.1, 100, .inl Yf)), (c, .inr (3, [.ref ca, .int cm])), (ca, .inl (g.2.1, 4096, .inl Cf)), (b, .inr (0, [.ref br, .int z])), (br, .inr (3, [.ref ba, .int m])), (ba, .inl (g.2.1, 4096, .inl F))] (f_X2_isCheckRight F pl m v x) [(e, .inr (2, [.ref b, .ref d, .ref c, .int rp, .int hf, .int pl, .int bg, .int lo, .int fp, .int fb])), (d, .inr (1, [.ref dw, .ref dy, .int dm, .int da])), (dw, .inl (g.2.2.1, 100, .inl Wf)), (dy, .inl (g.2.2.1, 100, .inl Yf)), (c, .inr (3, [.ref ca, .int cm])), (ca, .inl (g.2.1, 4096, .inl Cf)), (b, .inr (0, [.ref br, .int z])), (br, .inr (3, [.ref ba, .int m])), (ba, .inl (g.2.1, 4096, .inl F))] := by
  refine zMI_of (cc := cX2_isCheckRight) (nL := 4) (ty := .boolean) (by decide) rfl (Nat.le_of_ble_eq_true rfl) (zbool_X2_isCheckRight _ _ _ _ _) ?_
  intro X C hret
  refine z_lv (lv' := [(0, .ref e), (1, .int v), (2, .int x)]) [0, 1, 2] rfl ?_
  refine z_aload_n C dX2_isCheckRight_0 rfl 0 rfl ?_
  refine z_get (ci := 2) (v := .ref b) (Cn := RX2) (T := TX2) (N := 10) C dX2_isCheckRight_1 (fun w h => List.mem_cons_of_mem _ (List.mem_append_left _ (List.mem_append_left _ (List.mem_append_right _ h)))) 0 rfl rfl 0 (by decide) (List.mem_of_getElem? (i := 1) rfl) rfl rfl ?_
  refine z_callVr (n := 0) (isC := [6, 7, 8]) (isR := [0, 1, 2, 3, 4, 5]) (isP := [0, 1, 2, 3, 4, 5, 6, 7, 8]) (As := []) (rest := []) (wr := [(e, .inr (2, [.ref b, .ref d, .ref c, .int rp, .int hf, .int pl, .int bg, .int lo, .int fp, .int fb])), (d, .inr (1, [.ref dw, .ref dy, .int dm, .int da])), (dw, .inl (g.2.2.1, 100, .inl Wf)), (dy, .inl (g.2.2.1, 100, .inl Yf)), (c, .inr (3, [.ref ca, .int cm])), (ca, .inl (g.2.1, 4096, .inl Cf))]) (ws2 := [(e, .inr (2, [.ref b, .ref d, .ref c, .int rp, .int hf, .int pl, .int bg, .int lo, .int fp, .int fb])), (d, .inr (1, [.ref dw, .ref dy, .int dm, .int da])), (dw, .inl (g.2.2.1, 100, .inl Wf)), (dy, .inl (g.2.2.1, 100, .inl Yf)), (c, .inr (3, [.ref ca, .int cm])), (ca, .inl (g.2.1, 4096, .inl Cf)), (b, .inr (0, [.ref br, .int z])), (br, .inr (3, [.ref ba, .int m])), (ba, .inl (g.2.1, 4096, .inl F))]) C dX2_isCheckRight_4 (c_X0_bytes (zl X) g b br ba F z m) gX2_isCheckRight_X0_bytes rfl ⟨rfl, rfl⟩ (by decide +kernel) (by decide) (by decide) rfl rfl rfl rfl (Nat.le_of_ble_eq_true rfl) rfl rfl ⟨rfl, rfl, rfl⟩ (by decide) rfl ?_
  refine z_aload_n C dX2_isCheckRight_7 rfl 0 rfl ?_
  refine z_get (ci := 2) (v := .int pl) (Cn := RX2) (T := TX2) (N := 10) C dX2_isCheckRight_8 (fun w h => List.mem_cons_of_mem _ (List.mem_append_left _ (List.mem_append_left _ (List.mem_append_right _ h)))) 0 rfl rfl 5 (by decide) (List.mem_of_getElem? (i := 2) rfl) rfl rfl ?_
  refine z_iconst (v := 4) C dX2_isCheckRight_11 (by decide) ?_
  refine z_callVi (n := 2) (isC := [7, 8]) (isR := [0, 1, 2, 3, 4, 5, 6]) (isP := [0, 1, 2, 3, 4, 5, 6, 7, 8]) (As := [.int pl, .int 4]) (rest := []) (wr := [(e, .inr (2, [.ref b, .ref d, .ref c, .int rp, .int hf, .int pl, .int bg, .int lo, .int fp, .int fb])), (d, .inr (1, [.ref dw, .ref dy, .int dm, .int da])), (dw, .inl (g.2.2.1, 100, .inl Wf)), (dy, .inl (g.2.2.1, 100, .inl Yf)), (c, .inr (3, [.ref ca, .int cm])), (ca, .inl (g.2.1, 4096, .inl Cf)), (b, .inr (0, [.ref br, .int z]))]) (ws2 := [(e, .inr (2, [.ref b, .ref d, .ref c, .int rp, .int hf, .int pl, .int bg, .int lo, .int fp, .int fb])), (d, .inr (1, [.ref dw, .ref dy, .int dm, .int da])), (dw, .inl (g.2.2.1, 100, .inl Wf)), (dy, .inl (g.2.2.1, 100, .inl Yf)), (c, .inr (3, [.ref ca, .int cm])), (ca, .inl (g.2.1, 4096, .inl Cf)), (b, .inr (0, [.ref br, .int z])), (br, .inr (3, [.ref ba, .int m])), (ba, .inl (g.2.1, 4096, .inl F))]) C dX2_isCheckRight_12 (c_X3_numberLowestFirst (zl X) g br ba 4096 F m pl 4 hm) gX2_isCheckRight_X3_numberLowestFirst rfl ⟨rfl, rfl⟩ (by decide +kernel) (by decide) (by decide) rfl rfl rfl rfl (Nat.le_of_ble_eq_true rfl) rfl rfl ⟨rfl, rfl, rfl⟩ (by decide) rfl ?_
  generalize hT2 : (f_X3_numberLowestFirst F m pl 4) = rq2
  refine z_istore_n (lv' := [(3, .int rq2), (0, .ref e), (1, .int v), (2, .int x)]) C dX2_isCheckRight_15 rfl (by decide) rfl ?_
  refine z_iload_n C dX2_isCheckRight_16 rfl 0 rfl ?_
  refine z_iload_n C dX2_isCheckRight_17 rfl 2 rfl ?_
  refine z_aload_n C dX2_isCheckRight_18 rfl 1 rfl ?_
  refine z_get (ci := 2) (v := .ref b) (Cn := RX2) (T := TX2) (N := 10) C dX2_isCheckRight_19 (fun w h => List.mem_cons_of_mem _ (List.mem_append_left _ (List.mem_append_left _ (List.mem_append_right _ h)))) 0 rfl rfl 0 (by decide) (List.mem_of_getElem? (i := 1) rfl) rfl rfl ?_
  refine z_callVr (n := 0) (isC := [6, 7, 8]) (isR := [0, 1, 2, 3, 4, 5]) (isP := [0, 1, 2, 3, 4, 5, 6, 7, 8]) (As := []) (rest := [.int v, .int rq2]) (wr := [(e, .inr (2, [.ref b, .ref d, .ref c, .int rp, .int hf, .int pl, .int bg, .int lo, .int fp, .int fb])), (d, .inr (1, [.ref dw, .ref dy, .int dm, .int da])), (dw, .inl (g.2.2.1, 100, .inl Wf)), (dy, .inl (g.2.2.1, 100, .inl Yf)), (c, .inr (3, [.ref ca, .int cm])), (ca, .inl (g.2.1, 4096, .inl Cf))]) (ws2 := [(e, .inr (2, [.ref b, .ref d, .ref c, .int rp, .int hf, .int pl, .int bg, .int lo, .int fp, .int fb])), (d, .inr (1, [.ref dw, .ref dy, .int dm, .int da])), (dw, .inl (g.2.2.1, 100, .inl Wf)), (dy, .inl (g.2.2.1, 100, .inl Yf)), (c, .inr (3, [.ref ca, .int cm])), (ca, .inl (g.2.1, 4096, .inl Cf)), (b, .inr (0, [.ref br, .int z])), (br, .inr (3, [.ref ba, .int m])), (ba, .inl (g.2.1, 4096, .inl F))]) C dX2_isCheckRight_22 (c_X0_bytes (zl X) g b br ba F z m) gX2_isCheckRight_X0_bytes rfl ⟨rfl, rfl⟩ (by decide +kernel) (by decide) (by decide) rfl rfl rfl rfl (Nat.le_of_ble_eq_true rfl) rfl rfl ⟨rfl, rfl, rfl⟩ (by decide) rfl ?_
  refine z_aload_n C dX2_isCheckRight_25 rfl 1 rfl ?_
  refine z_get (ci := 2) (v := .int pl) (Cn := RX2) (T := TX2) (N := 10) C dX2_isCheckRight_26 (fun w h => List.mem_cons_of_mem _ (List.mem_append_left _ (List.mem_append_left _ (List.mem_append_right _ h)))) 0 rfl rfl 5 (by decide) (List.mem_of_getElem? (i := 2) rfl) rfl rfl ?_
  refine z_bipush (v := 7) C dX2_isCheckRight_29 (by decide) ?_
  refine z_iadd C dX2_isCheckRight_31 ?_
  refine z_iload_n C dX2_isCheckRight_32 rfl 3 rfl ?_
  refine z_callSi (n := 4) (isC := [7, 8]) (isR := [0, 1, 2, 3, 4, 5, 6]) (isP := [0, 1, 2, 3, 4, 5, 6, 7, 8]) (As := [.int v, .ref br, .int (pl + 7), .int x]) (rest := [.int rq2]) (wr := [(e, .inr (2, [.ref b, .ref d, .ref c, .int rp, .int hf, .int pl, .int bg, .int lo, .int fp, .int fb])), (d, .inr (1, [.ref dw, .ref dy, .int dm, .int da])), (dw, .inl (g.2.2.1, 100, .inl Wf)), (dy, .inl (g.2.2.1, 100, .inl Yf)), (c, .inr (3, [.ref ca, .int cm])), (ca, .inl (g.2.1, 4096, .inl Cf)), (b, .inr (0, [.ref br, .int z]))]) (ws2 := [(e, .inr (2, [.ref b, .ref d, .ref c, .int rp, .int hf, .int pl, .int bg, .int lo, .int fp, .int fb])), (d, .inr (1, [.ref dw, .ref dy, .int dm, .int da])), (dw, .inl (g.2.2.1, 100, .inl Wf)), (dy, .inl (g.2.2.1, 100, .inl Yf)), (c, .inr (3, [.ref ca, .int cm])), (ca, .inl (g.2.1, 4096, .inl Cf)), (b, .inr (0, [.ref br, .int z])), (br, .inr (3, [.ref ba, .int m])), (ba, .inl (g.2.1, 4096, .inl F))]) C dX2_isCheckRight_33 (c_X4_of (zl X) g br ba 4096 F m v (pl + 7) x hm) gX2_isCheckRight_X4_of rfl ⟨rfl, rfl⟩ (by decide +kernel) (by decide) (by decide) rfl rfl (Nat.le_of_ble_eq_true rfl) rfl rfl ⟨rfl, rfl, rfl⟩ (by decide) rfl ?_
  generalize hT4 : (f_X4_of F m v (pl + 7) x) = rq4
  refine z_icmp_ne (tgt := 43) C dX2_isCheckRight_36 (by decide) (fun c_5 => ?_) (fun c_5 => ?_)
  · skip
    refine z_iconst (v := 0) C dX2_isCheckRight_43 (by decide) ?_
    have he : (f_X2_isCheckRight F pl m v x) = 0 := by simp only [f_X2_isCheckRight, hT2, hT4, if_neg c_5]
    exact hret _ _ _ _ dX2_isCheckRight_44 (by first | rw [he] | rfl) (by first | rw [he] | rfl)
  · skip
    refine z_iconst (v := 1) C dX2_isCheckRight_39 (by decide) ?_
    refine z_goto (tgt := 44) C dX2_isCheckRight_40 (by decide) ?_
    have he : (f_X2_isCheckRight F pl m v x) = 1 := by simp only [f_X2_isCheckRight, hT2, hT4, if_pos c_5]
    exact hret _ _ _ _ dX2_isCheckRight_44 (by first | rw [he] | rfl) (by first | rw [he] | rfl)
end
section
def jp162_X2_nextBit (Wf : Nat → Int32) (Yf : Nat → Int32) (F : Nat → Int32) (bg : Int32) (fp : Int32) (fb : Int32) (dm : Int32) (da : Int32) (m : Int32) (lf : Int32) (ln : Int32) (kd : Int32) (pl_j162 : Int32) : Int32 × (Nat → Int32) × (Nat → Int32) × Int32 × Int32 × Int32 × Int32 × Int32 :=
    if (f_X2_isCheckRight F pl_j162 m kd ln) = 0 then
      match (f_X2_breakBlock Wf Yf pl_j162 dm da 2 lf) with
      | (rq4, Wfq4, Yfq4, plq4, dmq4, daq4) =>
        (rq4, Wfq4, Yfq4, plq4, fp, fb, dmq4, daq4)
    else
      if bg ≤ pl_j162 then
        (kd, Wf, Yf, (pl_j162 + (7 + ln)), pl_j162, ln, dm, da)
      else
        (257, Wf, Yf, (pl_j162 + (7 + ln)), pl_j162, ln, dm, da)
def jp45_X2_nextBit (Wf : Nat → Int32) (Yf : Nat → Int32) (F : Nat → Int32) (bg : Int32) (fp : Int32) (fb : Int32) (dm : Int32) (da : Int32) (z : Int32) (m : Int32) (pl_j45 : Int32) : Int32 × (Nat → Int32) × (Nat → Int32) × Int32 × Int32 × Int32 × Int32 × Int32 :=
    if 7 ≤ ((zMin ((pl_j45 - (zMod pl_j45 z)) + z) m) - pl_j45) then
      if (f_X3_numberLowestFirst F m (pl_j45 + 4) 2) ≤ (((zMin ((pl_j45 - (zMod pl_j45 z)) + z) m) - pl_j45) - 7) then
        if (f_X3_at F m ((pl_j45 + 7) - 1)) = 0 then
          if (f_X3_numberLowestFirst F m (pl_j45 + 4) 2) = 0 then
            (257, Wf, Yf, (pl_j45 + ((zMin ((pl_j45 - (zMod pl_j45 z)) + z) m) - pl_j45)), fp, fb, dm, da)
          else
            jp162_X2_nextBit Wf Yf F bg fp fb dm da m ((zMin ((pl_j45 - (zMod pl_j45 z)) + z) m) - pl_j45) (f_X3_numberLowestFirst F m (pl_j45 + 4) 2) (f_X3_at F m ((pl_j45 + 7) - 1)) pl_j45
        else
          jp162_X2_nextBit Wf Yf F bg fp fb dm da m ((zMin ((pl_j45 - (zMod pl_j45 z)) + z) m) - pl_j45) (f_X3_numberLowestFirst F m (pl_j45 + 4) 2) (f_X3_at F m ((pl_j45 + 7) - 1)) pl_j45
      else
        if (f_X0_isWhole z m pl_j45) = 0 then
          (256, Wf, Yf, pl_j45, fp, fb, dm, da)
        else
          match (f_X2_breakBlock Wf Yf pl_j45 dm da 1 ((zMin ((pl_j45 - (zMod pl_j45 z)) + z) m) - pl_j45)) with
          | (rq16, Wfq16, Yfq16, plq16, dmq16, daq16) =>
            (rq16, Wfq16, Yfq16, plq16, fp, fb, dmq16, daq16)
    else
      (256, Wf, Yf, pl_j45, fp, fb, dm, da)
def f_X2_nextBit (Wf : Nat → Int32) (Yf : Nat → Int32) (F : Nat → Int32) (pl : Int32) (bg : Int32) (fp : Int32) (fb : Int32) (dm : Int32) (da : Int32) (z : Int32) (m : Int32) : Int32 × (Nat → Int32) × (Nat → Int32) × Int32 × Int32 × Int32 × Int32 × Int32 :=
  if 7 ≤ ((zMin ((pl - (zMod pl z)) + z) m) - pl) then
    jp45_X2_nextBit Wf Yf F bg fp fb dm da z m pl
  else
    if (f_X0_isWhole z m pl) = 0 then
      jp45_X2_nextBit Wf Yf F bg fp fb dm da z m pl
    else
      jp45_X2_nextBit Wf Yf F bg fp fb dm da z m ((pl - (zMod pl z)) + z)
theorem zdok_jp162_X2_nextBit {k : Nat} {Wf Yf F W1 Y1 : Nat → Int32} {bg fp fb dm da m lf ln kd pl r p1 f1 b1 d1 a1 : Int32} (hd : zdok (k + 1) dm) (e : jp162_X2_nextBit Wf Yf F bg fp fb dm da m lf ln kd pl = (r, W1, Y1, p1, f1, b1, d1, a1)) : zdok k d1 := by
  unfold jp162_X2_nextBit at e
  split at e
  · split at e
    next e1 => cases e; exact zdok_X2_breakBlock hd e1
  · split at e <;> (cases e; exact zdok_le hd (by omega))
theorem zdok_jp45_X2_nextBit {k : Nat} {Wf Yf F W1 Y1 : Nat → Int32} {bg fp fb dm da z m pl r p1 f1 b1 d1 a1 : Int32} (hd : zdok (k + 1) dm) (e : jp45_X2_nextBit Wf Yf F bg fp fb dm da z m pl = (r, W1, Y1, p1, f1, b1, d1, a1)) : zdok k d1 := by
  unfold jp45_X2_nextBit at e
  split at e
  · split at e
    · split at e
      · split at e
        · cases e; exact zdok_le hd (by omega)
        · exact zdok_jp162_X2_nextBit hd e
      · exact zdok_jp162_X2_nextBit hd e
    · split at e
      · cases e; exact zdok_le hd (by omega)
      · split at e
        next e1 => cases e; exact zdok_X2_breakBlock hd e1
  · cases e; exact zdok_le hd (by omega)
theorem zdok_X2_nextBit {k : Nat} {Wf Yf F W1 Y1 : Nat → Int32} {pl bg fp fb dm da z m r p1 f1 b1 d1 a1 : Int32} (hd : zdok (k + 1) dm) (e : f_X2_nextBit Wf Yf F pl bg fp fb dm da z m = (r, W1, Y1, p1, f1, b1, d1, a1)) : zdok k d1 := by
  unfold f_X2_nextBit at e
  split at e
  · exact zdok_jp45_X2_nextBit hd e
  · split at e <;> exact zdok_jp45_X2_nextBit hd e
set_option maxHeartbeats 4000000 in
set_option maxRecDepth 100000 in
theorem c_X2_nextBit (l : Launch) (g : zG) (e b d c dw dy ca br ba : Nat) (Wf : Nat → Int32) (Yf : Nat → Int32) (Cf : Nat → Int32) (F : Nat → Int32) (rp : Int32) (hf : Int32) (pl : Int32) (bg : Int32) (lo : Int32) (fp : Int32) (fb : Int32) (dm : Int32) (da : Int32) (cm : Int32) (z : Int32) (m : Int32) (hz : zsz z) (hm : zok 4096 m) (hd : zdok 1 dm) : zMI l yX2_nextBit wsX2_nextBit ({ frames := 3, cells := 0, slots := 0, locals := 70 }) g [.ref e] [(e, .inr (2, [.ref b, .ref d, .ref c, .int rp, .int hf, .int pl, .int bg, .int lo, .int fp, .int fb])), (d, .inr (1, [.ref dw, .ref dy, .int dm, .int da])), (dw, .inl (g.2.2.1, 100, .inl Wf)), (dy, .inl (g.2.2.1, 100, .inl Yf)), (c, .inr (3, [.ref ca, .int cm])), (ca, .inl (g.2.1, 4096, .inl Cf)), (b, .inr (0, [.ref br, .int z])), (br, .inr (3, [.ref ba, .int m])), (ba, .inl (g.2.1, 4096, .inl F))] ((f_X2_nextBit Wf Yf F pl bg fp fb dm da z m).1) [(e, .inr (2, [.ref b, .ref d, .ref c, .int rp, .int hf, .int ((f_X2_nextBit Wf Yf F pl bg fp fb dm da z m).2.2.2.1), .int bg, .int lo, .int ((f_X2_nextBit Wf Yf F pl bg fp fb dm da z m).2.2.2.2.1), .int ((f_X2_nextBit Wf Yf F pl bg fp fb dm da z m).2.2.2.2.2.1)])), (d, .inr (1, [.ref dw, .ref dy, .int ((f_X2_nextBit Wf Yf F pl bg fp fb dm da z m).2.2.2.2.2.2.1), .int ((f_X2_nextBit Wf Yf F pl bg fp fb dm da z m).2.2.2.2.2.2.2)])), (dw, .inl (g.2.2.1, 100, .inl ((f_X2_nextBit Wf Yf F pl bg fp fb dm da z m).2.1))), (dy, .inl (g.2.2.1, 100, .inl ((f_X2_nextBit Wf Yf F pl bg fp fb dm da z m).2.2.1))), (c, .inr (3, [.ref ca, .int cm])), (ca, .inl (g.2.1, 4096, .inl Cf)), (b, .inr (0, [.ref br, .int z])), (br, .inr (3, [.ref ba, .int m])), (ba, .inl (g.2.1, 4096, .inl F))] := by
  refine zMI_of (cc := cX2_nextBit) (nL := 4) (ty := .int) (by decide) rfl (Nat.le_of_ble_eq_true rfl) rfl ?_
  intro X C hret
  refine z_lv (lv' := [(0, .ref e)]) [0] rfl ?_
  have join162 : ∀ (lf : Int32) (ln : Int32) (kd : Int32) (pl_j162 : Int32), jp162_X2_nextBit Wf Yf F bg fp fb dm da m lf ln kd pl_j162 = (f_X2_nextBit Wf Yf F pl bg fp fb dm da z m) → zV X g 4 0 0 162 [(0, .ref e), (1, .int lf), (2, .int ln), (3, .int kd)] [] [(e, .inr (2, [.ref b, .ref d, .ref c, .int rp, .int hf, .int pl_j162, .int bg, .int lo, .int fp, .int fb])), (d, .inr (1, [.ref dw, .ref dy, .int dm, .int da])), (dw, .inl (g.2.2.1, 100, .inl Wf)), (dy, .inl (g.2.2.1, 100, .inl Yf)), (c, .inr (3, [.ref ca, .int cm])), (ca, .inl (g.2.1, 4096, .inl Cf)), (b, .inr (0, [.ref br, .int z])), (br, .inr (3, [.ref ba, .int m])), (ba, .inl (g.2.1, 4096, .inl F))] := by
    intro lf ln kd pl_j162  hvj162
    refine z_aload_n C dX2_nextBit_162 rfl 0 rfl ?_
    refine z_iload_n C dX2_nextBit_163 rfl 3 rfl ?_
    refine z_iload_n C dX2_nextBit_164 rfl 2 rfl ?_
    refine z_callVi (n := 2) (isC := [0, 1, 2, 3, 4, 5, 6, 7, 8]) (isR := []) (isP := [0, 1, 2, 3, 4, 5, 6, 7, 8]) (As := [.int kd, .int ln]) (rest := []) (wr := []) (ws2 := [(e, .inr (2, [.ref b, .ref d, .ref c, .int rp, .int hf, .int pl_j162, .int bg, .int lo, .int fp, .int fb])), (d, .inr (1, [.ref dw, .ref dy, .int dm, .int da])), (dw, .inl (g.2.2.1, 100, .inl Wf)), (dy, .inl (g.2.2.1, 100, .inl Yf)), (c, .inr (3, [.ref ca, .int cm])), (ca, .inl (g.2.1, 4096, .inl Cf)), (b, .inr (0, [.ref br, .int z])), (br, .inr (3, [.ref ba, .int m])), (ba, .inl (g.2.1, 4096, .inl F))]) C dX2_nextBit_165 (c_X2_isCheckRight (zl X) g e b d c dw dy ca br ba Wf Yf Cf F rp hf pl_j162 bg lo fp fb dm da cm z m kd ln hm) gX2_nextBit_X2_isCheckRight rfl ⟨rfl, rfl⟩ (by decide +kernel) (by decide) (by decide) rfl rfl rfl rfl (Nat.le_of_ble_eq_true rfl) rfl rfl ⟨rfl, rfl, rfl⟩ (by decide) rfl ?_
    generalize hT1 : (f_X2_isCheckRight F pl_j162 m kd ln) = rq1
    refine z_if_ne (tgt := 178) C dX2_nextBit_168 (by decide) (fun c_2 => ?_) (fun c_2 => ?_)
    · skip
      refine z_aload_n C dX2_nextBit_178 rfl 0 rfl ?_
      refine z_aload_n C dX2_nextBit_179 rfl 0 rfl ?_
      refine z_get (ci := 2) (v := .int pl_j162) (Cn := RX2) (T := TX2) (N := 10) C dX2_nextBit_180 (fun w h => List.mem_cons_of_mem _ (List.mem_append_left _ (List.mem_append_left _ (List.mem_append_left _ (List.mem_append_right _ h))))) 0 rfl rfl 5 (by decide) (List.mem_of_getElem? (i := 2) rfl) rfl rfl ?_
      refine z_put (ci := 2) (v := .int pl_j162) (ty := .int) (Cn := RX2) (T := TX2) (N := 10) (ws' := [(e, .inr (2, [.ref b, .ref d, .ref c, .int rp, .int hf, .int pl_j162, .int bg, .int lo, .int pl_j162, .int fb])), (d, .inr (1, [.ref dw, .ref dy, .int dm, .int da])), (dw, .inl (g.2.2.1, 100, .inl Wf)), (dy, .inl (g.2.2.1, 100, .inl Yf)), (c, .inr (3, [.ref ca, .int cm])), (ca, .inl (g.2.1, 4096, .inl Cf)), (b, .inr (0, [.ref br, .int z])), (br, .inr (3, [.ref ba, .int m])), (ba, .inl (g.2.1, 4096, .inl F))]) C dX2_nextBit_183 (fun w h => List.mem_cons_of_mem _ (List.mem_append_left _ (List.mem_append_left _ (List.mem_append_left _ (List.mem_append_right _ h))))) tyX2 tyX2_ok nmX2 0 rfl rfl 8 (by decide) (List.mem_of_getElem? (i := 3) rfl) rfl rfl (by decide +kernel) rfl rfl (Nat.le_of_ble_eq_true rfl) rfl ?_
      refine z_aload_n C dX2_nextBit_186 rfl 0 rfl ?_
      refine z_iload_n C dX2_nextBit_187 rfl 2 rfl ?_
      refine z_put (ci := 2) (v := .int ln) (ty := .int) (Cn := RX2) (T := TX2) (N := 10) (ws' := [(e, .inr (2, [.ref b, .ref d, .ref c, .int rp, .int hf, .int pl_j162, .int bg, .int lo, .int pl_j162, .int ln])), (d, .inr (1, [.ref dw, .ref dy, .int dm, .int da])), (dw, .inl (g.2.2.1, 100, .inl Wf)), (dy, .inl (g.2.2.1, 100, .inl Yf)), (c, .inr (3, [.ref ca, .int cm])), (ca, .inl (g.2.1, 4096, .inl Cf)), (b, .inr (0, [.ref br, .int z])), (br, .inr (3, [.ref ba, .int m])), (ba, .inl (g.2.1, 4096, .inl F))]) C dX2_nextBit_188 (fun w h => List.mem_cons_of_mem _ (List.mem_append_left _ (List.mem_append_left _ (List.mem_append_left _ (List.mem_append_right _ h))))) tyX2 tyX2_ok nmX2 0 rfl rfl 9 (by decide) (List.mem_of_getElem? (i := 4) rfl) rfl rfl (by decide +kernel) rfl rfl (Nat.le_of_ble_eq_true rfl) rfl ?_
      refine z_aload_n C dX2_nextBit_191 rfl 0 rfl ?_
      refine z_dup C dX2_nextBit_192 rfl ?_
      refine z_get (ci := 2) (v := .int pl_j162) (Cn := RX2) (T := TX2) (N := 10) C dX2_nextBit_193 (fun w h => List.mem_cons_of_mem _ (List.mem_append_left _ (List.mem_append_left _ (List.mem_append_left _ (List.mem_append_right _ h))))) 0 rfl rfl 5 (by decide) (List.mem_of_getElem? (i := 2) rfl) rfl rfl ?_
      refine z_bipush (v := 7) C dX2_nextBit_196 (by decide) ?_
      refine z_iload_n C dX2_nextBit_198 rfl 2 rfl ?_
      refine z_iadd C dX2_nextBit_199 ?_
      refine z_iadd C dX2_nextBit_200 ?_
      refine z_put (ci := 2) (v := .int (pl_j162 + (7 + ln))) (ty := .int) (Cn := RX2) (T := TX2) (N := 10) (ws' := [(e, .inr (2, [.ref b, .ref d, .ref c, .int rp, .int hf, .int (pl_j162 + (7 + ln)), .int bg, .int lo, .int pl_j162, .int ln])), (d, .inr (1, [.ref dw, .ref dy, .int dm, .int da])), (dw, .inl (g.2.2.1, 100, .inl Wf)), (dy, .inl (g.2.2.1, 100, .inl Yf)), (c, .inr (3, [.ref ca, .int cm])), (ca, .inl (g.2.1, 4096, .inl Cf)), (b, .inr (0, [.ref br, .int z])), (br, .inr (3, [.ref ba, .int m])), (ba, .inl (g.2.1, 4096, .inl F))]) C dX2_nextBit_201 (fun w h => List.mem_cons_of_mem _ (List.mem_append_left _ (List.mem_append_left _ (List.mem_append_left _ (List.mem_append_right _ h))))) tyX2 tyX2_ok nmX2 0 rfl rfl 5 (by decide) (List.mem_of_getElem? (i := 2) rfl) rfl rfl (by decide +kernel) rfl rfl (Nat.le_of_ble_eq_true rfl) rfl ?_
      refine z_aload_n C dX2_nextBit_204 rfl 0 rfl ?_
      refine z_get (ci := 2) (v := .int pl_j162) (Cn := RX2) (T := TX2) (N := 10) C dX2_nextBit_205 (fun w h => List.mem_cons_of_mem _ (List.mem_append_left _ (List.mem_append_left _ (List.mem_append_left _ (List.mem_append_right _ h))))) 0 rfl rfl 8 (by decide) (List.mem_of_getElem? (i := 3) rfl) rfl rfl ?_
      refine z_aload_n C dX2_nextBit_208 rfl 0 rfl ?_
      refine z_get (ci := 2) (v := .int bg) (Cn := RX2) (T := TX2) (N := 10) C dX2_nextBit_209 (fun w h => List.mem_cons_of_mem _ (List.mem_append_left _ (List.mem_append_left _ (List.mem_append_left _ (List.mem_append_right _ h))))) 0 rfl rfl 6 (by decide) (List.mem_of_getElem? (i := 5) rfl) rfl rfl ?_
      refine z_icmp_ge (tgt := 221) C dX2_nextBit_212 (by decide) (fun c_3 => ?_) (fun c_3 => ?_)
      · skip
        refine z_iload_n C dX2_nextBit_221 rfl 3 rfl ?_
        have he : (f_X2_nextBit Wf Yf F pl bg fp fb dm da z m) = (kd, Wf, Yf, (pl_j162 + (7 + ln)), pl_j162, ln, dm, da) := by rw [← hvj162]; simp only [jp162_X2_nextBit, hT1, if_neg c_2, if_pos c_3]
        exact hret _ _ _ _ dX2_nextBit_222 (by first | rw [he] | rfl) (by first | rw [he] | rfl)
      · skip
        refine z_sipush (v := 257) C dX2_nextBit_215 (by decide) ?_
        refine z_goto (tgt := 222) C dX2_nextBit_218 (by decide) ?_
        have he : (f_X2_nextBit Wf Yf F pl bg fp fb dm da z m) = (257, Wf, Yf, (pl_j162 + (7 + ln)), pl_j162, ln, dm, da) := by rw [← hvj162]; simp only [jp162_X2_nextBit, hT1, if_neg c_2, if_neg c_3]
        exact hret _ _ _ _ dX2_nextBit_222 (by first | rw [he] | rfl) (by first | rw [he] | rfl)
    · skip
      refine z_aload_n C dX2_nextBit_171 rfl 0 rfl ?_
      refine z_iconst (v := 2) C dX2_nextBit_172 (by decide) ?_
      refine z_iload_n C dX2_nextBit_173 rfl 1 rfl ?_
      refine z_callVi (n := 2) (isC := [0, 1, 2, 3, 4, 5, 6, 7, 8]) (isR := []) (isP := [0, 1, 2, 3, 4, 5, 6, 7, 8]) (As := [.int 2, .int lf]) (rest := []) (wr := []) (ws2 := [(e, .inr (2, [.ref b, .ref d, .ref c, .int rp, .int hf, .int ((f_X2_breakBlock Wf Yf pl_j162 dm da 2 lf).2.2.2.1), .int bg, .int lo, .int fp, .int fb])), (d, .inr (1, [.ref dw, .ref dy, .int ((f_X2_breakBlock Wf Yf pl_j162 dm da 2 lf).2.2.2.2.1), .int ((f_X2_breakBlock Wf Yf pl_j162 dm da 2 lf).2.2.2.2.2)])), (dw, .inl (g.2.2.1, 100, .inl ((f_X2_breakBlock Wf Yf pl_j162 dm da 2 lf).2.1))), (dy, .inl (g.2.2.1, 100, .inl ((f_X2_breakBlock Wf Yf pl_j162 dm da 2 lf).2.2.1))), (c, .inr (3, [.ref ca, .int cm])), (ca, .inl (g.2.1, 4096, .inl Cf)), (b, .inr (0, [.ref br, .int z])), (br, .inr (3, [.ref ba, .int m])), (ba, .inl (g.2.1, 4096, .inl F))]) C dX2_nextBit_174 (c_X2_breakBlock (zl X) g e b d c dw dy ca br ba Wf Yf Cf F rp hf pl_j162 bg lo fp fb dm da cm z m 2 lf hd) gX2_nextBit_X2_breakBlock rfl ⟨rfl, rfl⟩ (by decide +kernel) (by decide) (by decide) rfl rfl rfl rfl (Nat.le_of_ble_eq_true rfl) rfl rfl ⟨rfl, rfl, rfl⟩ (by decide) rfl ?_
      generalize hT4 : (f_X2_breakBlock Wf Yf pl_j162 dm da 2 lf) = T4
      obtain ⟨rq4, Wfq4, Yfq4, plq4, dmq4, daq4⟩ := T4
      have k4_dm : zdok (0) dmq4 := zdok_X2_breakBlock hd hT4
      have he : (f_X2_nextBit Wf Yf F pl bg fp fb dm da z m) = (rq4, Wfq4, Yfq4, plq4, fp, fb, dmq4, daq4) := by rw [← hvj162]; simp only [jp162_X2_nextBit, hT1, if_pos c_2, hT4]
      exact hret _ _ _ _ dX2_nextBit_177 (by first | rw [he] | rfl) (by first | rw [he] | rfl)
  have join45 : ∀ (pl_j45 : Int32), jp45_X2_nextBit Wf Yf F bg fp fb dm da z m pl_j45 = (f_X2_nextBit Wf Yf F pl bg fp fb dm da z m) → zV X g 4 0 0 45 [(0, .ref e)] [] [(e, .inr (2, [.ref b, .ref d, .ref c, .int rp, .int hf, .int pl_j45, .int bg, .int lo, .int fp, .int fb])), (d, .inr (1, [.ref dw, .ref dy, .int dm, .int da])), (dw, .inl (g.2.2.1, 100, .inl Wf)), (dy, .inl (g.2.2.1, 100, .inl Yf)), (c, .inr (3, [.ref ca, .int cm])), (ca, .inl (g.2.1, 4096, .inl Cf)), (b, .inr (0, [.ref br, .int z])), (br, .inr (3, [.ref ba, .int m])), (ba, .inl (g.2.1, 4096, .inl F))] := by
    intro pl_j45  hvj45
    refine z_aload_n C dX2_nextBit_45 rfl 0 rfl ?_
    refine z_get (ci := 2) (v := .ref b) (Cn := RX2) (T := TX2) (N := 10) C dX2_nextBit_46 (fun w h => List.mem_cons_of_mem _ (List.mem_append_left _ (List.mem_append_left _ (List.mem_append_left _ (List.mem_append_right _ h))))) 0 rfl rfl 0 (by decide) (List.mem_of_getElem? (i := 1) rfl) rfl rfl ?_
    refine z_aload_n C dX2_nextBit_49 rfl 0 rfl ?_
    refine z_get (ci := 2) (v := .int pl_j45) (Cn := RX2) (T := TX2) (N := 10) C dX2_nextBit_50 (fun w h => List.mem_cons_of_mem _ (List.mem_append_left _ (List.mem_append_left _ (List.mem_append_left _ (List.mem_append_right _ h))))) 0 rfl rfl 5 (by decide) (List.mem_of_getElem? (i := 2) rfl) rfl rfl ?_
    refine z_callVi (n := 1) (isC := [6, 7, 8]) (isR := [0, 1, 2, 3, 4, 5]) (isP := [0, 1, 2, 3, 4, 5, 6, 7, 8]) (As := [.int pl_j45]) (rest := []) (wr := [(e, .inr (2, [.ref b, .ref d, .ref c, .int rp, .int hf, .int pl_j45, .int bg, .int lo, .int fp, .int fb])), (d, .inr (1, [.ref dw, .ref dy, .int dm, .int da])), (dw, .inl (g.2.2.1, 100, .inl Wf)), (dy, .inl (g.2.2.1, 100, .inl Yf)), (c, .inr (3, [.ref ca, .int cm])), (ca, .inl (g.2.1, 4096, .inl Cf))]) (ws2 := [(e, .inr (2, [.ref b, .ref d, .ref c, .int rp, .int hf, .int pl_j45, .int bg, .int lo, .int fp, .int fb])), (d, .inr (1, [.ref dw, .ref dy, .int dm, .int da])), (dw, .inl (g.2.2.1, 100, .inl Wf)), (dy, .inl (g.2.2.1, 100, .inl Yf)), (c, .inr (3, [.ref ca, .int cm])), (ca, .inl (g.2.1, 4096, .inl Cf)), (b, .inr (0, [.ref br, .int z])), (br, .inr (3, [.ref ba, .int m])), (ba, .inl (g.2.1, 4096, .inl F))]) C dX2_nextBit_53 (c_X0_leftInBlock (zl X) g b br ba F z m pl_j45 hz) gX2_nextBit_X0_leftInBlock rfl ⟨rfl, rfl⟩ (by decide +kernel) (by decide) (by decide) rfl rfl rfl rfl (Nat.le_of_ble_eq_true rfl) rfl rfl ⟨rfl, rfl, rfl⟩ (by decide) rfl ?_
    refine z_istore_n (lv' := [(1, .int ((zMin ((pl_j45 - (zMod pl_j45 z)) + z) m) - pl_j45)), (0, .ref e)]) C dX2_nextBit_56 rfl (by decide) rfl ?_
    refine z_iload_n C dX2_nextBit_57 rfl 0 rfl ?_
    refine z_bipush (v := 7) C dX2_nextBit_58 (by decide) ?_
    refine z_icmp_ge (tgt := 67) C dX2_nextBit_60 (by decide) (fun c_6 => ?_) (fun c_6 => ?_)
    · skip
      refine z_aload_n C dX2_nextBit_67 rfl 1 rfl ?_
      refine z_get (ci := 2) (v := .ref b) (Cn := RX2) (T := TX2) (N := 10) C dX2_nextBit_68 (fun w h => List.mem_cons_of_mem _ (List.mem_append_left _ (List.mem_append_left _ (List.mem_append_left _ (List.mem_append_right _ h))))) 0 rfl rfl 0 (by decide) (List.mem_of_getElem? (i := 1) rfl) rfl rfl ?_
      refine z_callVr (n := 0) (isC := [6, 7, 8]) (isR := [0, 1, 2, 3, 4, 5]) (isP := [0, 1, 2, 3, 4, 5, 6, 7, 8]) (As := []) (rest := []) (wr := [(e, .inr (2, [.ref b, .ref d, .ref c, .int rp, .int hf, .int pl_j45, .int bg, .int lo, .int fp, .int fb])), (d, .inr (1, [.ref dw, .ref dy, .int dm, .int da])), (dw, .inl (g.2.2.1, 100, .inl Wf)), (dy, .inl (g.2.2.1, 100, .inl Yf)), (c, .inr (3, [.ref ca, .int cm])), (ca, .inl (g.2.1, 4096, .inl Cf))]) (ws2 := [(e, .inr (2, [.ref b, .ref d, .ref c, .int rp, .int hf, .int pl_j45, .int bg, .int lo, .int fp, .int fb])), (d, .inr (1, [.ref dw, .ref dy, .int dm, .int da])), (dw, .inl (g.2.2.1, 100, .inl Wf)), (dy, .inl (g.2.2.1, 100, .inl Yf)), (c, .inr (3, [.ref ca, .int cm])), (ca, .inl (g.2.1, 4096, .inl Cf)), (b, .inr (0, [.ref br, .int z])), (br, .inr (3, [.ref ba, .int m])), (ba, .inl (g.2.1, 4096, .inl F))]) C dX2_nextBit_71 (c_X0_bytes (zl X) g b br ba F z m) gX2_nextBit_X0_bytes rfl ⟨rfl, rfl⟩ (by decide +kernel) (by decide) (by decide) rfl rfl rfl rfl (Nat.le_of_ble_eq_true rfl) rfl rfl ⟨rfl, rfl, rfl⟩ (by decide) rfl ?_
      refine z_aload_n C dX2_nextBit_74 rfl 1 rfl ?_
      refine z_get (ci := 2) (v := .int pl_j45) (Cn := RX2) (T := TX2) (N := 10) C dX2_nextBit_75 (fun w h => List.mem_cons_of_mem _ (List.mem_append_left _ (List.mem_append_left _ (List.mem_append_left _ (List.mem_append_right _ h))))) 0 rfl rfl 5 (by decide) (List.mem_of_getElem? (i := 2) rfl) rfl rfl ?_
      refine z_iconst (v := 4) C dX2_nextBit_78 (by decide) ?_
      refine z_iadd C dX2_nextBit_79 ?_
      refine z_iconst (v := 2) C dX2_nextBit_80 (by decide) ?_
      refine z_callVi (n := 2) (isC := [7, 8]) (isR := [0, 1, 2, 3, 4, 5, 6]) (isP := [0, 1, 2, 3, 4, 5, 6, 7, 8]) (As := [.int (pl_j45 + 4), .int 2]) (rest := []) (wr := [(e, .inr (2, [.ref b, .ref d, .ref c, .int rp, .int hf, .int pl_j45, .int bg, .int lo, .int fp, .int fb])), (d, .inr (1, [.ref dw, .ref dy, .int dm, .int da])), (dw, .inl (g.2.2.1, 100, .inl Wf)), (dy, .inl (g.2.2.1, 100, .inl Yf)), (c, .inr (3, [.ref ca, .int cm])), (ca, .inl (g.2.1, 4096, .inl Cf)), (b, .inr (0, [.ref br, .int z]))]) (ws2 := [(e, .inr (2, [.ref b, .ref d, .ref c, .int rp, .int hf, .int pl_j45, .int bg, .int lo, .int fp, .int fb])), (d, .inr (1, [.ref dw, .ref dy, .int dm, .int da])), (dw, .inl (g.2.2.1, 100, .inl Wf)), (dy, .inl (g.2.2.1, 100, .inl Yf)), (c, .inr (3, [.ref ca, .int cm])), (ca, .inl (g.2.1, 4096, .inl Cf)), (b, .inr (0, [.ref br, .int z])), (br, .inr (3, [.ref ba, .int m])), (ba, .inl (g.2.1, 4096, .inl F))]) C dX2_nextBit_81 (c_X3_numberLowestFirst (zl X) g br ba 4096 F m (pl_j45 + 4) 2 hm) gX2_nextBit_X3_numberLowestFirst rfl ⟨rfl, rfl⟩ (by decide +kernel) (by decide) (by decide) rfl rfl rfl rfl (Nat.le_of_ble_eq_true rfl) rfl rfl ⟨rfl, rfl, rfl⟩ (by decide) rfl ?_
      generalize hT8 : (f_X3_numberLowestFirst F m (pl_j45 + 4) 2) = rq8
      refine z_istore_n (lv' := [(2, .int rq8), (1, .int ((zMin ((pl_j45 - (zMod pl_j45 z)) + z) m) - pl_j45)), (0, .ref e)]) C dX2_nextBit_84 rfl (by decide) rfl ?_
      refine z_aload_n C dX2_nextBit_85 rfl 2 rfl ?_
      refine z_get (ci := 2) (v := .ref b) (Cn := RX2) (T := TX2) (N := 10) C dX2_nextBit_86 (fun w h => List.mem_cons_of_mem _ (List.mem_append_left _ (List.mem_append_left _ (List.mem_append_left _ (List.mem_append_right _ h))))) 0 rfl rfl 0 (by decide) (List.mem_of_getElem? (i := 1) rfl) rfl rfl ?_
      refine z_callVr (n := 0) (isC := [6, 7, 8]) (isR := [0, 1, 2, 3, 4, 5]) (isP := [0, 1, 2, 3, 4, 5, 6, 7, 8]) (As := []) (rest := []) (wr := [(e, .inr (2, [.ref b, .ref d, .ref c, .int rp, .int hf, .int pl_j45, .int bg, .int lo, .int fp, .int fb])), (d, .inr (1, [.ref dw, .ref dy, .int dm, .int da])), (dw, .inl (g.2.2.1, 100, .inl Wf)), (dy, .inl (g.2.2.1, 100, .inl Yf)), (c, .inr (3, [.ref ca, .int cm])), (ca, .inl (g.2.1, 4096, .inl Cf))]) (ws2 := [(e, .inr (2, [.ref b, .ref d, .ref c, .int rp, .int hf, .int pl_j45, .int bg, .int lo, .int fp, .int fb])), (d, .inr (1, [.ref dw, .ref dy, .int dm, .int da])), (dw, .inl (g.2.2.1, 100, .inl Wf)), (dy, .inl (g.2.2.1, 100, .inl Yf)), (c, .inr (3, [.ref ca, .int cm])), (ca, .inl (g.2.1, 4096, .inl Cf)), (b, .inr (0, [.ref br, .int z])), (br, .inr (3, [.ref ba, .int m])), (ba, .inl (g.2.1, 4096, .inl F))]) C dX2_nextBit_89 (c_X0_bytes (zl X) g b br ba F z m) gX2_nextBit_X0_bytes rfl ⟨rfl, rfl⟩ (by decide +kernel) (by decide) (by decide) rfl rfl rfl rfl (Nat.le_of_ble_eq_true rfl) rfl rfl ⟨rfl, rfl, rfl⟩ (by decide) rfl ?_
      refine z_aload_n C dX2_nextBit_92 rfl 2 rfl ?_
      refine z_get (ci := 2) (v := .int pl_j45) (Cn := RX2) (T := TX2) (N := 10) C dX2_nextBit_93 (fun w h => List.mem_cons_of_mem _ (List.mem_append_left _ (List.mem_append_left _ (List.mem_append_left _ (List.mem_append_right _ h))))) 0 rfl rfl 5 (by decide) (List.mem_of_getElem? (i := 2) rfl) rfl rfl ?_
      refine z_bipush (v := 7) C dX2_nextBit_96 (by decide) ?_
      refine z_iadd C dX2_nextBit_98 ?_
      refine z_iconst (v := 1) C dX2_nextBit_99 (by decide) ?_
      refine z_isub C dX2_nextBit_100 ?_
      refine z_callVi (n := 1) (isC := [7, 8]) (isR := [0, 1, 2, 3, 4, 5, 6]) (isP := [0, 1, 2, 3, 4, 5, 6, 7, 8]) (As := [.int ((pl_j45 + 7) - 1)]) (rest := []) (wr := [(e, .inr (2, [.ref b, .ref d, .ref c, .int rp, .int hf, .int pl_j45, .int bg, .int lo, .int fp, .int fb])), (d, .inr (1, [.ref dw, .ref dy, .int dm, .int da])), (dw, .inl (g.2.2.1, 100, .inl Wf)), (dy, .inl (g.2.2.1, 100, .inl Yf)), (c, .inr (3, [.ref ca, .int cm])), (ca, .inl (g.2.1, 4096, .inl Cf)), (b, .inr (0, [.ref br, .int z]))]) (ws2 := [(e, .inr (2, [.ref b, .ref d, .ref c, .int rp, .int hf, .int pl_j45, .int bg, .int lo, .int fp, .int fb])), (d, .inr (1, [.ref dw, .ref dy, .int dm, .int da])), (dw, .inl (g.2.2.1, 100, .inl Wf)), (dy, .inl (g.2.2.1, 100, .inl Yf)), (c, .inr (3, [.ref ca, .int cm])), (ca, .inl (g.2.1, 4096, .inl Cf)), (b, .inr (0, [.ref br, .int z])), (br, .inr (3, [.ref ba, .int m])), (ba, .inl (g.2.1, 4096, .inl F))]) C dX2_nextBit_101 (c_X3_at (zl X) g br ba 4096 F m ((pl_j45 + 7) - 1) hm) gX2_nextBit_X3_at rfl ⟨rfl, rfl⟩ (by decide +kernel) (by decide) (by decide) rfl rfl rfl rfl (Nat.le_of_ble_eq_true rfl) rfl rfl ⟨rfl, rfl, rfl⟩ (by decide) rfl ?_
      generalize hT10 : (f_X3_at F m ((pl_j45 + 7) - 1)) = rq10
      refine z_istore_n (lv' := [(3, .int rq10), (2, .int rq8), (1, .int ((zMin ((pl_j45 - (zMod pl_j45 z)) + z) m) - pl_j45)), (0, .ref e)]) C dX2_nextBit_104 rfl (by decide) rfl ?_
      refine z_iload_n C dX2_nextBit_105 rfl 1 rfl ?_
      refine z_iload_n C dX2_nextBit_106 rfl 2 rfl ?_
      refine z_bipush (v := 7) C dX2_nextBit_107 (by decide) ?_
      refine z_isub C dX2_nextBit_109 ?_
      refine z_icmp_le (tgt := 140) C dX2_nextBit_110 (by decide) (fun c_11 => ?_) (fun c_11 => ?_)
      · skip
        refine z_iload_n C dX2_nextBit_140 rfl 0 rfl ?_
        refine z_if_ne (tgt := 162) C dX2_nextBit_141 (by decide) (fun c_12 => ?_) (fun c_12 => ?_)
        · skip
          exact z_lv [3, 2, 1, 0] rfl (join162 ((zMin ((pl_j45 - (zMod pl_j45 z)) + z) m) - pl_j45) rq8 rq10 pl_j45  (by rw [← hvj45]; simp only [jp45_X2_nextBit, if_pos c_6, hT8, hT10, if_pos c_11, if_neg c_12]))
        · skip
          refine z_iload_n C dX2_nextBit_144 rfl 1 rfl ?_
          refine z_if_ne (tgt := 162) C dX2_nextBit_145 (by decide) (fun c_13 => ?_) (fun c_13 => ?_)
          · skip
            exact z_lv [3, 2, 1, 0] rfl (join162 ((zMin ((pl_j45 - (zMod pl_j45 z)) + z) m) - pl_j45) rq8 rq10 pl_j45  (by rw [← hvj45]; simp only [jp45_X2_nextBit, if_pos c_6, hT8, hT10, if_pos c_11, if_pos c_12, if_neg c_13]))
          · skip
            refine z_aload_n C dX2_nextBit_148 rfl 3 rfl ?_
            refine z_dup C dX2_nextBit_149 rfl ?_
            refine z_get (ci := 2) (v := .int pl_j45) (Cn := RX2) (T := TX2) (N := 10) C dX2_nextBit_150 (fun w h => List.mem_cons_of_mem _ (List.mem_append_left _ (List.mem_append_left _ (List.mem_append_left _ (List.mem_append_right _ h))))) 0 rfl rfl 5 (by decide) (List.mem_of_getElem? (i := 2) rfl) rfl rfl ?_
            refine z_iload_n C dX2_nextBit_153 rfl 2 rfl ?_
            refine z_iadd C dX2_nextBit_154 ?_
            refine z_put (ci := 2) (v := .int (pl_j45 + ((zMin ((pl_j45 - (zMod pl_j45 z)) + z) m) - pl_j45))) (ty := .int) (Cn := RX2) (T := TX2) (N := 10) (ws' := [(e, .inr (2, [.ref b, .ref d, .ref c, .int rp, .int hf, .int (pl_j45 + ((zMin ((pl_j45 - (zMod pl_j45 z)) + z) m) - pl_j45)), .int bg, .int lo, .int fp, .int fb])), (d, .inr (1, [.ref dw, .ref dy, .int dm, .int da])), (dw, .inl (g.2.2.1, 100, .inl Wf)), (dy, .inl (g.2.2.1, 100, .inl Yf)), (c, .inr (3, [.ref ca, .int cm])), (ca, .inl (g.2.1, 4096, .inl Cf)), (b, .inr (0, [.ref br, .int z])), (br, .inr (3, [.ref ba, .int m])), (ba, .inl (g.2.1, 4096, .inl F))]) C dX2_nextBit_155 (fun w h => List.mem_cons_of_mem _ (List.mem_append_left _ (List.mem_append_left _ (List.mem_append_left _ (List.mem_append_right _ h))))) tyX2 tyX2_ok nmX2 0 rfl rfl 5 (by decide) (List.mem_of_getElem? (i := 2) rfl) rfl rfl (by decide +kernel) rfl rfl (Nat.le_of_ble_eq_true rfl) rfl ?_
            refine z_sipush (v := 257) C dX2_nextBit_158 (by decide) ?_
            have he : (f_X2_nextBit Wf Yf F pl bg fp fb dm da z m) = (257, Wf, Yf, (pl_j45 + ((zMin ((pl_j45 - (zMod pl_j45 z)) + z) m) - pl_j45)), fp, fb, dm, da) := by rw [← hvj45]; simp only [jp45_X2_nextBit, if_pos c_6, hT8, hT10, if_pos c_11, if_pos c_12, if_pos c_13]
            exact hret _ _ _ _ dX2_nextBit_161 (by first | rw [he] | rfl) (by first | rw [he] | rfl)
      · skip
        refine z_aload_n C dX2_nextBit_113 rfl 3 rfl ?_
        refine z_get (ci := 2) (v := .ref b) (Cn := RX2) (T := TX2) (N := 10) C dX2_nextBit_114 (fun w h => List.mem_cons_of_mem _ (List.mem_append_left _ (List.mem_append_left _ (List.mem_append_left _ (List.mem_append_right _ h))))) 0 rfl rfl 0 (by decide) (List.mem_of_getElem? (i := 1) rfl) rfl rfl ?_
        refine z_aload_n C dX2_nextBit_117 rfl 3 rfl ?_
        refine z_get (ci := 2) (v := .int pl_j45) (Cn := RX2) (T := TX2) (N := 10) C dX2_nextBit_118 (fun w h => List.mem_cons_of_mem _ (List.mem_append_left _ (List.mem_append_left _ (List.mem_append_left _ (List.mem_append_right _ h))))) 0 rfl rfl 5 (by decide) (List.mem_of_getElem? (i := 2) rfl) rfl rfl ?_
        refine z_callVi (n := 1) (isC := [6, 7, 8]) (isR := [0, 1, 2, 3, 4, 5]) (isP := [0, 1, 2, 3, 4, 5, 6, 7, 8]) (As := [.int pl_j45]) (rest := []) (wr := [(e, .inr (2, [.ref b, .ref d, .ref c, .int rp, .int hf, .int pl_j45, .int bg, .int lo, .int fp, .int fb])), (d, .inr (1, [.ref dw, .ref dy, .int dm, .int da])), (dw, .inl (g.2.2.1, 100, .inl Wf)), (dy, .inl (g.2.2.1, 100, .inl Yf)), (c, .inr (3, [.ref ca, .int cm])), (ca, .inl (g.2.1, 4096, .inl Cf))]) (ws2 := [(e, .inr (2, [.ref b, .ref d, .ref c, .int rp, .int hf, .int pl_j45, .int bg, .int lo, .int fp, .int fb])), (d, .inr (1, [.ref dw, .ref dy, .int dm, .int da])), (dw, .inl (g.2.2.1, 100, .inl Wf)), (dy, .inl (g.2.2.1, 100, .inl Yf)), (c, .inr (3, [.ref ca, .int cm])), (ca, .inl (g.2.1, 4096, .inl Cf)), (b, .inr (0, [.ref br, .int z])), (br, .inr (3, [.ref ba, .int m])), (ba, .inl (g.2.1, 4096, .inl F))]) C dX2_nextBit_121 (c_X0_isWhole (zl X) g b br ba F z m pl_j45 hz) gX2_nextBit_X0_isWhole rfl ⟨rfl, rfl⟩ (by decide +kernel) (by decide) (by decide) rfl rfl rfl rfl (Nat.le_of_ble_eq_true rfl) rfl rfl ⟨rfl, rfl, rfl⟩ (by decide) rfl ?_
        generalize hT14 : (f_X0_isWhole z m pl_j45) = rq14
        refine z_if_eq (tgt := 136) C dX2_nextBit_124 (by decide) (fun c_15 => ?_) (fun c_15 => ?_)
        · skip
          refine z_sipush (v := 256) C dX2_nextBit_136 (by decide) ?_
          have he : (f_X2_nextBit Wf Yf F pl bg fp fb dm da z m) = (256, Wf, Yf, pl_j45, fp, fb, dm, da) := by rw [← hvj45]; simp only [jp45_X2_nextBit, if_pos c_6, hT8, hT10, if_neg c_11, hT14, if_pos c_15]
          exact hret _ _ _ _ dX2_nextBit_139 (by first | rw [he] | rfl) (by first | rw [he] | rfl)
        · skip
          refine z_aload_n C dX2_nextBit_127 rfl 3 rfl ?_
          refine z_iconst (v := 1) C dX2_nextBit_128 (by decide) ?_
          refine z_iload_n C dX2_nextBit_129 rfl 2 rfl ?_
          refine z_callVi (n := 2) (isC := [0, 1, 2, 3, 4, 5, 6, 7, 8]) (isR := []) (isP := [0, 1, 2, 3, 4, 5, 6, 7, 8]) (As := [.int 1, .int ((zMin ((pl_j45 - (zMod pl_j45 z)) + z) m) - pl_j45)]) (rest := []) (wr := []) (ws2 := [(e, .inr (2, [.ref b, .ref d, .ref c, .int rp, .int hf, .int ((f_X2_breakBlock Wf Yf pl_j45 dm da 1 ((zMin ((pl_j45 - (zMod pl_j45 z)) + z) m) - pl_j45)).2.2.2.1), .int bg, .int lo, .int fp, .int fb])), (d, .inr (1, [.ref dw, .ref dy, .int ((f_X2_breakBlock Wf Yf pl_j45 dm da 1 ((zMin ((pl_j45 - (zMod pl_j45 z)) + z) m) - pl_j45)).2.2.2.2.1), .int ((f_X2_breakBlock Wf Yf pl_j45 dm da 1 ((zMin ((pl_j45 - (zMod pl_j45 z)) + z) m) - pl_j45)).2.2.2.2.2)])), (dw, .inl (g.2.2.1, 100, .inl ((f_X2_breakBlock Wf Yf pl_j45 dm da 1 ((zMin ((pl_j45 - (zMod pl_j45 z)) + z) m) - pl_j45)).2.1))), (dy, .inl (g.2.2.1, 100, .inl ((f_X2_breakBlock Wf Yf pl_j45 dm da 1 ((zMin ((pl_j45 - (zMod pl_j45 z)) + z) m) - pl_j45)).2.2.1))), (c, .inr (3, [.ref ca, .int cm])), (ca, .inl (g.2.1, 4096, .inl Cf)), (b, .inr (0, [.ref br, .int z])), (br, .inr (3, [.ref ba, .int m])), (ba, .inl (g.2.1, 4096, .inl F))]) C dX2_nextBit_130 (c_X2_breakBlock (zl X) g e b d c dw dy ca br ba Wf Yf Cf F rp hf pl_j45 bg lo fp fb dm da cm z m 1 ((zMin ((pl_j45 - (zMod pl_j45 z)) + z) m) - pl_j45) hd) gX2_nextBit_X2_breakBlock rfl ⟨rfl, rfl⟩ (by decide +kernel) (by decide) (by decide) rfl rfl rfl rfl (Nat.le_of_ble_eq_true rfl) rfl rfl ⟨rfl, rfl, rfl⟩ (by decide) rfl ?_
          generalize hT16 : (f_X2_breakBlock Wf Yf pl_j45 dm da 1 ((zMin ((pl_j45 - (zMod pl_j45 z)) + z) m) - pl_j45)) = T16
          obtain ⟨rq16, Wfq16, Yfq16, plq16, dmq16, daq16⟩ := T16
          have k16_dm : zdok (0) dmq16 := zdok_X2_breakBlock hd hT16
          refine z_goto (tgt := 139) C dX2_nextBit_133 (by decide) ?_
          have he : (f_X2_nextBit Wf Yf F pl bg fp fb dm da z m) = (rq16, Wfq16, Yfq16, plq16, fp, fb, dmq16, daq16) := by rw [← hvj45]; simp only [jp45_X2_nextBit, if_pos c_6, hT8, hT10, if_neg c_11, hT14, if_neg c_15, hT16]
          exact hret _ _ _ _ dX2_nextBit_139 (by first | rw [he] | rfl) (by first | rw [he] | rfl)
    · skip
      refine z_sipush (v := 256) C dX2_nextBit_63 (by decide) ?_
      have he : (f_X2_nextBit Wf Yf F pl bg fp fb dm da z m) = (256, Wf, Yf, pl_j45, fp, fb, dm, da) := by rw [← hvj45]; simp only [jp45_X2_nextBit, if_neg c_6]
      exact hret _ _ _ _ dX2_nextBit_66 (by first | rw [he] | rfl) (by first | rw [he] | rfl)
  refine z_aload_n C dX2_nextBit_0 rfl 0 rfl ?_
  refine z_get (ci := 2) (v := .ref b) (Cn := RX2) (T := TX2) (N := 10) C dX2_nextBit_1 (fun w h => List.mem_cons_of_mem _ (List.mem_append_left _ (List.mem_append_left _ (List.mem_append_left _ (List.mem_append_right _ h))))) 0 rfl rfl 0 (by decide) (List.mem_of_getElem? (i := 1) rfl) rfl rfl ?_
  refine z_aload_n C dX2_nextBit_4 rfl 0 rfl ?_
  refine z_get (ci := 2) (v := .int pl) (Cn := RX2) (T := TX2) (N := 10) C dX2_nextBit_5 (fun w h => List.mem_cons_of_mem _ (List.mem_append_left _ (List.mem_append_left _ (List.mem_append_left _ (List.mem_append_right _ h))))) 0 rfl rfl 5 (by decide) (List.mem_of_getElem? (i := 2) rfl) rfl rfl ?_
  refine z_callVi (n := 1) (isC := [6, 7, 8]) (isR := [0, 1, 2, 3, 4, 5]) (isP := [0, 1, 2, 3, 4, 5, 6, 7, 8]) (As := [.int pl]) (rest := []) (wr := [(e, .inr (2, [.ref b, .ref d, .ref c, .int rp, .int hf, .int pl, .int bg, .int lo, .int fp, .int fb])), (d, .inr (1, [.ref dw, .ref dy, .int dm, .int da])), (dw, .inl (g.2.2.1, 100, .inl Wf)), (dy, .inl (g.2.2.1, 100, .inl Yf)), (c, .inr (3, [.ref ca, .int cm])), (ca, .inl (g.2.1, 4096, .inl Cf))]) (ws2 := [(e, .inr (2, [.ref b, .ref d, .ref c, .int rp, .int hf, .int pl, .int bg, .int lo, .int fp, .int fb])), (d, .inr (1, [.ref dw, .ref dy, .int dm, .int da])), (dw, .inl (g.2.2.1, 100, .inl Wf)), (dy, .inl (g.2.2.1, 100, .inl Yf)), (c, .inr (3, [.ref ca, .int cm])), (ca, .inl (g.2.1, 4096, .inl Cf)), (b, .inr (0, [.ref br, .int z])), (br, .inr (3, [.ref ba, .int m])), (ba, .inl (g.2.1, 4096, .inl F))]) C dX2_nextBit_8 (c_X0_leftInBlock (zl X) g b br ba F z m pl hz) gX2_nextBit_X0_leftInBlock rfl ⟨rfl, rfl⟩ (by decide +kernel) (by decide) (by decide) rfl rfl rfl rfl (Nat.le_of_ble_eq_true rfl) rfl rfl ⟨rfl, rfl, rfl⟩ (by decide) rfl ?_
  refine z_bipush (v := 7) C dX2_nextBit_11 (by decide) ?_
  refine z_icmp_ge (tgt := 45) C dX2_nextBit_13 (by decide) (fun c_18 => ?_) (fun c_18 => ?_)
  · skip
    exact z_lv [0] rfl (join45 pl  (by simp only [f_X2_nextBit, if_pos c_18]))
  · skip
    refine z_aload_n C dX2_nextBit_16 rfl 0 rfl ?_
    refine z_get (ci := 2) (v := .ref b) (Cn := RX2) (T := TX2) (N := 10) C dX2_nextBit_17 (fun w h => List.mem_cons_of_mem _ (List.mem_append_left _ (List.mem_append_left _ (List.mem_append_left _ (List.mem_append_right _ h))))) 0 rfl rfl 0 (by decide) (List.mem_of_getElem? (i := 1) rfl) rfl rfl ?_
    refine z_aload_n C dX2_nextBit_20 rfl 0 rfl ?_
    refine z_get (ci := 2) (v := .int pl) (Cn := RX2) (T := TX2) (N := 10) C dX2_nextBit_21 (fun w h => List.mem_cons_of_mem _ (List.mem_append_left _ (List.mem_append_left _ (List.mem_append_left _ (List.mem_append_right _ h))))) 0 rfl rfl 5 (by decide) (List.mem_of_getElem? (i := 2) rfl) rfl rfl ?_
    refine z_callVi (n := 1) (isC := [6, 7, 8]) (isR := [0, 1, 2, 3, 4, 5]) (isP := [0, 1, 2, 3, 4, 5, 6, 7, 8]) (As := [.int pl]) (rest := []) (wr := [(e, .inr (2, [.ref b, .ref d, .ref c, .int rp, .int hf, .int pl, .int bg, .int lo, .int fp, .int fb])), (d, .inr (1, [.ref dw, .ref dy, .int dm, .int da])), (dw, .inl (g.2.2.1, 100, .inl Wf)), (dy, .inl (g.2.2.1, 100, .inl Yf)), (c, .inr (3, [.ref ca, .int cm])), (ca, .inl (g.2.1, 4096, .inl Cf))]) (ws2 := [(e, .inr (2, [.ref b, .ref d, .ref c, .int rp, .int hf, .int pl, .int bg, .int lo, .int fp, .int fb])), (d, .inr (1, [.ref dw, .ref dy, .int dm, .int da])), (dw, .inl (g.2.2.1, 100, .inl Wf)), (dy, .inl (g.2.2.1, 100, .inl Yf)), (c, .inr (3, [.ref ca, .int cm])), (ca, .inl (g.2.1, 4096, .inl Cf)), (b, .inr (0, [.ref br, .int z])), (br, .inr (3, [.ref ba, .int m])), (ba, .inl (g.2.1, 4096, .inl F))]) C dX2_nextBit_24 (c_X0_isWhole (zl X) g b br ba F z m pl hz) gX2_nextBit_X0_isWhole rfl ⟨rfl, rfl⟩ (by decide +kernel) (by decide) (by decide) rfl rfl rfl rfl (Nat.le_of_ble_eq_true rfl) rfl rfl ⟨rfl, rfl, rfl⟩ (by decide) rfl ?_
    generalize hT19 : (f_X0_isWhole z m pl) = rq19
    refine z_if_eq (tgt := 45) C dX2_nextBit_27 (by decide) (fun c_20 => ?_) (fun c_20 => ?_)
    · skip
      exact z_lv [0] rfl (join45 pl  (by simp only [f_X2_nextBit, if_neg c_18, hT19, if_pos c_20]))
    · skip
      refine z_aload_n C dX2_nextBit_30 rfl 0 rfl ?_
      refine z_aload_n C dX2_nextBit_31 rfl 0 rfl ?_
      refine z_get (ci := 2) (v := .ref b) (Cn := RX2) (T := TX2) (N := 10) C dX2_nextBit_32 (fun w h => List.mem_cons_of_mem _ (List.mem_append_left _ (List.mem_append_left _ (List.mem_append_left _ (List.mem_append_right _ h))))) 0 rfl rfl 0 (by decide) (List.mem_of_getElem? (i := 1) rfl) rfl rfl ?_
      refine z_aload_n C dX2_nextBit_35 rfl 0 rfl ?_
      refine z_get (ci := 2) (v := .int pl) (Cn := RX2) (T := TX2) (N := 10) C dX2_nextBit_36 (fun w h => List.mem_cons_of_mem _ (List.mem_append_left _ (List.mem_append_left _ (List.mem_append_left _ (List.mem_append_right _ h))))) 0 rfl rfl 5 (by decide) (List.mem_of_getElem? (i := 2) rfl) rfl rfl ?_
      refine z_callVi (n := 1) (isC := [6, 7, 8]) (isR := [0, 1, 2, 3, 4, 5]) (isP := [0, 1, 2, 3, 4, 5, 6, 7, 8]) (As := [.int pl]) (rest := [.ref e]) (wr := [(e, .inr (2, [.ref b, .ref d, .ref c, .int rp, .int hf, .int pl, .int bg, .int lo, .int fp, .int fb])), (d, .inr (1, [.ref dw, .ref dy, .int dm, .int da])), (dw, .inl (g.2.2.1, 100, .inl Wf)), (dy, .inl (g.2.2.1, 100, .inl Yf)), (c, .inr (3, [.ref ca, .int cm])), (ca, .inl (g.2.1, 4096, .inl Cf))]) (ws2 := [(e, .inr (2, [.ref b, .ref d, .ref c, .int rp, .int hf, .int pl, .int bg, .int lo, .int fp, .int fb])), (d, .inr (1, [.ref dw, .ref dy, .int dm, .int da])), (dw, .inl (g.2.2.1, 100, .inl Wf)), (dy, .inl (g.2.2.1, 100, .inl Yf)), (c, .inr (3, [.ref ca, .int cm])), (ca, .inl (g.2.1, 4096, .inl Cf)), (b, .inr (0, [.ref br, .int z])), (br, .inr (3, [.ref ba, .int m])), (ba, .inl (g.2.1, 4096, .inl F))]) C dX2_nextBit_39 (c_X0_endOfBlock (zl X) g b br ba F z m pl hz) gX2_nextBit_X0_endOfBlock rfl ⟨rfl, rfl⟩ (by decide +kernel) (by decide) (by decide) rfl rfl rfl rfl (Nat.le_of_ble_eq_true rfl) rfl rfl ⟨rfl, rfl, rfl⟩ (by decide) rfl ?_
      refine z_put (ci := 2) (v := .int ((pl - (zMod pl z)) + z)) (ty := .int) (Cn := RX2) (T := TX2) (N := 10) (ws' := [(e, .inr (2, [.ref b, .ref d, .ref c, .int rp, .int hf, .int ((pl - (zMod pl z)) + z), .int bg, .int lo, .int fp, .int fb])), (d, .inr (1, [.ref dw, .ref dy, .int dm, .int da])), (dw, .inl (g.2.2.1, 100, .inl Wf)), (dy, .inl (g.2.2.1, 100, .inl Yf)), (c, .inr (3, [.ref ca, .int cm])), (ca, .inl (g.2.1, 4096, .inl Cf)), (b, .inr (0, [.ref br, .int z])), (br, .inr (3, [.ref ba, .int m])), (ba, .inl (g.2.1, 4096, .inl F))]) C dX2_nextBit_42 (fun w h => List.mem_cons_of_mem _ (List.mem_append_left _ (List.mem_append_left _ (List.mem_append_left _ (List.mem_append_right _ h))))) tyX2 tyX2_ok nmX2 0 rfl rfl 5 (by decide) (List.mem_of_getElem? (i := 2) rfl) rfl rfl (by decide +kernel) rfl rfl (Nat.le_of_ble_eq_true rfl) rfl ?_
      exact z_lv [0] rfl (join45 ((pl - (zMod pl z)) + z)  (by simp only [f_X2_nextBit, if_neg c_18, hT19, if_neg c_20]))
end
