/-! ===== rows for the law itself ===== -/
/-- the script, and what is given for throws -/
def zSc (X : zX) (b L : Nat) (xs : Nat → Int32) : Prop := match X with
  | (p, l, e, R, s, m, args, below, meth, c, A, Q) => (va_X b L xs s s.heap ∧ b < s.heap.size ∧ ¬ A b) ∧ zYE A s s.heap ∧ zNC s
theorem zlcmp {x y : Int64} (h : x = y) : lg_cmp x y = 0 := by
  subst h
  simp [lg_cmp]
theorem zsl_in {i L : Nat} {k : Int32} (h : i + 6 ≤ L) (hL : L ≤ 4096) (h0 : 0 ≤ k.toInt) (h5 : k.toInt ≤ 5) : vp_in (nI i + k) L := by
  have e := nI_toInt (n := i) (by omega)
  rw [vp_in_iff, zadd] <;> rw [e] <;> omega
theorem zsl_in0 {i L : Nat} (h : i + 6 ≤ L) (hL : L ≤ 4096) : vp_in (nI i) L := vp_in_nI (by omega) (by omega)
section
variable {X : zX} {g : zG} {nL : Nat} {cc : ByteArray} {own : String} {Ts : List Cond} {rm : Room} {cells slots pc : Nat} {lv : List (Nat × Value)} {st : List Value} {ws : va_W} {b L : Nat} {xs : Nat → Int32}
theorem z_sld (C : zC X g nL cc own Ts rm) (Sc : zSc X b L xs) {i : Int32} (d : decode cc pc = .ok (.iaload, 1)) (hin : vp_in i L) (kk : zV X g nL cells slots (pc + 1) lv (.int (xs i.toNatClampNeg) :: st) ws) : zV X g nL cells slots pc lv (.int i :: .ref b :: st) ws := by
  obtain ⟨p, l, e, R, s, m, args, below, meth, c, A, Q⟩ := X
  obtain ⟨hx, hb, hml, hown, hts, hK, hA, hR, hE, hlk⟩ := C
  obtain ⟨⟨s1, s2, s3⟩, -, -⟩ := Sc
  intro H locs ls hP hD hS hl
  exact va_sld hx hb s1 s2 s3 hS hin d (kk H locs ls hP hD hS hl)
theorem z_slen (C : zC X g nL cc own Ts rm) (Sc : zSc X b L xs) (d : decode cc pc = .ok (.arraylength, 1)) (kk : zV X g nL cells slots (pc + 1) lv (.int (nI L) :: st) ws) : zV X g nL cells slots pc lv (.ref b :: st) ws := by
  obtain ⟨p, l, e, R, s, m, args, below, meth, c, A, Q⟩ := X
  obtain ⟨hx, hb, hml, hown, hts, hK, hA, hR, hE, hlk⟩ := C
  obtain ⟨⟨s1, s2, s3⟩, -, -⟩ := Sc
  intro H locs ls hP hD hS hl
  exact va_slen hx hb s1 s2 s3 hS d (kk H locs ls hP hD hS hl)
variable {index maxL n : Nat} {y : MethodName} {bytes : ByteArray} {ret : Option FieldType} {Wd Wd' : List Cond} {rc : Room} {As rest : List Value} {wc wr : va_W} {hh : zHH} {Post : Int32 → va_W → Prop}
theorem z_callL (C : zC X g nL cc own Ts rm) (Sc : zSc X b L xs) (d : decode cc pc = .ok (.invokestatic index, 3)) (hM : zLI (zl X) y Wd rc g As wc Post) (hG : GoodIn Ts (va_wsS own index y Wd)) (hw : Wd = Cond.codeWith y bytes maxL ret hh :: Wd') (hrm : rc.cells = 1 ∧ rc.slots = 6) (hd : y.cls ≠ "java/lang/invoke/MethodHandle" ∧ y.cls ≠ "java/lang/invoke/VarHandle" ∧ (parseMethodDescriptor y.desc).map (fun d => d.parameters.length) = some n) (hR : rc.frames + 1 ≤ rm.frames ∧ 8 + (maxL + 11) + rc.locals ≤ rm.locals) (hfit : cells + 1 ≤ rm.cells ∧ slots + 6 ≤ rm.slots) (hst : st = As.reverse ++ rest) (hn : As.length = n) (hcat : (rest.map fun v => v.category).sum ≤ 8) (isC isR : List Nat) (hC : isC.map (fun i => ws[i]?) = wc.map some) (hRr : isR.map (fun i => ws[i]?) = wr.map some) (hnd : va_nd isC = true ∧ va_nd isR = true) (hdis : ∀ i ∈ isR, i ∉ isC) (k : ∀ (r : Int32) (u : va_W), Post r u → zV X g nL (cells + 1) (slots + 6) (pc + 3) lv (.int r :: rest) (wr ++ u)) : zV X g nL cells slots pc lv st ws := by
  obtain ⟨p, l, e, R, s, m, args, below, meth, c, A, Q⟩ := X
  obtain ⟨hx, hb, hml, hown, hts, hK, hA, hR9, hE, hlk⟩ := C
  subst hR9
  subst hst
  obtain ⟨-, hY, hN⟩ := Sc
  intro H locs ls hP hD hS hl
  have hC2 : isC.filterMap (fun i => ws[i]?) = wc := z_fm hC
  have hFc := va_free (wc := wc) hD hS hA isC hC
  refine va_calli (vx_runSW (As := As) (rest := rest) ⟨hx, hb, hml, hown, hts⟩ (hM H.size) (vx_cwSW n hts hG hw hrm.1 hrm.2 hd hR) ⟨zPreL.blind, fun U hU hW => ?_⟩ rfl hn hl.1 rfl (lv_room hcat) d hfit) hS (fun q _ h => hFc q h) hFc (fun r u t H1 locs ht hvm hw9 hB hz1 hk1 hS => ?_)
  · obtain ⟨h1, h2⟩ := z_preX (av := As) hK hA hE hY hP hD hS isC hnd.1 hC hC2 hU hW
    exact ⟨h1, h2, hN.1.moved hW.alike, hN.2.moved hW.alike⟩
  · obtain ⟨hP1, hD1⟩ := hB
    rw [ht] at hP1
    obtain ⟨hP, hD⟩ := va_join (wr := wr) hP hD isC isR hC hRr hnd.2 hdis hk1 hFc hP1 hD1
    exact k r u hw9 _ _ _ hP hD hS hl
end
