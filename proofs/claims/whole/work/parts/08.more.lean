/-! MORE ROWS: Object's constructor, casts, throws, renaming the top, the few rows that ArrayList wants. -/
section MORE
variable {p : Program} {l : Launch} {e : Env} {R : Room} {s : State} {m : MethodId} {args : Array Value} {below : List Frame} {meth : Method} {c : Code} {D : va_G} {cI cZ cO : ClassId} {A : Nat → Prop} {Q : State → Prop} {X : va_W} {nL : Nat} {S : PS} {cells slots pc : Nat} {lo : List (Option Value)} {st : List Value} {cc : ByteArray} {G : Nat → Nat}
theorem z_top {x y : Int32} (h : x = y) (kk : ZW p l e R s m args below meth c D cI cZ cO A Q X nL S cells slots pc lo (.int y :: st)) : ZW p l e R s m args below meth c D cI cZ cO A Q X nL S cells slots pc lo (.int x :: st) := h ▸ kk
theorem z_topl {x y : Int64} (h : x = y) (kk : ZW p l e R s m args below meth c D cI cZ cO A Q X nL S cells slots pc lo (.long y :: st)) : ZW p l e R s m args below meth c D cI cZ cO A Q X nL S cells slots pc lo (.long x :: st) := h ▸ kk
theorem z_objInit (h0 : ZC p s c cc nL D cI cZ cO A G) {own : String} (hown : s.vm.findClass own = some m.cls) {idx a : Nat} (hlink : (Cond.methodLink own idx Lib.objectInit).before args s = true) (hinst : (Cond.instanceMethod Lib.objectInit).before args s = true) (hcode : (Cond.code Lib.objectInit ⟨#[0xb1]⟩ 1 none).before args s = true)
    (hd : decode cc pc = .ok (.invokespecial idx, 3)) (hframes : 1 ≤ R.frames) (hlocals : (st.map fun v => v.category).sum + 12 ≤ R.locals) (kk : ZW p l e R s m args below meth c D cI cZ cO A Q X nL S cells slots (pc + 3) lo st) : ZW p l e R s m args below meth c D cI cZ cO A Q X nL S cells slots pc lo (.ref a :: st) := by
  intro H locs ls hP hD hS hl9
  exact W.objInit h0.1 h0.2.1 hown hlink hinst hcode rfl (by rw [h0.2.2.1]; exact hl9.1) rfl hd hframes (by show 2 * 0 + _ + 12 ≤ _; omega) (kk H locs ls hP hD hS hl9)
theorem z_cast (h0 : ZC p s c cc nL D cI cZ cO A G) {own C : String} {T9 : u_T} {N9 k ci index b : Nat} (hown : s.vm.findClass own = some m.cls) (hlink : (Cond.classLink own index C).before args s = true) (hk : kOk k ci) (hc : vwCl[ci]? = some (C, T9, N9)) (hb : isK S k b) (hd : decode cc pc = .ok (.checkcast index, 3))
    (kk : ZW p l e R s m args below meth c D cI cZ cO A Q X nL S cells slots (pc + 3) lo (.ref b :: st)) : ZW p l e R s m args below meth c D cI cZ cO A Q X nL S cells slots pc lo (.ref b :: st) := by
  intro H locs ls hP hD hS hl9
  exact va_castS h0.1 h0.2.1 hown hlink (h0.2.2.2.1.1 ci _ hc).2 (z_recv (X := X) h0 hk hc hb hP) hd (kk H locs ls hP hD hS hl9)
/-- throw new E("text") -/
theorem z_throw (h0 : ZC p s c cc nL D cI cZ cO A G) (hl : l.stackTraces = false) {own cls text : String} {ik is ic mc ms : Nat} {Qc : Array Value → State → Outcome → State → Prop} {xe : String → Prop} (hown : s.vm.findClass own = some m.cls) (hcls : Jvm.Bundle.fit cls = true)
    (hk : (Cond.classLink own ik cls).before args s = true) (hini : (Cond.initialized cls).before args s = true) (hstr : vk_R own is text (G (10 + is)) s) (hat : ∀ w ∈ vx_atS own ic cls ["java/lang/RuntimeException", "java/lang/Exception"], w.before args s = true)
    (hgood : ∀ w ∈ Cond.classLink own ik cls :: Cond.initialized cls :: vx_atS own ic cls ["java/lang/RuntimeException", "java/lang/Exception"], vx_ot w = true)
    (d0 : decode cc pc = .ok (.new ik, 3)) (d3 : decode cc (pc + 3) = .ok (.dup, 1)) (d4 : decode cc (pc + 4) = .ok (.ldc is, 2)) (d6 : decode cc (pc + 6) = .ok (.invokespecial ic, 3)) (d9 : decode cc (pc + 9) = .ok (.athrow, 1))
    (htab : ∀ x ∈ c.exceptionTable.toList, False) (hlocks : meth.locks = false) (hRframes : 5 < R.frames) (hRlocals : (st.map fun v => v.category).sum + 82 ≤ R.locals) (hRc : cells + 1 ≤ R.cells) (hRs : slots + 6 ≤ R.slots) (hcm : cells + 1 ≤ mc) (hsm : slots + 6 ≤ ms) (hxe : xe cls) :
    ZW p l e R s m args below meth c D cI cZ cO A (vx_MQ below Qc (vx_X (fun _ : Unit => True) (fun E _ t => xe E ∧ zB D cI cZ cO A S t) A) args s mc ms A) [] nL S cells slots pc lo st := by
  intro H locs ls hP hD hS hl9
  refine vx_throwS h0.1 h0.2.1 hl hown hcls (by decide +kernel) hk hini hstr hat hgood h0.2.2.2.2.2.2.2.2.1 h0.2.2.2.2.2.2.2.2.2.1 hS (by rw [h0.2.2.1]; exact hl9.1) d0 d3 d4 d6 d9 (fun x hx => (htab x hx).elim) hRframes (by show _ + (13 * (2 + 1) + 43) ≤ _; omega) hRc hRs hlocks (fun t hvm hz hk9 => ?_) hS.2.2 hcm hsm
  refine ⟨(), trivial, ⟨hxe, ?_, va_K.moved hvm h0.2.2.2.1, hD⟩, ⟨Nat.le_trans hS.1 hz, fun q h1 h2 => ?_⟩⟩
  · intro k q hq
    exact (hP k q hq).kept (hk9 _ (hP k q hq).lt)
  · rw [hk9 q (Nat.lt_of_lt_of_le h1 hS.1)]
    exact hS.2.1 q h1 h2
/-- ArrayList's empty array, by its static field -/
theorem z_empty (h0 : ZC p s c cc nL D cI cZ cO A G) {own : String} {index : Nat} (hown : s.vm.findClass own = some m.cls) (hlink : (Cond.fieldLink own index "java/util/ArrayList" "DEFAULTCAPACITY_EMPTY_ELEMENTDATA" "[Ljava/lang/Object;").before args s = true) (hd : decode cc pc = .ok (.getstatic index, 3))
    (kk : ZW p l e R s m args below meth c D cI cZ cO A Q X nL S cells slots (pc + 3) lo (.ref (G 0) :: st)) : ZW p l e R s m args below meth c D cI cZ cO A Q X nL S cells slots pc lo st := by
  intro H locs ls hP hD hS hl9
  exact va_gets h0.1 h0.2.1 h0.2.2.2.2.2.1 hS hown hlink (fun _ h => h) hd (kk H locs ls hP hD hS hl9)
/-- the empty array is none of the pool -/
theorem z_G0 (h0 : ZC p s c cc nL D cI cZ cO A G) (kk : G 0 ∉ pL S → ZW p l e R s m args below meth c D cI cZ cO A Q X nL S cells slots pc lo st) : ZW p l e R s m args below meth c D cI cZ cO A Q X nL S cells slots pc lo st := by
  intro H locs ls hP hD hS hl9
  refine kk (fun h => ?_) H locs ls hP hD hS hl9
  obtain ⟨q0, hq⟩ := va_pl_get (X := X) (f := pF cI cZ cO S) h
  obtain ⟨cell, -, -, -, -, -, -, hn⟩ := h0.2.2.2.2.2.2.1
  exact hn (hD.2 q0 _ hq)
theorem z_max (h0 : ZC p s c cc nL D cI cZ cO A G) {own : String} {index : Nat} (hown : s.vm.findClass own = some m.cls) (hlink : (Cond.methodLink own index Lib.Math.max.name).before args s = true) (hstat : (Cond.static Lib.Math.max.name).before args s = true) (hini : (Cond.initialized "java/lang/Math").before args s = true) (hcode : (Cond.code Lib.Math.max.name Lib.Math.max.code 2 (some .int)).before args s = true)
    (hframes : 1 ≤ R.frames) (hlocals : (st.map fun v => v.category).sum + 13 ≤ R.locals) (hc : cells ≤ R.cells) (hs : slots ≤ R.slots) {x y : Int32} (hd : decode cc pc = .ok (.invokestatic index, 3))
    (kk : ZW p l e R s m args below meth c D cI cZ cO A Q X nL S cells slots (pc + 3) lo (.int (if x < y then y else x) :: st)) : ZW p l e R s m args below meth c D cI cZ cO A Q X nL S cells slots pc lo (.int y :: .int x :: st) := by
  intro H locs ls hP hD hS hl9
  exact va_mmax h0.1 h0.2.1 (by rw [h0.2.2.1, hl9.1]) hown hlink hstat hini hcode hframes hlocals hc hs hd (kk H locs ls hP hD hS hl9)
theorem z_min (h0 : ZC p s c cc nL D cI cZ cO A G) {own : String} {index : Nat} (hown : s.vm.findClass own = some m.cls) (hlink : (Cond.methodLink own index Lib.Math.min.name).before args s = true) (hstat : (Cond.static Lib.Math.min.name).before args s = true) (hini : (Cond.initialized "java/lang/Math").before args s = true) (hcode : (Cond.code Lib.Math.min.name Lib.Math.min.code 2 (some .int)).before args s = true)
    (hframes : 1 ≤ R.frames) (hlocals : (st.map fun v => v.category).sum + 13 ≤ R.locals) (hc : cells ≤ R.cells) (hs : slots ≤ R.slots) {x y : Int32} (hd : decode cc pc = .ok (.invokestatic index, 3))
    (kk : ZW p l e R s m args below meth c D cI cZ cO A Q X nL S cells slots (pc + 3) lo (.int (if y < x then y else x) :: st)) : ZW p l e R s m args below meth c D cI cZ cO A Q X nL S cells slots pc lo (.int y :: .int x :: st) := by
  intro H locs ls hP hD hS hl9
  exact va_mmin h0.1 h0.2.1 (by rw [h0.2.2.1, hl9.1]) hown hlink hstat hini hcode hframes hlocals hc hs hd (kk H locs ls hP hD hS hl9)
/-- a new Object[] -/
theorem z_anew (h0 : ZC p s c cc nL D cI cZ cO A G) {own : String} {index N' : Nat} {n : Int32} (hown : s.vm.findClass own = some m.cls) (hclink : (Cond.classLink own index "java/lang/Object").before args s = true) (hn : n.toInt = (N' : Int)) (hb : N' ≤ 100000) (hcells : cells + 1 ≤ R.cells) (hslots : slots + N' ≤ R.slots) (hd : decode cc pc = .ok (.anewarray index, 3))
    (kk : ∀ q : Nat, q ∉ pL S → ZW p l e R s m args below meth c D cI cZ cO A Q X nL (sN S q 10 N') (cells + 1) (slots + N') (pc + 3) lo (.ref q :: st)) : ZW p l e R s m args below meth c D cI cZ cO A Q X nL S cells slots pc lo (.int n :: st) := by
  intro H locs ls hP hD hS hl9
  refine va_newq h0.1 h0.2.1 hown hclink h0.2.2.2.2.2.2.2.2.2.2.2.2.2.2.2 h0.2.2.2.1 hP hD hS h0.2.2.2.2.1 (n := n) (N' := N') (by rw [Int32.lt_iff_toInt_lt, Int32.toInt_zero]; omega) (zi_clamp hn) (by omega) hcells hslots hd (fun q cA H1 gK g1 g2 g3 => ?_)
  have hq : q ∉ pL S := va_pl_fresh2 g2
  have hcA : cA = cO := by
    have h1 := va_nmO (gK.2 3 (cA, .object "java/lang/Object") rfl).2 rfl
    have h2 := va_nmO (h0.2.2.2.1.2 2 (cO, .object "java/lang/Object") rfl).2 rfl
    exact Option.some.inj (h1.symm.trans h2)
  subst hcA
  have hx : pE cI cZ cA (sN S q 10 N') 10 q = .inl (cA, N', .inr (.inr (.inr (.inr (fun _ => none))))) := by simp [pE, sN, pN, pQ, va_up_self]
  rw [zN_eq hx hq] at g1 g2
  exact kk q hq H1 locs ls g1 g2 g3 hl9
/-- an object that stands in lists -/
def isOb (S : PS) (b : Nat) : Prop := ∃ k, (k = 1 ∨ k = 2 ∨ k = 3 ∨ k = 4) ∧ isK S k b
theorem z_any (h0 : ZC p s c cc nL D cI cZ cO A G) {H : Heap} {b : Nat} (hb : isOb S b) (hP : va_P D vwCl (X ++ zw cI cZ cO S) H) : va_Any "java/lang/Object" s H b := by
  obtain ⟨k, hk, hb⟩ := hb
  have go : ∀ (k ci : Nat) (C : String) (T9 : u_T) (N9 : Nat), kOk k ci → vwCl[ci]? = some (C, T9, N9) → C ∈ zOb → isK S k b → va_Any "java/lang/Object" s H b := by
    intro k ci C T9 N9 hk hc hC hb
    obtain ⟨fs, e1⟩ := hk cI cZ cO S b hb.2
    obtain ⟨q1, hq1⟩ := va_pl_get (X := X) (f := pF cI cZ cO S) hb.1
    rw [e1] at hq1
    exact va_rAny h0.2.2.2.1 hP hq1 hc (fun comp c0 g1 g2 => by
      obtain ⟨c3, c4, w1, w2, w3⟩ := Cond.castable_spec (h0.2.2.2.2.2.2.2.2.2.2.2.2.1 C hC)
      cases Option.some.inj (w1.symm.trans g2)
      cases Option.some.inj (w2.symm.trans g1)
      exact w3)
  rcases hk with rfl | rfl | rfl | rfl
  · exact go 1 2 RX1 TX1 3 kOk1 rfl (by decide +kernel) hb
  · exact go 2 3 RX2 TX2 5 kOk2 rfl (by decide +kernel) hb
  · exact go 3 4 RX3 TX3 7 kOk3 rfl (by decide +kernel) hb
  · exact go 4 5 RX4 TX4 5 kOk4 rfl (by decide +kernel) hb
/-- a reference into an Object[] -/
theorem z_astq (h0 : ZC p s c cc nL D cI cZ cO A G) {a j b : Nat} {i : Int32} (hb : isOb S b) (hd : decode cc pc = .ok (.aastore, 1)) (ha : isK S 10 a) (hi : i.toInt = (j : Int)) (hj : j < pN S a)
    (kk : ZW p l e R s m args below meth c D cI cZ cO A Q X nL (sQ S a j (some b)) cells slots (pc + 1) lo st) : ZW p l e R s m args below meth c D cI cZ cO A Q X nL S cells slots pc lo (.ref b :: .int i :: .ref a :: st) := by
  intro H locs ls hP hD hS hl9
  obtain ⟨q0, hq⟩ := va_pl_get (X := X) (f := pF cI cZ cO S) ha.1
  have heq : (X ++ zw cI cZ cO S).set q0 (a, .inl (cO, pN S a, .inr (.inr (.inr (.inr (va_up (pQ S a) j (some b))))))) = X ++ zw cI cZ cO (sQ S a j (some b)) := by
    rw [va_pl_set hD ha.1 hq]
    refine congrArg (fun w => X ++ w) (va_pl_congr (fun b' => ?_))
    by_cases hb' : b' = a
    · subst hb'
      rw [va_up_self, pF_10 (S := sQ S b' j (some b)) ha.2]
      exact congrArg (fun g => Sum.inl (cO, pN S b', Sum.inr (Sum.inr (Sum.inr (Sum.inr g))))) up2_va.symm
    · rw [va_up_ne _ _ hb', pF_sQ hb']
  rw [pF_10 ha.2] at hq
  refine va_astqM h0.1 h0.2.1 h0.2.2.2.1 hP hD hS q0 2 hq rfl (z_any h0 hb hP) (zi_in hi hj) hd (fun H1 locs1 g1 g2 g3 => ?_)
  rw [zi_clamp hi, heq] at g1 g2
  exact kk H1 locs1 ls g1 g2 g3 hl9
/-- null into an Object[] -/
theorem z_astN (h0 : ZC p s c cc nL D cI cZ cO A G) {a j : Nat} {i : Int32} (hd : decode cc pc = .ok (.aastore, 1)) (ha : isK S 10 a) (hi : i.toInt = (j : Int)) (hj : j < pN S a)
    (kk : ZW p l e R s m args below meth c D cI cZ cO A Q X nL (sQ S a j none) cells slots (pc + 1) lo st) : ZW p l e R s m args below meth c D cI cZ cO A Q X nL S cells slots pc lo (.null :: .int i :: .ref a :: st) := by
  intro H locs ls hP hD hS hl9
  obtain ⟨q0, hq⟩ := va_pl_get (X := X) (f := pF cI cZ cO S) ha.1
  have heq : (X ++ zw cI cZ cO S).set q0 (a, .inl (cO, pN S a, .inr (.inr (.inr (.inr (va_up (pQ S a) j none)))))) = X ++ zw cI cZ cO (sQ S a j none) := by
    rw [va_pl_set hD ha.1 hq]
    refine congrArg (fun w => X ++ w) (va_pl_congr (fun b' => ?_))
    by_cases hb' : b' = a
    · subst hb'
      rw [va_up_self, pF_10 (S := sQ S b' j none) ha.2]
      exact congrArg (fun g => Sum.inl (cO, pN S b', Sum.inr (Sum.inr (Sum.inr (Sum.inr g))))) up2_va.symm
    · rw [va_up_ne _ _ hb', pF_sQ hb']
  rw [pF_10 ha.2] at hq
  refine va_astqN h0.1 h0.2.1 h0.2.2.2.1 hP hD hS q0 2 hq rfl (zi_in hi hj) hd (fun H1 locs1 g1 g2 g3 => ?_)
  rw [zi_clamp hi, heq] at g1 g2
  exact kk H1 locs1 ls g1 g2 g3 hl9
theorem z_acmp_eq (h0 : ZC p s c cc nL D cI cZ cO A G) {x y : Nat} {off : Int} {tgt : Nat} (hd : decode cc pc = .ok (.if_acmp .eq off, 3)) (ht : (pc : Int) + off = (tgt : Int)) (kt : x = y → ZW p l e R s m args below meth c D cI cZ cO A Q X nL S cells slots tgt lo st) (kf : ¬ x = y → ZW p l e R s m args below meth c D cI cZ cO A Q X nL S cells slots (pc + 3) lo st) :
    ZW p l e R s m args below meth c D cI cZ cO A Q X nL S cells slots pc lo (.ref y :: .ref x :: st) := fun H locs ls hP hD hS hl9 => lv_acmp_eq (rx := some x) (ry := some y) h0.1 h0.2.1 hd ht (fun q => kt (Option.some.inj q) H locs ls hP hD hS hl9) (fun q => kf (fun z => q (congrArg some z)) H locs ls hP hD hS hl9)
theorem z_acmp_ne (h0 : ZC p s c cc nL D cI cZ cO A G) {x y : Nat} {off : Int} {tgt : Nat} (hd : decode cc pc = .ok (.if_acmp .ne off, 3)) (ht : (pc : Int) + off = (tgt : Int)) (kt : ¬ x = y → ZW p l e R s m args below meth c D cI cZ cO A Q X nL S cells slots tgt lo st) (kf : x = y → ZW p l e R s m args below meth c D cI cZ cO A Q X nL S cells slots (pc + 3) lo st) :
    ZW p l e R s m args below meth c D cI cZ cO A Q X nL S cells slots pc lo (.ref y :: .ref x :: st) := fun H locs ls hP hD hS hl9 => lv_acmp_ne (rx := some x) (ry := some y) h0.1 h0.2.1 hd ht (fun q => kt (fun z => q (congrArg some z)) H locs ls hP hD hS hl9) (fun q => kf (Option.some.inj q) H locs ls hP hD hS hl9)
theorem z_ishr (h0 : ZC p s c cc nL D cI cZ cO A G) {x y : Int32} (hd : decode cc pc = .ok (.ishr, 1)) (kk : ZW p l e R s m args below meth c D cI cZ cO A Q X nL S cells slots (pc + 1) lo (.int (x >>> (y &&& 31)) :: st)) : ZW p l e R s m args below meth c D cI cZ cO A Q X nL S cells slots pc lo (.int y :: .int x :: st) := fun H locs ls hP hD hS hl9 => lv_ishr h0.1 h0.2.1 hd (kk H locs ls hP hD hS hl9)
/-- getClass of an Object[] -/
theorem z_getClass (h0 : ZC p s c cc nL D cI cZ cO A G) {own : String} {index a : Nat} (hown : s.vm.findClass own = some m.cls) (hlink : (Cond.methodLink own index ⟨"java/lang/Object", "getClass", "()Ljava/lang/Class;"⟩).before args s = true)
    (hsel : (Cond.selects "[Ljava/lang/Object;" ⟨"java/lang/Object", "getClass", "()Ljava/lang/Class;"⟩ ⟨"java/lang/Object", "getClass", "()Ljava/lang/Class;"⟩).before args s = true) (hinst : (Cond.instanceMethod ⟨"java/lang/Object", "getClass", "()Ljava/lang/Class;"⟩).before args s = true) (hnat : (Cond.native ⟨"java/lang/Object", "getClass", "()Ljava/lang/Class;"⟩).before args s = true)
    (ha : isK S 10 a) (hframes : 1 ≤ R.frames) (hlocals : (st.map fun v => v.category).sum + 14 ≤ R.locals) (hd : decode cc pc = .ok (.invokevirtual index, 3)) (kk : ZW p l e R s m args below meth c D cI cZ cO A Q X nL S cells slots (pc + 3) lo (.ref (G 1) :: st)) : ZW p l e R s m args below meth c D cI cZ cO A Q X nL S cells slots pc lo (.ref a :: st) := by
  intro H locs ls hP hD hS hl9
  obtain ⟨q0, hq⟩ := va_pl_get (X := X) (f := pF cI cZ cO S) ha.1
  rw [pF_10 ha.2] at hq
  refine va_getC h0.1 h0.2.1 (by rw [h0.2.2.1, hl9.1]) hown hlink (va_Nw.use rfl (h0.2.2.2.2.2.2.2.2.2.2.2.2.2.2.1 _ (by decide +kernel))) hsel hinst hnat h0.2.2.2.2.2.2.2.1 ⟨_, hP q0 _ hq, rfl, ?_⟩ hframes hlocals hd (kk H locs ls hP hD hS hl9)
  exact va_nmO (h0.2.2.2.1.2 2 (cO, .object "java/lang/Object") rfl).2 rfl
theorem z_ldcM (h0 : ZC p s c cc nL D cI cZ cO A G) {own : String} {index : Nat} (hown : s.vm.findClass own = some m.cls) (hlink : (Cond.classLink own index "[Ljava/lang/Object;").before args s = true) (hd : decode cc pc = .ok (.ldc index, 2))
    (kk : ZW p l e R s m args below meth c D cI cZ cO A Q X nL S cells slots (pc + 2) lo (.ref (G 1) :: st)) : ZW p l e R s m args below meth c D cI cZ cO A Q X nL S cells slots pc lo st := fun H locs ls hP hD hS hl9 => va_ldcM h0.1 h0.2.1 hown hlink h0.2.2.2.2.2.2.2.1 hd (kk H locs ls hP hD hS hl9)
/-- System.arraycopy from the beginning of one Object[] to that of another -/
theorem z_copy (h0 : ZC p s c cc nL D cI cZ cO A G) {own : String} {index a a0 j : Nat} {n : Int32} (hown : s.vm.findClass own = some m.cls) (hlink : (Cond.methodLink own index arraycopyName).before args s = true) (hnat : (Cond.native arraycopyName).before args s = true) (hstat : (Cond.static arraycopyName).before args s = true) (hini : (Cond.initialized "java/lang/System").before args s = true)
    (ha0 : isK S 10 a0) (ha : isK S 10 a) (hn : n.toInt = (j : Int)) (hj0 : j ≤ pN S a0) (hj : j ≤ pN S a) (hel : ∀ i y : Nat, i < j → pQ S a0 i = some y → isOb S y) (hframes : 1 ≤ R.frames) (hlocals : (st.map fun v => v.category).sum + (nativeFrameWords "java/lang/System" "arraycopy" 5 + 11) ≤ R.locals) (hd : decode cc pc = .ok (.invokestatic index, 3))
    (kk : ZW p l e R s m args below meth c D cI cZ cO A Q X nL (sQQ S a (va_cpy (pQ S a0) (pQ S a) 0 0 j)) cells slots (pc + 3) lo st) : ZW p l e R s m args below meth c D cI cZ cO A Q X nL S cells slots pc lo (.int n :: .int 0 :: .ref a :: .int 0 :: .ref a0 :: st) := by
  intro H locs ls hP hD hS hl9
  obtain ⟨q0, hq⟩ := va_pl_get (X := X) (f := pF cI cZ cO S) ha.1
  obtain ⟨q1, hq1⟩ := va_pl_get (X := X) (f := pF cI cZ cO S) ha0.1
  have heq : (X ++ zw cI cZ cO S).set q0 (a, .inl (cO, pN S a, .inr (.inr (.inr (.inr (va_cpy (pQ S a0) (pQ S a) 0 0 j)))))) = X ++ zw cI cZ cO (sQQ S a (va_cpy (pQ S a0) (pQ S a) 0 0 j)) := by
    rw [va_pl_set hD ha.1 hq]
    refine congrArg (fun w => X ++ w) (va_pl_congr (fun b' => ?_))
    by_cases hb' : b' = a
    · subst hb'
      rw [va_up_self, pF_10 (S := sQQ S b' _) ha.2]
      exact congrArg (fun g => Sum.inl (cO, pN S b', Sum.inr (Sum.inr (Sum.inr (Sum.inr g))))) (va_up_self _ _ _).symm
    · rw [va_up_ne _ _ hb', pF_sQQ hb']
  rw [pF_10 ha.2] at hq
  rw [pF_10 ha0.2] at hq1
  have z0 : ¬ (0 : Int32) < 0 := by decide
  have hcl : n.toNatClampNeg = j := zi_clamp hn
  refine va_copyM h0.1 h0.2.1 (by rw [h0.2.2.1, hl9.1]) hown hlink hnat hstat hini h0.2.2.2.1 hP hD hS q1 q0 2 2 hq1 hq rfl rfl z0 z0 (by rw [Int32.lt_iff_toInt_lt, Int32.toInt_zero]; omega) (by rw [hcl, sb_cl0]; omega) (by rw [hcl, sb_cl0]; omega) ?_ hframes hlocals hd (fun H1 locs1 g1 g2 g3 => ?_)
  · intro i hi y hy
    rw [hcl] at hi
    rw [sb_cl0, Nat.zero_add] at hy
    exact z_any h0 (hel i y hi hy) hP
  · rw [hcl, sb_cl0, heq] at g1 g2
    exact kk H1 locs1 ls g1 g2 g3 hl9
end MORE
