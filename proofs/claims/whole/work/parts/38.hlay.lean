/-! THE LAW'S LAYER: a cell (long[1]) beside the pool. -/
section HLAY
abbrev oC (cJ : ClassId) (o : Nat) (f : Nat → Int64) : va_W := [(o, .inl (cJ, 1, .inr (.inl f)))]
abbrev zHA (cI cZ cO cJ : ClassId) (S : PS) (o : Nat) (f : Nat → Int64) (sz : Nat) : Nat → Prop := va_A (oC cJ o f ++ zw cI cZ cO S) sz
def zHP (D : va_G) (cI cZ cO cJ : ClassId) (G : Nat → Nat) (S : PS) (o : Nat) (f : Nat → Int64) (sz : Nat) (U : State) : Prop :=
  U.heap.size = sz ∧ va_P D vwCl (oC cJ o f ++ zw cI cZ cO S) U.heap ∧ va_K D vwCl (zTy cI cZ cO) U ∧ va_K D vwCl [(cJ, .long)] U ∧ va_D (fun _ => True) (oC cJ o f ++ zw cI cZ cO S) ∧ zG G (zHA cI cZ cO cJ S o f sz) U U.heap
def zHB (D : va_G) (cI cZ cO cJ : ClassId) (A : Nat → Prop) (o : Nat) (u : PS × (Nat → Int64)) (t : State) : Prop := va_P D vwCl (oC cJ o u.2 ++ zw cI cZ cO u.1) t.heap ∧ va_D A (oC cJ o u.2 ++ zw cI cZ cO u.1)
def zH (l : Launch) (y : MethodName) (ws : List Cond) (rm : Room) (vs : List Value) (D : va_G) (cI cZ cO cJ : ClassId) (G : Nat → Nat) (S : PS) (o : Nat) (f : Nat → Int64) (post : Int32 → PS × (Nat → Int64) → Prop) : Prop :=
  ∀ sz, Met l y ws rm (va_Pc vs (zHP D cI cZ cO cJ G S o f sz)) (va_Qi post (zHB D cI cZ cO cJ (zHA cI cZ cO cJ S o f sz) o) (zHA cI cZ cO cJ S o f sz)) rm.cells rm.slots (zHA cI cZ cO cJ S o f sz)
theorem zHP_blind {vs : List Value} {D : va_G} {cI cZ cO cJ : ClassId} {G : Nat → Nat} {S : PS} {o : Nat} {f : Nat → Int64} {sz : Nat} : FrameBlind (va_Pc vs (zHP D cI cZ cO cJ G S o f sz)) := by
  intro a U g mk q
  obtain ⟨q0, q1, qP, qK, qJ, qD, qG⟩ := q
  exact ⟨q0, q1, qP, va_K.moved (u := U) (U := U.calling g mk a) (Vm.Alike.refl U.vm) qK, va_K.moved (u := U) (U := U.calling g mk a) (Vm.Alike.refl U.vm) qJ, qD, zG.at (u := U) (U := U.calling g mk a) qG (fun _ _ _ => rfl) (fun _ h => h) (State.WarmedH.refl U)⟩
/-- a helper's body out of its walk -/
theorem z_ofH {l : Launch} {y : MethodName} {ws ws' : List Cond} {rm : Room} {vs : List Value} {cc : ByteArray} {maxL : Nat} {ret : Option FieldType} {hh : List (Nat × Nat × Nat × Nat)} {lo : List (Option Value)} {D : va_G} {cI cZ cO cJ : ClassId} {G : Nat → Nat} {S : PS} {o : Nat} {f : Nat → Int64} {post : Int32 → PS × (Nat → Int64) → Prop}
    (hy : plainName y.cls = true) (hw : ws = Cond.codeWith y cc maxL ret hh :: ws') (ha : vs.all (fun v => v.category == 1) = true) (hl : (lg_sl vs).length ≤ maxL) (hlo : vs.map some ++ List.replicate (maxL - vs.length) none = lo)
    (body : ∀ (p : Program) (e : Env) (s : State) (m : MethodId) (args : Array Value) (below : List Frame) (meth : Method) (c : Code), ZC p s c cc maxL D cI cZ cO (zHA cI cZ cO cJ S o f s.heap.size) G → va_K D vwCl [(cJ, .long)] s → (∀ w ∈ ws, w.before args s = true) → s.vm.findClass y.cls = some m.cls → meth.sig.returnType = ret → meth.locks = false → c.exceptionTable.toList = tableOf hh →
      ZW p l e rm s m args below meth c D cI cZ cO (zHA cI cZ cO cJ S o f s.heap.size) (MQ below (va_Qi post (zHB D cI cZ cO cJ (zHA cI cZ cO cJ S o f s.heap.size) o) (zHA cI cZ cO cJ S o f s.heap.size)) args s rm.cells rm.slots (zHA cI cZ cO cJ S o f s.heap.size)) (oC cJ o f) maxL S 0 0 0 lo []) :
    zH l y ws rm vs D cI cZ cO cJ G S o f post := by
  intro sz
  refine va_MetW hy hw ?_
  intro p e s m args below meth c s₁ B hml hv
  obtain ⟨rfl, hsz, hP, hK, hJ, hD0, hG⟩ := hv
  subst hsz
  have hA : ∀ q : Nat, s.heap.size ≤ q → zHA cI cZ cO cJ S o f s.heap.size q := fun q h => Or.inr h
  have hcw := atoms_spec (ws := ws) B.pre _ (by rw [hw]; exact List.mem_cons_self)
  have hb := body p e s m vs.toArray below meth c ⟨B.exec, B.bytes, hml, hK, hA, hG⟩ hJ (atoms_spec (ws := ws) B.pre) (findClass_of_methodNamed B.named) B.returns B.notSynchronized (vx_table (x := y) B hcw)
  rw [lg_entry_eq]
  exact hb s.heap [] _ hP (hD0.self (sz := s.heap.size)) va_S.rf (hlo ▸ zl_entry ha (lv_entry vs hl))
section HROWS
variable {p : Program} {l : Launch} {e : Env} {R : Room} {s : State} {m : MethodId} {args : Array Value} {below : List Frame} {meth : Method} {c : Code} {D : va_G} {cI cZ cO cJ : ClassId} {A : Nat → Prop} {Q : State → Prop} {nL : Nat} {S : PS} {cells slots pc : Nat} {lo : List (Option Value)} {st : List Value} {cc : ByteArray} {G : Nat → Nat} {o : Nat} {f : Nat → Int64}
theorem z_hret (h0 : ZC p s c cc nL D cI cZ cO A G) {post : Int32 → PS × (Nat → Int64) → Prop} {mc ms : Nat} {v : Int32} (hr : meth.sig.returnType = some .int) (hlocks : meth.locks = false) (hd : decode cc pc = .ok (.ireturn, 1)) (hc : cells ≤ mc) (hs : slots ≤ ms) (hp : post v (S, f)) : ZW p l e R s m args below meth c D cI cZ cO A (MQ below (va_Qi post (zHB D cI cZ cO cJ A o) A) args s mc ms A) (oC cJ o f) nL S cells slots pc lo [.int v] := fun H locs ls hP hD hS hl9 =>
  W.widen hc hs (W.iret h0.1 h0.2.1 hr (fun t ht hW => ⟨⟨v, (S, f), rfl, hp, ⟨by rw [ht]; exact hP, hD⟩⟩, hS.F ht⟩) hS.2.2 hd hlocks)
theorem z_hast (h0 : ZC p s c cc nL D cI cZ cO A G) (hJ : va_K D vwCl [(cJ, .long)] s) {x : Int64} (hd : decode cc pc = .ok (.lastore, 1)) (kk : ZW p l e R s m args below meth c D cI cZ cO A Q (oC cJ o (vp_updL f 0 x)) nL S cells slots (pc + 1) lo st) : ZW p l e R s m args below meth c D cI cZ cO A Q (oC cJ o f) nL S cells slots pc lo (.long x :: .int 0 :: .ref o :: st) := by
  intro H locs ls hP hD hS hl9
  refine va_last h0.1 h0.2.1 hJ hP hD hS 0 0 (a := o) (f := f) (n := 1) (cA := cJ) rfl rfl (i := 0) (x := x) (zi_in (i := 0) (j := 0) (by decide) (by decide)) hd (fun H1 locs1 gP gD gS => ?_)
  exact kk H1 locs1 ls gP gD gS hl9
theorem z_hald (h0 : ZC p s c cc nL D cI cZ cO A G) (hJ : va_K D vwCl [(cJ, .long)] s) (hd : decode cc pc = .ok (.laload, 1)) (kk : ZW p l e R s m args below meth c D cI cZ cO A Q (oC cJ o f) nL S cells slots (pc + 1) lo (.long (f 0) :: st)) : ZW p l e R s m args below meth c D cI cZ cO A Q (oC cJ o f) nL S cells slots pc lo (.int 0 :: .ref o :: st) := by
  intro H locs ls hP hD hS hl9
  exact va_lald h0.1 h0.2.1 hJ hP 0 0 (a := o) (f := f) (n := 1) (cA := cJ) rfl rfl (i := 0) (zi_in (i := 0) (j := 0) (by decide) (by decide)) hd (kk H locs ls hP hD hS hl9)
theorem z_sub {H : Heap} {c0 : Nat × va_E} (hP : va_P D vwCl ([c0] ++ zw cI cZ cO S) H) : va_P D vwCl (zw cI cZ cO S) H := hP.by (fun k => k + 1) (fun _ _ hk => hk)
theorem z_subD {c0 : Nat × va_E} (hD : va_D A ([c0] ++ zw cI cZ cO S)) : va_D A (zw cI cZ cO S) := hD.by (fun k => k + 1) (fun _ _ hk => hk) (fun i j _ _ h => Nat.succ.inj h)
theorem z_join {H H1 : Heap} {c0 : Nat × va_E} {S' : PS} (hP : va_P D vwCl ([c0] ++ zw cI cZ cO S) H) (hD : va_D A ([c0] ++ zw cI cZ cO S)) (hin : ∀ q, zA cI cZ cO S H.size q → A q) (hk : ∀ q : Nat, q < H.size → ¬ zA cI cZ cO S H.size q → H1[q]? = H[q]?) (gP : va_P D vwCl (zw cI cZ cO S') H1) (gD : va_D (zA cI cZ cO S H.size) (zw cI cZ cO S')) :
    va_P D vwCl ([c0] ++ zw cI cZ cO S') H1 ∧ va_D A ([c0] ++ zw cI cZ cO S') := by
  have := va_joinP (X := [c0]) (cx := []) (wr := [c0]) (rx := []) (pl := zw cI cZ cO S) (pl1 := zw cI cZ cO S') hP hD [] [0] rfl rfl rfl (fun i _ h => by cases h) hk hin gP gD
  exact this
/-- a call of the class's or the reference's, the cell beside it -/
theorem z_hCi (h0 : ZC p s c cc nL D cI cZ cO A G) {c0 : Nat × va_E} {own : String} {C : String} {index maxL n : Nat} {y : MethodName} {bytes : ByteArray} {ret : Option FieldType} {ws ws' Ts : List Cond} {rm : Room} {post : Int32 → PS → Prop} {As st0 : List Value} {b : Nat} {k ci : Nat} {T9 : u_T} {N9 : Nat} (hts : ∀ w ∈ Ts, w.before args s = true) (hown : s.vm.findClass own = some m.cls) (hM : zMi l y ws rm (.ref b :: As) D cI cZ cO G S post) (hg : GoodIn Ts (wsV own index C y ws)) (hw : ws = Cond.code y bytes maxL ret :: ws') (hdd : y.cls = C ∧ y.cls ≠ "java/lang/invoke/MethodHandle" ∧ y.cls ≠ "java/lang/invoke/VarHandle" ∧ (parseMethodDescriptor y.desc).map (fun d => d.parameters.length) = some n) (hR : rm.frames + 1 ≤ R.frames ∧ 8 + (maxL + 11) + rm.locals ≤ R.locals) (hk : kOk k ci) (hc : vwCl[ci]? = some (C, T9, N9)) (hb : isK S k b) (hd : decode cc pc = .ok (.invokevirtual index, 3)) (hst : st0 = As.reverse ++ .ref b :: st) (hn : As.length = n) (hsum : (st.map fun v => v.category).sum ≤ 8) (hf : cells + rm.cells ≤ R.cells ∧ slots + rm.slots ≤ R.slots)
    (kk : ∀ (r : Int32) (S' : PS), post r S' → ZW p l e R s m args below meth c D cI cZ cO A Q [c0] nL S' (cells + rm.cells) (slots + rm.slots) (pc + 3) lo (.int r :: st)) : ZW p l e R s m args below meth c D cI cZ cO A Q [c0] nL S cells slots pc lo st0 := by
  subst hst
  intro H locs ls hP hD hS hl9
  have hin := zA_in h0 (z_subD hD) hS
  refine va_calli (va_runV (As := As) (rest := st) ⟨h0.1, h0.2.1, h0.2.2.1, hown, hts⟩ (hM H.size) (cwV n hts hg hw rfl rfl hdd hR) ⟨zP_blind, z_recv (X := [c0]) h0 hk hc hb hP, fun U hU hW => ⟨rfl, zP_at h0 (z_sub hP) (z_subD hD) hS U hU hW⟩⟩ rfl hn hl9.1 rfl (lv_room hsum) hd hf) hS (fun q _ h => hin q h) hin (fun r u t H1 locs1 ht hvm hp hB hz hk9 hS1 => ?_)
  obtain ⟨gP, gK, gD⟩ := hB
  rw [ht] at gP
  obtain ⟨j1, j2⟩ := z_join hP hD hin hk9 gP gD
  exact kk r u hp H1 locs1 ls j1 j2 hS1 hl9
theorem z_hCl (h0 : ZC p s c cc nL D cI cZ cO A G) {c0 : Nat × va_E} {own : String} {C : String} {index maxL n : Nat} {y : MethodName} {bytes : ByteArray} {ret : Option FieldType} {ws ws' Ts : List Cond} {rm : Room} {post : Int64 → PS → Prop} {As st0 : List Value} {b : Nat} {k ci : Nat} {T9 : u_T} {N9 : Nat} (hts : ∀ w ∈ Ts, w.before args s = true) (hown : s.vm.findClass own = some m.cls) (hM : zMl l y ws rm (.ref b :: As) D cI cZ cO G S post) (hg : GoodIn Ts (wsV own index C y ws)) (hw : ws = Cond.code y bytes maxL ret :: ws') (hdd : y.cls = C ∧ y.cls ≠ "java/lang/invoke/MethodHandle" ∧ y.cls ≠ "java/lang/invoke/VarHandle" ∧ (parseMethodDescriptor y.desc).map (fun d => d.parameters.length) = some n) (hR : rm.frames + 1 ≤ R.frames ∧ 8 + (maxL + 11) + rm.locals ≤ R.locals) (hk : kOk k ci) (hc : vwCl[ci]? = some (C, T9, N9)) (hb : isK S k b) (hd : decode cc pc = .ok (.invokevirtual index, 3)) (hst : st0 = As.reverse ++ .ref b :: st) (hn : As.length = n) (hsum : (st.map fun v => v.category).sum ≤ 8) (hf : cells + rm.cells ≤ R.cells ∧ slots + rm.slots ≤ R.slots)
    (kk : ∀ (r : Int64) (S' : PS), post r S' → ZW p l e R s m args below meth c D cI cZ cO A Q [c0] nL S' (cells + rm.cells) (slots + rm.slots) (pc + 3) lo (.long r :: st)) : ZW p l e R s m args below meth c D cI cZ cO A Q [c0] nL S cells slots pc lo st0 := by
  subst hst
  intro H locs ls hP hD hS hl9
  have hin := zA_in h0 (z_subD hD) hS
  refine va_calll (va_runV (As := As) (rest := st) ⟨h0.1, h0.2.1, h0.2.2.1, hown, hts⟩ (hM H.size) (cwV n hts hg hw rfl rfl hdd hR) ⟨zP_blind, z_recv (X := [c0]) h0 hk hc hb hP, fun U hU hW => ⟨rfl, zP_at h0 (z_sub hP) (z_subD hD) hS U hU hW⟩⟩ rfl hn hl9.1 rfl (lv_room hsum) hd hf) hS (fun q _ h => hin q h) hin (fun r u t H1 locs1 ht hvm hp hB hz hk9 hS1 => ?_)
  obtain ⟨gP, gK, gD⟩ := hB
  rw [ht] at gP
  obtain ⟨j1, j2⟩ := z_join hP hD hin hk9 gP gD
  exact kk r u hp H1 locs1 ls j1 j2 hS1 hl9
/-- a row of the table takes the thrown E, the rows ahead of it don't -/
def zTk (s : State) (args : Array Value) (c : Code) (own : String) (pc : Nat) (E : String) (h : Nat) : Prop := ∃ (pre : List ExceptionTableEntry) (x : ExceptionTableEntry) (suf : List ExceptionTableEntry) (name : String), c.exceptionTable.toList = pre ++ x :: suf ∧ (∀ z ∈ pre, covers z pc = false ∨ (z.catchType ≠ 0 ∧ ∃ nm : String, (Cond.classLink own z.catchType nm).before args s = true ∧ va_Nc E nm s)) ∧ covers x pc = true ∧ x.catchType ≠ 0 ∧ (Cond.classLink own x.catchType name).before args s = true ∧ (Cond.castable E name).before args s = true ∧ x.handlerPc = h
theorem z_hXi (h0 : ZC p s c cc nL D cI cZ cO A G) {c0 : Nat × va_E} {own : String} {C : String} {index maxL n : Nat} {y : MethodName} {bytes : ByteArray} {ret : Option FieldType} {ws ws' Ts : List Cond} {rm : Room} {post : Int32 → PS → Prop} {As st0 : List Value} {b : Nat} {k ci : Nat} {T9 : u_T} {N9 : Nat} {xe0 : String → Prop} (hts : ∀ w ∈ Ts, w.before args s = true) (hown : s.vm.findClass own = some m.cls) (hM : zXi l y ws rm (.ref b :: As) D cI cZ cO G S post xe0) (hg : GoodIn Ts (wsV own index C y ws)) (hw : ws = Cond.code y bytes maxL ret :: ws') (hdd : y.cls = C ∧ y.cls ≠ "java/lang/invoke/MethodHandle" ∧ y.cls ≠ "java/lang/invoke/VarHandle" ∧ (parseMethodDescriptor y.desc).map (fun d => d.parameters.length) = some n) (hR : rm.frames + 1 ≤ R.frames ∧ 8 + (maxL + 11) + rm.locals ≤ R.locals) (hk : kOk k ci) (hc : vwCl[ci]? = some (C, T9, N9)) (hb : isK S k b) (hd : decode cc pc = .ok (.invokevirtual index, 3)) (hst : st0 = As.reverse ++ .ref b :: st) (hn : As.length = n) (hsum : (st.map fun v => v.category).sum ≤ 8) (hf : cells + rm.cells ≤ R.cells ∧ slots + rm.slots ≤ R.slots)
    (kx : ∀ E, xe0 E → ∃ h, zTk s args c own pc E h ∧ ∀ q9 : Nat, ZW p l e R s m args below meth c D cI cZ cO A Q [c0] nL S (cells + rm.cells) (slots + rm.slots) h lo [.ref q9])
    (kk : ∀ (r : Int32) (S' : PS), post r S' → ZW p l e R s m args below meth c D cI cZ cO A Q [c0] nL S' (cells + rm.cells) (slots + rm.slots) (pc + 3) lo (.int r :: st)) : ZW p l e R s m args below meth c D cI cZ cO A Q [c0] nL S cells slots pc lo st0 := by
  subst hst
  intro H locs ls hP hD hS hl9
  have hin := zA_in h0 (z_subD hD) hS
  refine vx_calli (vx_runV (As := As) (rest := st) ⟨h0.1, h0.2.1, h0.2.2.1, hown, hts⟩ (hM H.size) (cwV n hts hg hw rfl rfl hdd hR) ⟨zP_blind, z_recv (X := [c0]) h0 hk hc hb hP, fun U hU hW => ⟨rfl, zP_at h0 (z_sub hP) (z_subD hD) hS U hU hW⟩⟩ rfl hn hl9.1 rfl (lv_room hsum) hd hf) hS (fun q _ h => hin q h) hin (fun q _ h => hin q h) (fun E ce q9 u t H1 locs1 ht hvm _ hB hz hk9 hS1 hce hcv hcl => ?_) (fun r u t H1 locs1 ht hvm hp hB hz hk9 hS1 => ?_)
  · obtain ⟨hxE, gP, gK, gD⟩ := hB
    rw [ht] at gP
    obtain ⟨j1, j2⟩ := z_join hP hD hin hk9 gP gD
    obtain ⟨h, ⟨pre, x, suf, name, t1, t2, t3, t4, t5, t6, rfl⟩, hk⟩ := kx E hxE
    exact vx_catch hown pre x suf t1 t2 t3 t4 t5 t6 hce hcv hcl (hk q9 H1 locs1 ls j1 j2 hS1 hl9)
  · obtain ⟨gP, gK, gD⟩ := hB
    rw [ht] at gP
    obtain ⟨j1, j2⟩ := z_join hP hD hin hk9 gP gD
    exact kk r u hp H1 locs1 ls j1 j2 hS1 hl9
/-- a call of a helper -/
theorem z_hS (h0 : ZC p s c cc nL D cI cZ cO A G) (hJ : va_K D vwCl [(cJ, .long)] s) {own : String} {index maxL n : Nat} {y : MethodName} {bytes : ByteArray} {ret : Option FieldType} {hh : List (Nat × Nat × Nat × Nat)} {ws ws' Ts : List Cond} {rm : Room} {post : Int32 → PS × (Nat → Int64) → Prop} {As st0 : List Value} (hts : ∀ w ∈ Ts, w.before args s = true) (hown : s.vm.findClass own = some m.cls) (hM : zH l y ws rm As D cI cZ cO cJ G S o f post) (hg : GoodIn Ts (va_wsS own index y ws)) (hw : ws = Cond.codeWith y bytes maxL ret hh :: ws') (hdd : y.cls ≠ "java/lang/invoke/MethodHandle" ∧ y.cls ≠ "java/lang/invoke/VarHandle" ∧ (parseMethodDescriptor y.desc).map (fun d => d.parameters.length) = some n) (hR : rm.frames + 1 ≤ R.frames ∧ 8 + (maxL + 11) + rm.locals ≤ R.locals) (hd : decode cc pc = .ok (.invokestatic index, 3)) (hst : st0 = As.reverse ++ st) (hn : As.length = n) (hsum : (st.map fun v => v.category).sum ≤ 8) (hf : cells + rm.cells ≤ R.cells ∧ slots + rm.slots ≤ R.slots)
    (kk : ∀ (r : Int32) (S' : PS) (f' : Nat → Int64), post r (S', f') → ZW p l e R s m args below meth c D cI cZ cO A Q (oC cJ o f') nL S' (cells + rm.cells) (slots + rm.slots) (pc + 3) lo (.int r :: st)) : ZW p l e R s m args below meth c D cI cZ cO A Q (oC cJ o f) nL S cells slots pc lo st0 := by
  subst hst
  intro H locs ls hP hD hS hl9
  have hin : ∀ q, zHA cI cZ cO cJ S o f H.size q → A q := by
    intro q h
    rcases h with ⟨k, x, h⟩ | h
    · exact hD.2 k _ h
    · exact h0.2.2.2.2.1 q (Nat.le_trans hS.1 h)
  refine va_calli (vx_runSW (As := As) (rest := st) ⟨h0.1, h0.2.1, h0.2.2.1, hown, hts⟩ (hM H.size) (vx_cwSW n hts hg hw rfl rfl hdd hR) ⟨zHP_blind, fun U hU hW => ⟨rfl, ?_⟩⟩ rfl hn hl9.1 rfl (lv_room hsum) hd hf) hS (fun q _ h => hin q h) hin (fun r u t H1 locs1 ht hvm hp hB hz hk9 hS1 => ?_)
  · subst hU
    exact ⟨rfl, hP, va_K.moved hW.alike h0.2.2.2.1, va_K.moved hW.alike hJ, hD.weaken (fun _ _ _ _ => trivial), zG.at h0.2.2.2.2.2 hS.2.1 hin hW⟩
  · obtain ⟨gP, gD⟩ := hB
    rw [ht] at gP
    exact kk r u.1 u.2 hp H1 locs1 ls gP (gD.weaken (fun _ _ _ h => hin _ h)) hS1 hl9
end HROWS
end HLAY
