/-! CONTRACTS OVER THE POOL, RETURNS, CALLS. -/
section CALLS
/-- a callee's start: the pool S in a heap of sz cells -/
def zP (D : va_G) (cI cZ cO : ClassId) (G : Nat → Nat) (S : PS) (sz : Nat) (U : State) : Prop :=
  U.heap.size = sz ∧ va_P D vwCl (zw cI cZ cO S) U.heap ∧ va_K D vwCl (zTy cI cZ cO) U ∧ va_D (fun _ => True) (zw cI cZ cO S) ∧ zG G (va_A (zw cI cZ cO S) sz) U U.heap
/-- the pool behind it -/
def zB (D : va_G) (cI cZ cO : ClassId) (A : Nat → Prop) (S : PS) (t : State) : Prop := va_P D vwCl (zw cI cZ cO S) t.heap ∧ va_K D vwCl (zTy cI cZ cO) t ∧ va_D A (zw cI cZ cO S)
abbrev zA (cI cZ cO : ClassId) (S : PS) (sz : Nat) : Nat → Prop := va_A (zw cI cZ cO S) sz
abbrev zQi (D : va_G) (cI cZ cO : ClassId) (S : PS) (post : Int32 → PS → Prop) (sz : Nat) := va_Qi post (zB D cI cZ cO (zA cI cZ cO S sz)) (zA cI cZ cO S sz)
abbrev zQl (D : va_G) (cI cZ cO : ClassId) (S : PS) (post : Int64 → PS → Prop) (sz : Nat) := va_Ql post (zB D cI cZ cO (zA cI cZ cO S sz)) (zA cI cZ cO S sz)
abbrev zQv (D : va_G) (cI cZ cO : ClassId) (S : PS) (post : PS → Prop) (sz : Nat) := va_Qv post (zB D cI cZ cO (zA cI cZ cO S sz)) (zA cI cZ cO S sz)
def zpost (post : Nat → PS → Prop) (u : Nat × PS) : Prop := post u.1 u.2
abbrev zQr (D : va_G) (cI cZ cO : ClassId) (S : PS) (post : Nat → PS → Prop) (sz : Nat) := va_Qr (zpost post) (fun u a t => u.1 = a ∧ zB D cI cZ cO (zA cI cZ cO S sz) u.2 t) (zA cI cZ cO S sz)
/-- where it throws: the class xe of it, the pool unchanged -/
abbrev zX (D : va_G) (cI cZ cO : ClassId) (S : PS) (xe : String → Prop) (sz : Nat) := vx_X (fun _ : Unit => True) (fun E _ t => xe E ∧ zB D cI cZ cO (zA cI cZ cO S sz) S t) (zA cI cZ cO S sz)
section QXR
variable {p : Program} {l : Launch} {e : Env} {R : Room} {s : State} {m : MethodId} {args : Array Value} {below : List Frame} {meth : Method} {c : Code} {H : Heap} {locs : List Loc} {cells slots : Nat} {Q : State → Prop}
variable {mc ms : Nat} {free : Addr → Prop} {A0 A1 : Nat → Prop} {H0 : Heap} {a : Array Value} {pc : Nat} {ls : Array Slot} {st0 rest : List Value}
/-- a callee that answers a reference, or throws (the printed rows hold it for numbers alone) -/
theorem vx_callr {S SX : Type} {post : S → Prop} {px : SX → Prop} {B : S → Nat → State → Prop} {BX : String → SX → State → Prop} {AX : Nat → Prop} (hr : vx_Run p l e R s m args below meth c H locs cells slots mc ms (F0 m pc ls st0) rest (va_Qr post B A1 a) (vx_X px BX AX) free) (hS : va_S A0 H0 H locs) (hA : ∀ q, q < H.size → A1 q → A0 q) (hf : ∀ q, free q → A0 q) (hAX : ∀ q, q < H.size → AX q → A0 q)
    (kx : ∀ (E : String) (ce : Cell) (q9 : Addr) (u : SX) (t : State) (H1 : Heap) (locs1 : List Loc), t.heap = H1 → s.vm.Alike t.vm → px u → BX E u t → H.size ≤ H1.size → (∀ q : Nat, q < H.size → ¬ AX q → H1[q]? = H[q]?) → va_S A0 H0 H1 locs1 → H1[q9]? = some ce → ce.vm = .none → s.vm.findClass E = some ce.cls → vx_W p l e R s m args below meth c H1 locs1 (cells + mc) (slots + ms) Q (F0 m pc ls rest) q9)
    (kk : ∀ (u : S) (ra : Nat) (t : State) (H1 : Heap) (locs1 : List Loc), t.heap = H1 → s.vm.Alike t.vm → post u → B u ra t → H.size ≤ H1.size → (∀ q : Nat, q < H.size → ¬ A1 q → H1[q]? = H[q]?) → va_S A0 H0 H1 locs1 → W p l e R s m args below meth c H1 locs1 (cells + mc) (slots + ms) Q (F0 m (pc + 3) ls (.ref ra :: rest))) : W p l e R s m args below meth c H locs cells slots Q (F0 m pc ls st0) := by
  intro T hT X
  rcases hr T hT X with ⟨v, st₀, t, T', L, h0, X', hL, e1, e2, ⟨⟨u, ra, hv, hp, hb⟩, hF⟩, st⟩ | ⟨q, st₀, t, T', L, E, ce, h0, X', hL, e1, e2, ⟨u, hp, hb, hF⟩, hce, hcv, hcl, st⟩
  · cases hv
    obtain ⟨k1, k2, k3⟩ := vx_keep h0 e1 hS hA hf hL hF
    obtain ⟨t2, a1, b1⟩ := kk u ra t T'.heap (locs ++ L) e1.symm (by rw [← e2]; exact X'.warmed.alike) hp hb k1 k2 k3 T' rfl X'
    exact ⟨t2, st t2 a1, b1⟩
  · obtain ⟨k1, k2, k3⟩ := vx_keep h0 e1 hS hAX hf hL hF
    obtain ⟨t2, a1, b1⟩ := kx E ce q u t T'.heap (locs ++ L) e1.symm (by rw [← e2]; exact X'.warmed.alike) hp hb k1 k2 k3 (by rw [e1]; exact hce) hcv hcl T' rfl X'
    exact ⟨t2, st.trans a1, b1⟩
end QXR
def zMi (l : Launch) (y : MethodName) (ws : List Cond) (rm : Room) (vs : List Value) (D : va_G) (cI cZ cO : ClassId) (G : Nat → Nat) (S : PS) (post : Int32 → PS → Prop) : Prop := ∀ sz, Met l y ws rm (va_Pc vs (zP D cI cZ cO G S sz)) (zQi D cI cZ cO S post sz) rm.cells rm.slots (zA cI cZ cO S sz)
def zXi (l : Launch) (y : MethodName) (ws : List Cond) (rm : Room) (vs : List Value) (D : va_G) (cI cZ cO : ClassId) (G : Nat → Nat) (S : PS) (post : Int32 → PS → Prop) (xe : String → Prop) : Prop := ∀ sz, vx_Met l y ws rm (va_Pc vs (zP D cI cZ cO G S sz)) (zQi D cI cZ cO S post sz) (zX D cI cZ cO S xe sz) rm.cells rm.slots (zA cI cZ cO S sz)
def zMl (l : Launch) (y : MethodName) (ws : List Cond) (rm : Room) (vs : List Value) (D : va_G) (cI cZ cO : ClassId) (G : Nat → Nat) (S : PS) (post : Int64 → PS → Prop) : Prop := ∀ sz, Met l y ws rm (va_Pc vs (zP D cI cZ cO G S sz)) (zQl D cI cZ cO S post sz) rm.cells rm.slots (zA cI cZ cO S sz)
def zXl (l : Launch) (y : MethodName) (ws : List Cond) (rm : Room) (vs : List Value) (D : va_G) (cI cZ cO : ClassId) (G : Nat → Nat) (S : PS) (post : Int64 → PS → Prop) (xe : String → Prop) : Prop := ∀ sz, vx_Met l y ws rm (va_Pc vs (zP D cI cZ cO G S sz)) (zQl D cI cZ cO S post sz) (zX D cI cZ cO S xe sz) rm.cells rm.slots (zA cI cZ cO S sz)
def zMv (l : Launch) (y : MethodName) (ws : List Cond) (rm : Room) (vs : List Value) (D : va_G) (cI cZ cO : ClassId) (G : Nat → Nat) (S : PS) (post : PS → Prop) : Prop := ∀ sz, Met l y ws rm (va_Pc vs (zP D cI cZ cO G S sz)) (zQv D cI cZ cO S post sz) rm.cells rm.slots (zA cI cZ cO S sz)
def zXv (l : Launch) (y : MethodName) (ws : List Cond) (rm : Room) (vs : List Value) (D : va_G) (cI cZ cO : ClassId) (G : Nat → Nat) (S : PS) (post : PS → Prop) (xe : String → Prop) : Prop := ∀ sz, vx_Met l y ws rm (va_Pc vs (zP D cI cZ cO G S sz)) (zQv D cI cZ cO S post sz) (zX D cI cZ cO S xe sz) rm.cells rm.slots (zA cI cZ cO S sz)
def zMr (l : Launch) (y : MethodName) (ws : List Cond) (rm : Room) (vs : List Value) (D : va_G) (cI cZ cO : ClassId) (G : Nat → Nat) (S : PS) (post : Nat → PS → Prop) : Prop := ∀ sz, Met l y ws rm (va_Pc vs (zP D cI cZ cO G S sz)) (zQr D cI cZ cO S post sz) rm.cells rm.slots (zA cI cZ cO S sz)
def zXr (l : Launch) (y : MethodName) (ws : List Cond) (rm : Room) (vs : List Value) (D : va_G) (cI cZ cO : ClassId) (G : Nat → Nat) (S : PS) (post : Nat → PS → Prop) (xe : String → Prop) : Prop := ∀ sz, vx_Met l y ws rm (va_Pc vs (zP D cI cZ cO G S sz)) (zQr D cI cZ cO S post sz) (zX D cI cZ cO S xe sz) rm.cells rm.slots (zA cI cZ cO S sz)
theorem zP_blind {vs : List Value} {D : va_G} {cI cZ cO : ClassId} {G : Nat → Nat} {S : PS} {sz : Nat} : FrameBlind (va_Pc vs (zP D cI cZ cO G S sz)) := by
  intro a U g mk q
  obtain ⟨q0, q1, qP, qK, qD, qG⟩ := q
  exact ⟨q0, q1, qP, va_K.moved (u := U) (U := U.calling g mk a) (Vm.Alike.refl U.vm) qK, qD, zG.at (u := U) (U := U.calling g mk a) qG (fun _ _ _ => rfl) (fun _ h => h) (State.WarmedH.refl U)⟩
/-- a body out of its walk -/
theorem z_of {l : Launch} {y : MethodName} {ws ws' : List Cond} {rm : Room} {vs : List Value} {cc : ByteArray} {maxL : Nat} {ret : Option FieldType} {lo : List (Option Value)} {D : va_G} {cI cZ cO : ClassId} {G : Nat → Nat} {S : PS} {Qc : Nat → Array Value → State → Outcome → State → Prop}
    (hy : plainName y.cls = true) (hw : ws = Cond.code y cc maxL ret :: ws') (ha : vs.all (fun v => v.category == 1) = true) (hl : (lg_sl vs).length ≤ maxL) (hlo : vs.map some ++ List.replicate (maxL - vs.length) none = lo)
    (body : ∀ (p : Program) (e : Env) (s : State) (m : MethodId) (args : Array Value) (below : List Frame) (meth : Method) (c : Code), ZC p s c cc maxL D cI cZ cO (zA cI cZ cO S s.heap.size) G → (∀ w ∈ ws, w.before args s = true) → s.vm.findClass y.cls = some m.cls → meth.sig.returnType = ret → meth.locks = false → meth.name = y.name →
      ZW p l e rm s m args below meth c D cI cZ cO (zA cI cZ cO S s.heap.size) (MQ below (Qc s.heap.size) args s rm.cells rm.slots (zA cI cZ cO S s.heap.size)) [] maxL S 0 0 0 lo []) :
    ∀ sz, Met l y ws rm (va_Pc vs (zP D cI cZ cO G S sz)) (Qc sz) rm.cells rm.slots (zA cI cZ cO S sz) := by
  intro sz
  refine Met.ofW hy hw ?_
  intro p e s m args below meth c s₁ B hml hv
  obtain ⟨rfl, hsz, hP, hK, hD0, hG⟩ := hv
  subst hsz
  have hA : ∀ q : Nat, s.heap.size ≤ q → zA cI cZ cO S s.heap.size q := fun q h => Or.inr h
  have hb := body p e s m vs.toArray below meth c ⟨B.exec, B.bytes, hml, hK, hA, hG⟩ (atoms_spec (ws := ws) B.pre) (findClass_of_methodNamed B.named) B.returns B.notSynchronized (name_of_methodNamed B.named B.method).1
  rw [lg_entry_eq]
  exact hb s.heap [] _ hP (hD0.self (sz := s.heap.size)) va_S.rf (hlo ▸ zl_entry ha (lv_entry vs hl))
/-- .. of one that may throw -/
theorem z_ofX {l : Launch} {y : MethodName} {ws ws' : List Cond} {rm : Room} {vs : List Value} {cc : ByteArray} {maxL : Nat} {ret : Option FieldType} {lo : List (Option Value)} {D : va_G} {cI cZ cO : ClassId} {G : Nat → Nat} {S : PS} {Qc : Nat → Array Value → State → Outcome → State → Prop} {XC : Nat → String → State → State → Prop}
    (hy : plainName y.cls = true) (hw : ws = Cond.code y cc maxL ret :: ws') (ha : vs.all (fun v => v.category == 1) = true) (hl : (lg_sl vs).length ≤ maxL) (hlo : vs.map some ++ List.replicate (maxL - vs.length) none = lo)
    (body : ∀ (p : Program) (e : Env) (s : State) (m : MethodId) (args : Array Value) (below : List Frame) (meth : Method) (c : Code), ZC p s c cc maxL D cI cZ cO (zA cI cZ cO S s.heap.size) G → (∀ w ∈ ws, w.before args s = true) → s.vm.findClass y.cls = some m.cls → meth.sig.returnType = ret → meth.locks = false → meth.name = y.name → (∀ x ∈ c.exceptionTable.toList, False) →
      ZW p l e rm s m args below meth c D cI cZ cO (zA cI cZ cO S s.heap.size) (vx_MQ below (Qc s.heap.size) (XC s.heap.size) args s rm.cells rm.slots (zA cI cZ cO S s.heap.size)) [] maxL S 0 0 0 lo []) :
    ∀ sz, vx_Met l y ws rm (va_Pc vs (zP D cI cZ cO G S sz)) (Qc sz) (XC sz) rm.cells rm.slots (zA cI cZ cO S sz) := by
  intro sz
  refine vx_ofW hy hw ?_
  intro p e s m args below meth c s₁ B hml htab hv
  obtain ⟨rfl, hsz, hP, hK, hD0, hG⟩ := hv
  subst hsz
  have hA : ∀ q : Nat, s.heap.size ≤ q → zA cI cZ cO S s.heap.size q := fun q h => Or.inr h
  have hb := body p e s m vs.toArray below meth c ⟨B.exec, B.bytes, hml, hK, hA, hG⟩ (atoms_spec (ws := ws) B.pre) (findClass_of_methodNamed B.named) B.returns B.notSynchronized (name_of_methodNamed B.named B.method).1 htab
  rw [lg_entry_eq]
  exact hb s.heap [] _ hP (hD0.self (sz := s.heap.size)) va_S.rf (hlo ▸ zl_entry ha (lv_entry vs hl))
variable {p : Program} {l : Launch} {e : Env} {R : Room} {s : State} {m : MethodId} {args : Array Value} {below : List Frame} {meth : Method} {c : Code} {D : va_G} {cI cZ cO : ClassId} {A : Nat → Prop} {Q : State → Prop} {X : va_W} {nL : Nat} {S : PS} {cells slots pc : Nat} {lo : List (Option Value)} {st : List Value} {cc : ByteArray} {G : Nat → Nat}
theorem z_widen {k n : Nat} (h1 : cells ≤ k) (h2 : slots ≤ n) (kk : ZW p l e R s m args below meth c D cI cZ cO A Q X nL S k n pc lo st) : ZW p l e R s m args below meth c D cI cZ cO A Q X nL S cells slots pc lo st := fun H locs ls hP hD hS hl9 => W.widen h1 h2 (kk H locs ls hP hD hS hl9)
theorem z_x {Qc : Array Value → State → Outcome → State → Prop} {XC : String → State → State → Prop} {mc ms : Nat} {free : Addr → Prop} (kk : ZW p l e R s m args below meth c D cI cZ cO A (MQ below Qc args s mc ms free) X nL S cells slots pc lo st) : ZW p l e R s m args below meth c D cI cZ cO A (vx_MQ below Qc XC args s mc ms free) X nL S cells slots pc lo st := fun H locs ls hP hD hS hl9 => vx_ret (kk H locs ls hP hD hS hl9)
theorem z_iret (h0 : ZC p s c cc nL D cI cZ cO A G) {post : Int32 → PS → Prop} {mc ms : Nat} {v : Int32} (hr : meth.sig.returnType = some .int) (hlocks : meth.locks = false) (hd : decode cc pc = .ok (.ireturn, 1)) (hc : cells ≤ mc) (hs : slots ≤ ms) (hp : post v S) : ZW p l e R s m args below meth c D cI cZ cO A (MQ below (va_Qi post (zB D cI cZ cO A) A) args s mc ms A) [] nL S cells slots (pc) lo ([.int v]) := fun H locs ls hP hD hS hl9 =>
  W.widen hc hs (W.iret h0.1 h0.2.1 hr (fun t ht hW => ⟨⟨v, S, rfl, hp, ⟨by rw [ht]; exact hP, va_K.moved hW.alike h0.2.2.2.1, hD⟩⟩, hS.F ht⟩) hS.2.2 hd hlocks)
theorem z_zret (h0 : ZC p s c cc nL D cI cZ cO A G) {post : Int32 → PS → Prop} {mc ms : Nat} {v : Int32} {ty : FieldType} (hr : meth.sig.returnType = some ty) (hn : narrow ty (.int v) = .int v) (hlocks : meth.locks = false) (hd : decode cc pc = .ok (.ireturn, 1)) (hc : cells ≤ mc) (hs : slots ≤ ms) (hp : post v S) : ZW p l e R s m args below meth c D cI cZ cO A (MQ below (va_Qi post (zB D cI cZ cO A) A) args s mc ms A) [] nL S cells slots (pc) lo ([.int v]) := fun H locs ls hP hD hS hl9 =>
  W.widen hc hs (W.zret h0.1 h0.2.1 hr hn (fun t ht hW => ⟨⟨v, S, rfl, hp, ⟨by rw [ht]; exact hP, va_K.moved hW.alike h0.2.2.2.1, hD⟩⟩, hS.F ht⟩) hS.2.2 hd hlocks)
theorem z_lret (h0 : ZC p s c cc nL D cI cZ cO A G) {post : Int64 → PS → Prop} {mc ms : Nat} {v : Int64} (hr : meth.sig.returnType = some .long) (hlocks : meth.locks = false) (hd : decode cc pc = .ok (.lreturn, 1)) (hc : cells ≤ mc) (hs : slots ≤ ms) (hp : post v S) : ZW p l e R s m args below meth c D cI cZ cO A (MQ below (va_Ql post (zB D cI cZ cO A) A) args s mc ms A) [] nL S cells slots (pc) lo ([.long v]) := fun H locs ls hP hD hS hl9 =>
  W.widen hc hs (W.lret h0.1 h0.2.1 hr (fun t ht hW => ⟨⟨v, S, rfl, hp, ⟨by rw [ht]; exact hP, va_K.moved hW.alike h0.2.2.2.1, hD⟩⟩, hS.F ht⟩) hS.2.2 hd hlocks)
theorem z_vret (h0 : ZC p s c cc nL D cI cZ cO A G) {post : PS → Prop} {mc ms : Nat} (hr : meth.sig.returnType = none) (hlocks : meth.locks = false) (hd : decode cc pc = .ok (.return_, 1)) (hc : cells ≤ mc) (hs : slots ≤ ms) (hp : post S) : ZW p l e R s m args below meth c D cI cZ cO A (MQ below (va_Qv post (zB D cI cZ cO A) A) args s mc ms A) [] nL S cells slots (pc) lo ([]) := fun H locs ls hP hD hS hl9 =>
  W.widen hc hs (W.vret h0.1 h0.2.1 hr (fun t ht hW => ⟨⟨S, rfl, hp, ⟨by rw [ht]; exact hP, va_K.moved hW.alike h0.2.2.2.1, hD⟩⟩, hS.F ht⟩) hS.2.2 hd hlocks)
theorem z_aret (h0 : ZC p s c cc nL D cI cZ cO A G) {post : Nat → PS → Prop} {mc ms : Nat} {a : Nat} {rt : FieldType} (hr : meth.sig.returnType = some rt) (hrt : (∃ n, rt = .object n) ∨ ∃ t, rt = .array t) (hlocks : meth.locks = false) (hd : decode cc pc = .ok (.areturn, 1)) (hc : cells ≤ mc) (hs : slots ≤ ms) (hp : post a S) : ZW p l e R s m args below meth c D cI cZ cO A (MQ below (va_Qr (zpost post) (fun u a t => u.1 = a ∧ zB D cI cZ cO A u.2 t) A) args s mc ms A) [] nL S cells slots (pc) lo ([.ref a]) := fun H locs ls hP hD hS hl9 =>
  W.widen hc hs (W.aret h0.1 h0.2.1 hr hrt (Or.inr ⟨a, rfl⟩) (fun t ht hW => ⟨⟨(a, S), a, rfl, hp, rfl, ⟨by rw [ht]; exact hP, va_K.moved hW.alike h0.2.2.2.1, hD⟩⟩, hS.F ht⟩) hS.2.2 hd hlocks)
/-- the pool's cells, and what comes behind H, are the body's -/
theorem zA_in {H : Heap} {locs : List Loc} (h0 : ZC p s c cc nL D cI cZ cO A G) (hD : va_D A (zw cI cZ cO S)) (hS : va_S A s.heap H locs) : ∀ q, zA cI cZ cO S H.size q → A q := by
  intro q h
  rcases h with ⟨k, x, h⟩ | h
  · exact hD.2 k _ h
  · exact h0.2.2.2.2.1 q (Nat.le_trans hS.1 h)
theorem zP_at {H : Heap} {locs : List Loc} (h0 : ZC p s c cc nL D cI cZ cO A G) (hP : va_P D vwCl (zw cI cZ cO S) H) (hD : va_D A (zw cI cZ cO S)) (hS : va_S A s.heap H locs) : ∀ U : State, U.heap = H → s.WarmedH U.vm → zP D cI cZ cO G S H.size U := by
  intro U hU hW
  subst hU
  exact ⟨rfl, hP, va_K.moved hW.alike h0.2.2.2.1, hD.weaken (fun _ _ _ _ => trivial), zG.at h0.2.2.2.2.2 hS.2.1 (zA_in h0 hD hS) hW⟩
/-- the objects of kind k are of class number ci -/
def kOk (k ci : Nat) : Prop := ∀ (cI cZ cO : ClassId) (S : PS) (a : Nat), pK S a = k → ∃ fs : List Value, pF cI cZ cO S a = .inr (ci, fs)
theorem z_recv {H : Heap} (h0 : ZC p s c cc nL D cI cZ cO A G) {k ci b : Nat} {q : vw_C} (hk : kOk k ci) (hc : vwCl[ci]? = some q) (hb : isK S k b) (hP : va_P D vwCl (X ++ zw cI cZ cO S) H) : ∃ cell : Cell, H[b]? = some cell ∧ cell.vm.isStatics = false ∧ s.vm.findClass q.1 = some cell.cls := by
  obtain ⟨fs, e1⟩ := hk cI cZ cO S b hb.2
  obtain ⟨q0, hq⟩ := va_pl_get (X := X) (f := pF cI cZ cO S) hb.1
  rw [e1] at hq
  exact va_recv h0.2.2.2.1 hP hc hq
theorem kOk0 : kOk 0 1 := fun cI cZ cO S a h => (let ⟨fs, h1, _⟩ := fO0 cI cZ cO S a h; ⟨fs, h1⟩)
theorem kOk1 : kOk 1 2 := fun cI cZ cO S a h => (let ⟨fs, h1, _⟩ := fI0 cI cZ cO S a h; ⟨fs, h1⟩)
theorem kOk2 : kOk 2 3 := fun cI cZ cO S a h => (let ⟨fs, h1, _⟩ := fI2 cI cZ cO S a h; ⟨fs, h1⟩)
theorem kOk3 : kOk 3 4 := fun cI cZ cO S a h => (let ⟨fs, h1, _⟩ := fI6 cI cZ cO S a h; ⟨fs, h1⟩)
theorem kOk4 : kOk 4 5 := fun cI cZ cO S a h => (let ⟨fs, h1, _⟩ := fI10 cI cZ cO S a h; ⟨fs, h1⟩)
theorem kOk5 : kOk 5 6 := fun cI cZ cO S a h => (let ⟨fs, h1, _⟩ := fO6 cI cZ cO S a h; ⟨fs, h1⟩)
theorem kOk6 : kOk 6 7 := fun cI cZ cO S a h => (let ⟨fs, h1, _⟩ := fI15 cI cZ cO S a h; ⟨fs, h1⟩)
theorem kOk7 : kOk 7 0 := fun cI cZ cO S a h => (let ⟨fs, h1, _⟩ := fI19 cI cZ cO S a h; ⟨fs, h1⟩)
theorem z_cVi (h0 : ZC p s c cc nL D cI cZ cO A G) {own : String} {C : String} {index maxL n : Nat} {y : MethodName} {bytes : ByteArray} {ret : Option FieldType} {ws ws' Ts : List Cond} {rm : Room} {post : Int32 → PS → Prop} {As st0 : List Value} {b : Nat} {k ci : Nat} {T9 : u_T} {N9 : Nat} (hts : ∀ w ∈ Ts, w.before args s = true) (hown : s.vm.findClass own = some m.cls) (hM : zMi l y ws rm (.ref b :: As) D cI cZ cO G S post) (hg : GoodIn Ts (wsV own index C y ws)) (hw : ws = Cond.code y bytes maxL ret :: ws') (hdd : y.cls = C ∧ y.cls ≠ "java/lang/invoke/MethodHandle" ∧ y.cls ≠ "java/lang/invoke/VarHandle" ∧ (parseMethodDescriptor y.desc).map (fun d => d.parameters.length) = some n) (hR : rm.frames + 1 ≤ R.frames ∧ 8 + (maxL + 11) + rm.locals ≤ R.locals) (hk : kOk k ci) (hc : vwCl[ci]? = some (C, T9, N9)) (hb : isK S k b) (hd : decode cc pc = .ok (.invokevirtual index, 3)) (hst : st0 = As.reverse ++ .ref b :: st) (hn : As.length = n) (hsum : (st.map fun v => v.category).sum ≤ 8) (hf : cells + rm.cells ≤ R.cells ∧ slots + rm.slots ≤ R.slots) 
    (kk : ∀ (r : Int32) (S' : PS), post r S' → ZW p l e R s m args below meth c D cI cZ cO A Q [] nL S' (cells + rm.cells) (slots + rm.slots) (pc + 3) lo (.int r :: st)) : ZW p l e R s m args below meth c D cI cZ cO A Q [] nL S cells slots (pc) lo (st0) := by
  subst hst
  intro H locs ls hP hD hS hl9
  have hin := zA_in h0 hD hS
  refine va_calli (va_runV (As := As) (rest := st) ⟨h0.1, h0.2.1, h0.2.2.1, hown, hts⟩ (hM H.size) (cwV n hts hg hw rfl rfl hdd hR) ⟨zP_blind, z_recv (X := []) h0 hk hc hb hP, fun U hU hW => ⟨rfl, zP_at h0 hP hD hS U hU hW⟩⟩ rfl hn hl9.1 rfl (lv_room hsum) hd hf) hS (fun q _ h => hin q h) hin (fun r u t H1 locs1 ht hvm hp hB hz hk9 hS1 => ?_)
  obtain ⟨gP, gK, gD⟩ := hB
  rw [ht] at gP
  exact kk r u hp H1 locs1 ls gP (gD.weaken (fun _ _ _ h => hin _ h)) hS1 hl9
theorem z_xVi (h0 : ZC p s c cc nL D cI cZ cO A G) {own : String} {C : String} {index maxL n : Nat} {y : MethodName} {bytes : ByteArray} {ret : Option FieldType} {ws ws' Ts : List Cond} {rm : Room} {post : Int32 → PS → Prop} {As st0 : List Value} {b : Nat} {k ci : Nat} {T9 : u_T} {N9 : Nat} {Qc : Array Value → State → Outcome → State → Prop} {xe xe0 : String → Prop} {mc ms : Nat} (hts : ∀ w ∈ Ts, w.before args s = true) (hown : s.vm.findClass own = some m.cls) (hM : zXi l y ws rm (.ref b :: As) D cI cZ cO G S post xe0) (hg : GoodIn Ts (wsV own index C y ws)) (hw : ws = Cond.code y bytes maxL ret :: ws') (hdd : y.cls = C ∧ y.cls ≠ "java/lang/invoke/MethodHandle" ∧ y.cls ≠ "java/lang/invoke/VarHandle" ∧ (parseMethodDescriptor y.desc).map (fun d => d.parameters.length) = some n) (hR : rm.frames + 1 ≤ R.frames ∧ 8 + (maxL + 11) + rm.locals ≤ R.locals) (hk : kOk k ci) (hc : vwCl[ci]? = some (C, T9, N9)) (hb : isK S k b) (hd : decode cc pc = .ok (.invokevirtual index, 3)) (hst : st0 = As.reverse ++ .ref b :: st) (hn : As.length = n) (hsum : (st.map fun v => v.category).sum ≤ 8) (hf : cells + rm.cells ≤ R.cells ∧ slots + rm.slots ≤ R.slots) (htab : ∀ x ∈ c.exceptionTable.toList, False) (hlocks : meth.locks = false) (hcm : cells + rm.cells ≤ mc) (hsm : slots + rm.slots ≤ ms) (hxe : ∀ E, xe0 E → xe E) 
    (kk : ∀ (r : Int32) (S' : PS), post r S' → ZW p l e R s m args below meth c D cI cZ cO A (vx_MQ below Qc (vx_X (fun _ : Unit => True) (fun E _ t => xe E ∧ zB D cI cZ cO A S t) A) args s mc ms A) [] nL S' (cells + rm.cells) (slots + rm.slots) (pc + 3) lo (.int r :: st)) : ZW p l e R s m args below meth c D cI cZ cO A (vx_MQ below Qc (vx_X (fun _ : Unit => True) (fun E _ t => xe E ∧ zB D cI cZ cO A S t) A) args s mc ms A) [] nL S cells slots (pc) lo (st0) := by
  subst hst
  intro H locs ls hP hD hS hl9
  have hin := zA_in h0 hD hS
  refine vx_calli (vx_runV (As := As) (rest := st) ⟨h0.1, h0.2.1, h0.2.2.1, hown, hts⟩ (hM H.size) (cwV n hts hg hw rfl rfl hdd hR) ⟨zP_blind, z_recv (X := []) h0 hk hc hb hP, fun U hU hW => ⟨rfl, zP_at h0 hP hD hS U hU hW⟩⟩ rfl hn hl9.1 rfl (lv_room hsum) hd hf) hS (fun q _ h => hin q h) hin (fun q _ h => hin q h) (fun E ce q9 u t H1 locs1 ht hvm _ hB hz hk9 hS1 hce hcv hcl => ?_) (fun r u t H1 locs1 ht hvm hp hB hz hk9 hS1 => ?_)
  · obtain ⟨hxE, gP, gK, gD⟩ := hB
    rw [ht] at gP
    exact vx_out (fun x hx => (htab x hx).elim) hlocks hce hcv hcl (fun t2 ht2 hvm2 => ⟨(), trivial, ⟨hxe E hxE, by rw [ht2]; exact gP, va_K.moved hvm2 h0.2.2.2.1, gD.weaken (fun _ _ _ h => hin _ h)⟩, hS1.F ht2⟩) hS1.2.2 hcm hsm
  · obtain ⟨gP, gK, gD⟩ := hB
    rw [ht] at gP
    exact kk r u hp H1 locs1 ls gP (gD.weaken (fun _ _ _ h => hin _ h)) hS1 hl9
theorem z_cVl (h0 : ZC p s c cc nL D cI cZ cO A G) {own : String} {C : String} {index maxL n : Nat} {y : MethodName} {bytes : ByteArray} {ret : Option FieldType} {ws ws' Ts : List Cond} {rm : Room} {post : Int64 → PS → Prop} {As st0 : List Value} {b : Nat} {k ci : Nat} {T9 : u_T} {N9 : Nat} (hts : ∀ w ∈ Ts, w.before args s = true) (hown : s.vm.findClass own = some m.cls) (hM : zMl l y ws rm (.ref b :: As) D cI cZ cO G S post) (hg : GoodIn Ts (wsV own index C y ws)) (hw : ws = Cond.code y bytes maxL ret :: ws') (hdd : y.cls = C ∧ y.cls ≠ "java/lang/invoke/MethodHandle" ∧ y.cls ≠ "java/lang/invoke/VarHandle" ∧ (parseMethodDescriptor y.desc).map (fun d => d.parameters.length) = some n) (hR : rm.frames + 1 ≤ R.frames ∧ 8 + (maxL + 11) + rm.locals ≤ R.locals) (hk : kOk k ci) (hc : vwCl[ci]? = some (C, T9, N9)) (hb : isK S k b) (hd : decode cc pc = .ok (.invokevirtual index, 3)) (hst : st0 = As.reverse ++ .ref b :: st) (hn : As.length = n) (hsum : (st.map fun v => v.category).sum ≤ 8) (hf : cells + rm.cells ≤ R.cells ∧ slots + rm.slots ≤ R.slots) 
    (kk : ∀ (r : Int64) (S' : PS), post r S' → ZW p l e R s m args below meth c D cI cZ cO A Q [] nL S' (cells + rm.cells) (slots + rm.slots) (pc + 3) lo (.long r :: st)) : ZW p l e R s m args below meth c D cI cZ cO A Q [] nL S cells slots (pc) lo (st0) := by
  subst hst
  intro H locs ls hP hD hS hl9
  have hin := zA_in h0 hD hS
  refine va_calll (va_runV (As := As) (rest := st) ⟨h0.1, h0.2.1, h0.2.2.1, hown, hts⟩ (hM H.size) (cwV n hts hg hw rfl rfl hdd hR) ⟨zP_blind, z_recv (X := []) h0 hk hc hb hP, fun U hU hW => ⟨rfl, zP_at h0 hP hD hS U hU hW⟩⟩ rfl hn hl9.1 rfl (lv_room hsum) hd hf) hS (fun q _ h => hin q h) hin (fun r u t H1 locs1 ht hvm hp hB hz hk9 hS1 => ?_)
  obtain ⟨gP, gK, gD⟩ := hB
  rw [ht] at gP
  exact kk r u hp H1 locs1 ls gP (gD.weaken (fun _ _ _ h => hin _ h)) hS1 hl9
theorem z_xVl (h0 : ZC p s c cc nL D cI cZ cO A G) {own : String} {C : String} {index maxL n : Nat} {y : MethodName} {bytes : ByteArray} {ret : Option FieldType} {ws ws' Ts : List Cond} {rm : Room} {post : Int64 → PS → Prop} {As st0 : List Value} {b : Nat} {k ci : Nat} {T9 : u_T} {N9 : Nat} {Qc : Array Value → State → Outcome → State → Prop} {xe xe0 : String → Prop} {mc ms : Nat} (hts : ∀ w ∈ Ts, w.before args s = true) (hown : s.vm.findClass own = some m.cls) (hM : zXl l y ws rm (.ref b :: As) D cI cZ cO G S post xe0) (hg : GoodIn Ts (wsV own index C y ws)) (hw : ws = Cond.code y bytes maxL ret :: ws') (hdd : y.cls = C ∧ y.cls ≠ "java/lang/invoke/MethodHandle" ∧ y.cls ≠ "java/lang/invoke/VarHandle" ∧ (parseMethodDescriptor y.desc).map (fun d => d.parameters.length) = some n) (hR : rm.frames + 1 ≤ R.frames ∧ 8 + (maxL + 11) + rm.locals ≤ R.locals) (hk : kOk k ci) (hc : vwCl[ci]? = some (C, T9, N9)) (hb : isK S k b) (hd : decode cc pc = .ok (.invokevirtual index, 3)) (hst : st0 = As.reverse ++ .ref b :: st) (hn : As.length = n) (hsum : (st.map fun v => v.category).sum ≤ 8) (hf : cells + rm.cells ≤ R.cells ∧ slots + rm.slots ≤ R.slots) (htab : ∀ x ∈ c.exceptionTable.toList, False) (hlocks : meth.locks = false) (hcm : cells + rm.cells ≤ mc) (hsm : slots + rm.slots ≤ ms) (hxe : ∀ E, xe0 E → xe E) 
    (kk : ∀ (r : Int64) (S' : PS), post r S' → ZW p l e R s m args below meth c D cI cZ cO A (vx_MQ below Qc (vx_X (fun _ : Unit => True) (fun E _ t => xe E ∧ zB D cI cZ cO A S t) A) args s mc ms A) [] nL S' (cells + rm.cells) (slots + rm.slots) (pc + 3) lo (.long r :: st)) : ZW p l e R s m args below meth c D cI cZ cO A (vx_MQ below Qc (vx_X (fun _ : Unit => True) (fun E _ t => xe E ∧ zB D cI cZ cO A S t) A) args s mc ms A) [] nL S cells slots (pc) lo (st0) := by
  subst hst
  intro H locs ls hP hD hS hl9
  have hin := zA_in h0 hD hS
  refine vx_calll (vx_runV (As := As) (rest := st) ⟨h0.1, h0.2.1, h0.2.2.1, hown, hts⟩ (hM H.size) (cwV n hts hg hw rfl rfl hdd hR) ⟨zP_blind, z_recv (X := []) h0 hk hc hb hP, fun U hU hW => ⟨rfl, zP_at h0 hP hD hS U hU hW⟩⟩ rfl hn hl9.1 rfl (lv_room hsum) hd hf) hS (fun q _ h => hin q h) hin (fun q _ h => hin q h) (fun E ce q9 u t H1 locs1 ht hvm _ hB hz hk9 hS1 hce hcv hcl => ?_) (fun r u t H1 locs1 ht hvm hp hB hz hk9 hS1 => ?_)
  · obtain ⟨hxE, gP, gK, gD⟩ := hB
    rw [ht] at gP
    exact vx_out (fun x hx => (htab x hx).elim) hlocks hce hcv hcl (fun t2 ht2 hvm2 => ⟨(), trivial, ⟨hxe E hxE, by rw [ht2]; exact gP, va_K.moved hvm2 h0.2.2.2.1, gD.weaken (fun _ _ _ h => hin _ h)⟩, hS1.F ht2⟩) hS1.2.2 hcm hsm
  · obtain ⟨gP, gK, gD⟩ := hB
    rw [ht] at gP
    exact kk r u hp H1 locs1 ls gP (gD.weaken (fun _ _ _ h => hin _ h)) hS1 hl9
theorem z_cVv (h0 : ZC p s c cc nL D cI cZ cO A G) {own : String} {C : String} {index maxL n : Nat} {y : MethodName} {bytes : ByteArray} {ret : Option FieldType} {ws ws' Ts : List Cond} {rm : Room} {post : PS → Prop} {As st0 : List Value} {b : Nat} {k ci : Nat} {T9 : u_T} {N9 : Nat} (hts : ∀ w ∈ Ts, w.before args s = true) (hown : s.vm.findClass own = some m.cls) (hM : zMv l y ws rm (.ref b :: As) D cI cZ cO G S post) (hg : GoodIn Ts (wsV own index C y ws)) (hw : ws = Cond.code y bytes maxL ret :: ws') (hdd : y.cls = C ∧ y.cls ≠ "java/lang/invoke/MethodHandle" ∧ y.cls ≠ "java/lang/invoke/VarHandle" ∧ (parseMethodDescriptor y.desc).map (fun d => d.parameters.length) = some n) (hR : rm.frames + 1 ≤ R.frames ∧ 8 + (maxL + 11) + rm.locals ≤ R.locals) (hk : kOk k ci) (hc : vwCl[ci]? = some (C, T9, N9)) (hb : isK S k b) (hd : decode cc pc = .ok (.invokevirtual index, 3)) (hst : st0 = As.reverse ++ .ref b :: st) (hn : As.length = n) (hsum : (st.map fun v => v.category).sum ≤ 8) (hf : cells + rm.cells ≤ R.cells ∧ slots + rm.slots ≤ R.slots) 
    (kk : ∀ (S' : PS), post S' → ZW p l e R s m args below meth c D cI cZ cO A Q [] nL S' (cells + rm.cells) (slots + rm.slots) (pc + 3) lo (st)) : ZW p l e R s m args below meth c D cI cZ cO A Q [] nL S cells slots (pc) lo (st0) := by
  subst hst
  intro H locs ls hP hD hS hl9
  have hin := zA_in h0 hD hS
  refine va_callv (va_runV (As := As) (rest := st) ⟨h0.1, h0.2.1, h0.2.2.1, hown, hts⟩ (hM H.size) (cwV n hts hg hw rfl rfl hdd hR) ⟨zP_blind, z_recv (X := []) h0 hk hc hb hP, fun U hU hW => ⟨rfl, zP_at h0 hP hD hS U hU hW⟩⟩ rfl hn hl9.1 rfl (lv_room hsum) hd hf) hS (fun q _ h => hin q h) hin (fun u t H1 locs1 ht hvm hp hB hz hk9 hS1 => ?_)
  obtain ⟨gP, gK, gD⟩ := hB
  rw [ht] at gP
  exact kk u hp H1 locs1 ls gP (gD.weaken (fun _ _ _ h => hin _ h)) hS1 hl9
theorem z_xVv (h0 : ZC p s c cc nL D cI cZ cO A G) {own : String} {C : String} {index maxL n : Nat} {y : MethodName} {bytes : ByteArray} {ret : Option FieldType} {ws ws' Ts : List Cond} {rm : Room} {post : PS → Prop} {As st0 : List Value} {b : Nat} {k ci : Nat} {T9 : u_T} {N9 : Nat} {Qc : Array Value → State → Outcome → State → Prop} {xe xe0 : String → Prop} {mc ms : Nat} (hts : ∀ w ∈ Ts, w.before args s = true) (hown : s.vm.findClass own = some m.cls) (hM : zXv l y ws rm (.ref b :: As) D cI cZ cO G S post xe0) (hg : GoodIn Ts (wsV own index C y ws)) (hw : ws = Cond.code y bytes maxL ret :: ws') (hdd : y.cls = C ∧ y.cls ≠ "java/lang/invoke/MethodHandle" ∧ y.cls ≠ "java/lang/invoke/VarHandle" ∧ (parseMethodDescriptor y.desc).map (fun d => d.parameters.length) = some n) (hR : rm.frames + 1 ≤ R.frames ∧ 8 + (maxL + 11) + rm.locals ≤ R.locals) (hk : kOk k ci) (hc : vwCl[ci]? = some (C, T9, N9)) (hb : isK S k b) (hd : decode cc pc = .ok (.invokevirtual index, 3)) (hst : st0 = As.reverse ++ .ref b :: st) (hn : As.length = n) (hsum : (st.map fun v => v.category).sum ≤ 8) (hf : cells + rm.cells ≤ R.cells ∧ slots + rm.slots ≤ R.slots) (htab : ∀ x ∈ c.exceptionTable.toList, False) (hlocks : meth.locks = false) (hcm : cells + rm.cells ≤ mc) (hsm : slots + rm.slots ≤ ms) (hxe : ∀ E, xe0 E → xe E) 
    (kk : ∀ (S' : PS), post S' → ZW p l e R s m args below meth c D cI cZ cO A (vx_MQ below Qc (vx_X (fun _ : Unit => True) (fun E _ t => xe E ∧ zB D cI cZ cO A S t) A) args s mc ms A) [] nL S' (cells + rm.cells) (slots + rm.slots) (pc + 3) lo (st)) : ZW p l e R s m args below meth c D cI cZ cO A (vx_MQ below Qc (vx_X (fun _ : Unit => True) (fun E _ t => xe E ∧ zB D cI cZ cO A S t) A) args s mc ms A) [] nL S cells slots (pc) lo (st0) := by
  subst hst
  intro H locs ls hP hD hS hl9
  have hin := zA_in h0 hD hS
  refine vx_callv (vx_runV (As := As) (rest := st) ⟨h0.1, h0.2.1, h0.2.2.1, hown, hts⟩ (hM H.size) (cwV n hts hg hw rfl rfl hdd hR) ⟨zP_blind, z_recv (X := []) h0 hk hc hb hP, fun U hU hW => ⟨rfl, zP_at h0 hP hD hS U hU hW⟩⟩ rfl hn hl9.1 rfl (lv_room hsum) hd hf) hS (fun q _ h => hin q h) hin (fun q _ h => hin q h) (fun E ce q9 u t H1 locs1 ht hvm _ hB hz hk9 hS1 hce hcv hcl => ?_) (fun u t H1 locs1 ht hvm hp hB hz hk9 hS1 => ?_)
  · obtain ⟨hxE, gP, gK, gD⟩ := hB
    rw [ht] at gP
    exact vx_out (fun x hx => (htab x hx).elim) hlocks hce hcv hcl (fun t2 ht2 hvm2 => ⟨(), trivial, ⟨hxe E hxE, by rw [ht2]; exact gP, va_K.moved hvm2 h0.2.2.2.1, gD.weaken (fun _ _ _ h => hin _ h)⟩, hS1.F ht2⟩) hS1.2.2 hcm hsm
  · obtain ⟨gP, gK, gD⟩ := hB
    rw [ht] at gP
    exact kk u hp H1 locs1 ls gP (gD.weaken (fun _ _ _ h => hin _ h)) hS1 hl9
theorem z_cVr (h0 : ZC p s c cc nL D cI cZ cO A G) {own : String} {C : String} {index maxL n : Nat} {y : MethodName} {bytes : ByteArray} {ret : Option FieldType} {ws ws' Ts : List Cond} {rm : Room} {post : Nat → PS → Prop} {As st0 : List Value} {b : Nat} {k ci : Nat} {T9 : u_T} {N9 : Nat} (hts : ∀ w ∈ Ts, w.before args s = true) (hown : s.vm.findClass own = some m.cls) (hM : zMr l y ws rm (.ref b :: As) D cI cZ cO G S post) (hg : GoodIn Ts (wsV own index C y ws)) (hw : ws = Cond.code y bytes maxL ret :: ws') (hdd : y.cls = C ∧ y.cls ≠ "java/lang/invoke/MethodHandle" ∧ y.cls ≠ "java/lang/invoke/VarHandle" ∧ (parseMethodDescriptor y.desc).map (fun d => d.parameters.length) = some n) (hR : rm.frames + 1 ≤ R.frames ∧ 8 + (maxL + 11) + rm.locals ≤ R.locals) (hk : kOk k ci) (hc : vwCl[ci]? = some (C, T9, N9)) (hb : isK S k b) (hd : decode cc pc = .ok (.invokevirtual index, 3)) (hst : st0 = As.reverse ++ .ref b :: st) (hn : As.length = n) (hsum : (st.map fun v => v.category).sum ≤ 8) (hf : cells + rm.cells ≤ R.cells ∧ slots + rm.slots ≤ R.slots) 
    (kk : ∀ (r : Nat) (S' : PS), post r S' → ZW p l e R s m args below meth c D cI cZ cO A Q [] nL S' (cells + rm.cells) (slots + rm.slots) (pc + 3) lo (.ref r :: st)) : ZW p l e R s m args below meth c D cI cZ cO A Q [] nL S cells slots (pc) lo (st0) := by
  subst hst
  intro H locs ls hP hD hS hl9
  have hin := zA_in h0 hD hS
  refine va_callr (va_runV (As := As) (rest := st) ⟨h0.1, h0.2.1, h0.2.2.1, hown, hts⟩ (hM H.size) (cwV n hts hg hw rfl rfl hdd hR) ⟨zP_blind, z_recv (X := []) h0 hk hc hb hP, fun U hU hW => ⟨rfl, zP_at h0 hP hD hS U hU hW⟩⟩ rfl hn hl9.1 rfl (lv_room hsum) hd hf) hS (fun q _ h => hin q h) hin (fun u ra t H1 locs1 ht hvm hp hB hz hk9 hS1 => ?_)
  obtain ⟨r, S'⟩ := u
  obtain ⟨rfl, gP, gK, gD⟩ := hB
  rw [ht] at gP
  exact kk r S' hp H1 locs1 ls gP (gD.weaken (fun _ _ _ h => hin _ h)) hS1 hl9
theorem z_xVr (h0 : ZC p s c cc nL D cI cZ cO A G) {own : String} {C : String} {index maxL n : Nat} {y : MethodName} {bytes : ByteArray} {ret : Option FieldType} {ws ws' Ts : List Cond} {rm : Room} {post : Nat → PS → Prop} {As st0 : List Value} {b : Nat} {k ci : Nat} {T9 : u_T} {N9 : Nat} {Qc : Array Value → State → Outcome → State → Prop} {xe xe0 : String → Prop} {mc ms : Nat} (hts : ∀ w ∈ Ts, w.before args s = true) (hown : s.vm.findClass own = some m.cls) (hM : zXr l y ws rm (.ref b :: As) D cI cZ cO G S post xe0) (hg : GoodIn Ts (wsV own index C y ws)) (hw : ws = Cond.code y bytes maxL ret :: ws') (hdd : y.cls = C ∧ y.cls ≠ "java/lang/invoke/MethodHandle" ∧ y.cls ≠ "java/lang/invoke/VarHandle" ∧ (parseMethodDescriptor y.desc).map (fun d => d.parameters.length) = some n) (hR : rm.frames + 1 ≤ R.frames ∧ 8 + (maxL + 11) + rm.locals ≤ R.locals) (hk : kOk k ci) (hc : vwCl[ci]? = some (C, T9, N9)) (hb : isK S k b) (hd : decode cc pc = .ok (.invokevirtual index, 3)) (hst : st0 = As.reverse ++ .ref b :: st) (hn : As.length = n) (hsum : (st.map fun v => v.category).sum ≤ 8) (hf : cells + rm.cells ≤ R.cells ∧ slots + rm.slots ≤ R.slots) (htab : ∀ x ∈ c.exceptionTable.toList, False) (hlocks : meth.locks = false) (hcm : cells + rm.cells ≤ mc) (hsm : slots + rm.slots ≤ ms) (hxe : ∀ E, xe0 E → xe E) 
    (kk : ∀ (r : Nat) (S' : PS), post r S' → ZW p l e R s m args below meth c D cI cZ cO A (vx_MQ below Qc (vx_X (fun _ : Unit => True) (fun E _ t => xe E ∧ zB D cI cZ cO A S t) A) args s mc ms A) [] nL S' (cells + rm.cells) (slots + rm.slots) (pc + 3) lo (.ref r :: st)) : ZW p l e R s m args below meth c D cI cZ cO A (vx_MQ below Qc (vx_X (fun _ : Unit => True) (fun E _ t => xe E ∧ zB D cI cZ cO A S t) A) args s mc ms A) [] nL S cells slots (pc) lo (st0) := by
  subst hst
  intro H locs ls hP hD hS hl9
  have hin := zA_in h0 hD hS
  refine vx_callr (vx_runV (As := As) (rest := st) ⟨h0.1, h0.2.1, h0.2.2.1, hown, hts⟩ (hM H.size) (cwV n hts hg hw rfl rfl hdd hR) ⟨zP_blind, z_recv (X := []) h0 hk hc hb hP, fun U hU hW => ⟨rfl, zP_at h0 hP hD hS U hU hW⟩⟩ rfl hn hl9.1 rfl (lv_room hsum) hd hf) hS (fun q _ h => hin q h) hin (fun q _ h => hin q h) (fun E ce q9 u t H1 locs1 ht hvm _ hB hz hk9 hS1 hce hcv hcl => ?_) (fun u ra t H1 locs1 ht hvm hp hB hz hk9 hS1 => ?_)
  · obtain ⟨hxE, gP, gK, gD⟩ := hB
    rw [ht] at gP
    exact vx_out (fun x hx => (htab x hx).elim) hlocks hce hcv hcl (fun t2 ht2 hvm2 => ⟨(), trivial, ⟨hxe E hxE, by rw [ht2]; exact gP, va_K.moved hvm2 h0.2.2.2.1, gD.weaken (fun _ _ _ h => hin _ h)⟩, hS1.F ht2⟩) hS1.2.2 hcm hsm
  · obtain ⟨r, S'⟩ := u
    obtain ⟨rfl, gP, gK, gD⟩ := hB
    rw [ht] at gP
    exact kk r S' hp H1 locs1 ls gP (gD.weaken (fun _ _ _ h => hin _ h)) hS1 hl9
theorem z_cSi (h0 : ZC p s c cc nL D cI cZ cO A G) {own : String} {index maxL n : Nat} {y : MethodName} {bytes : ByteArray} {ret : Option FieldType} {ws ws' Ts : List Cond} {rm : Room} {post : Int32 → PS → Prop} {As st0 : List Value} (hts : ∀ w ∈ Ts, w.before args s = true) (hown : s.vm.findClass own = some m.cls) (hM : zMi l y ws rm As D cI cZ cO G S post) (hg : GoodIn Ts (va_wsS own index y ws)) (hw : ws = Cond.code y bytes maxL ret :: ws') (hdd : y.cls ≠ "java/lang/invoke/MethodHandle" ∧ y.cls ≠ "java/lang/invoke/VarHandle" ∧ (parseMethodDescriptor y.desc).map (fun d => d.parameters.length) = some n) (hR : rm.frames + 1 ≤ R.frames ∧ 8 + (maxL + 11) + rm.locals ≤ R.locals) (hd : decode cc pc = .ok (.invokestatic index, 3)) (hst : st0 = As.reverse ++ st) (hn : As.length = n) (hsum : (st.map fun v => v.category).sum ≤ 8) (hf : cells + rm.cells ≤ R.cells ∧ slots + rm.slots ≤ R.slots) 
    (kk : ∀ (r : Int32) (S' : PS), post r S' → ZW p l e R s m args below meth c D cI cZ cO A Q [] nL S' (cells + rm.cells) (slots + rm.slots) (pc + 3) lo (.int r :: st)) : ZW p l e R s m args below meth c D cI cZ cO A Q [] nL S cells slots (pc) lo (st0) := by
  subst hst
  intro H locs ls hP hD hS hl9
  have hin := zA_in h0 hD hS
  refine va_calli (va_runS (As := As) (rest := st) ⟨h0.1, h0.2.1, h0.2.2.1, hown, hts⟩ (hM H.size) (va_cwS n hts hg hw rfl rfl hdd hR) ⟨zP_blind, fun U hU hW => ⟨rfl, zP_at h0 hP hD hS U hU hW⟩⟩ rfl hn hl9.1 rfl (lv_room hsum) hd hf) hS (fun q _ h => hin q h) hin (fun r u t H1 locs1 ht hvm hp hB hz hk9 hS1 => ?_)
  obtain ⟨gP, gK, gD⟩ := hB
  rw [ht] at gP
  exact kk r u hp H1 locs1 ls gP (gD.weaken (fun _ _ _ h => hin _ h)) hS1 hl9
theorem z_xSi (h0 : ZC p s c cc nL D cI cZ cO A G) {own : String} {index maxL n : Nat} {y : MethodName} {bytes : ByteArray} {ret : Option FieldType} {ws ws' Ts : List Cond} {rm : Room} {post : Int32 → PS → Prop} {As st0 : List Value} {Qc : Array Value → State → Outcome → State → Prop} {xe xe0 : String → Prop} {mc ms : Nat} (hts : ∀ w ∈ Ts, w.before args s = true) (hown : s.vm.findClass own = some m.cls) (hM : zXi l y ws rm As D cI cZ cO G S post xe0) (hg : GoodIn Ts (va_wsS own index y ws)) (hw : ws = Cond.code y bytes maxL ret :: ws') (hdd : y.cls ≠ "java/lang/invoke/MethodHandle" ∧ y.cls ≠ "java/lang/invoke/VarHandle" ∧ (parseMethodDescriptor y.desc).map (fun d => d.parameters.length) = some n) (hR : rm.frames + 1 ≤ R.frames ∧ 8 + (maxL + 11) + rm.locals ≤ R.locals) (hd : decode cc pc = .ok (.invokestatic index, 3)) (hst : st0 = As.reverse ++ st) (hn : As.length = n) (hsum : (st.map fun v => v.category).sum ≤ 8) (hf : cells + rm.cells ≤ R.cells ∧ slots + rm.slots ≤ R.slots) (htab : ∀ x ∈ c.exceptionTable.toList, False) (hlocks : meth.locks = false) (hcm : cells + rm.cells ≤ mc) (hsm : slots + rm.slots ≤ ms) (hxe : ∀ E, xe0 E → xe E) 
    (kk : ∀ (r : Int32) (S' : PS), post r S' → ZW p l e R s m args below meth c D cI cZ cO A (vx_MQ below Qc (vx_X (fun _ : Unit => True) (fun E _ t => xe E ∧ zB D cI cZ cO A S t) A) args s mc ms A) [] nL S' (cells + rm.cells) (slots + rm.slots) (pc + 3) lo (.int r :: st)) : ZW p l e R s m args below meth c D cI cZ cO A (vx_MQ below Qc (vx_X (fun _ : Unit => True) (fun E _ t => xe E ∧ zB D cI cZ cO A S t) A) args s mc ms A) [] nL S cells slots (pc) lo (st0) := by
  subst hst
  intro H locs ls hP hD hS hl9
  have hin := zA_in h0 hD hS
  refine vx_calli (vx_runS (As := As) (rest := st) ⟨h0.1, h0.2.1, h0.2.2.1, hown, hts⟩ (hM H.size) (va_cwS n hts hg hw rfl rfl hdd hR) ⟨zP_blind, fun U hU hW => ⟨rfl, zP_at h0 hP hD hS U hU hW⟩⟩ rfl hn hl9.1 rfl (lv_room hsum) hd hf) hS (fun q _ h => hin q h) hin (fun q _ h => hin q h) (fun E ce q9 u t H1 locs1 ht hvm _ hB hz hk9 hS1 hce hcv hcl => ?_) (fun r u t H1 locs1 ht hvm hp hB hz hk9 hS1 => ?_)
  · obtain ⟨hxE, gP, gK, gD⟩ := hB
    rw [ht] at gP
    exact vx_out (fun x hx => (htab x hx).elim) hlocks hce hcv hcl (fun t2 ht2 hvm2 => ⟨(), trivial, ⟨hxe E hxE, by rw [ht2]; exact gP, va_K.moved hvm2 h0.2.2.2.1, gD.weaken (fun _ _ _ h => hin _ h)⟩, hS1.F ht2⟩) hS1.2.2 hcm hsm
  · obtain ⟨gP, gK, gD⟩ := hB
    rw [ht] at gP
    exact kk r u hp H1 locs1 ls gP (gD.weaken (fun _ _ _ h => hin _ h)) hS1 hl9
theorem z_cSl (h0 : ZC p s c cc nL D cI cZ cO A G) {own : String} {index maxL n : Nat} {y : MethodName} {bytes : ByteArray} {ret : Option FieldType} {ws ws' Ts : List Cond} {rm : Room} {post : Int64 → PS → Prop} {As st0 : List Value} (hts : ∀ w ∈ Ts, w.before args s = true) (hown : s.vm.findClass own = some m.cls) (hM : zMl l y ws rm As D cI cZ cO G S post) (hg : GoodIn Ts (va_wsS own index y ws)) (hw : ws = Cond.code y bytes maxL ret :: ws') (hdd : y.cls ≠ "java/lang/invoke/MethodHandle" ∧ y.cls ≠ "java/lang/invoke/VarHandle" ∧ (parseMethodDescriptor y.desc).map (fun d => d.parameters.length) = some n) (hR : rm.frames + 1 ≤ R.frames ∧ 8 + (maxL + 11) + rm.locals ≤ R.locals) (hd : decode cc pc = .ok (.invokestatic index, 3)) (hst : st0 = As.reverse ++ st) (hn : As.length = n) (hsum : (st.map fun v => v.category).sum ≤ 8) (hf : cells + rm.cells ≤ R.cells ∧ slots + rm.slots ≤ R.slots) 
    (kk : ∀ (r : Int64) (S' : PS), post r S' → ZW p l e R s m args below meth c D cI cZ cO A Q [] nL S' (cells + rm.cells) (slots + rm.slots) (pc + 3) lo (.long r :: st)) : ZW p l e R s m args below meth c D cI cZ cO A Q [] nL S cells slots (pc) lo (st0) := by
  subst hst
  intro H locs ls hP hD hS hl9
  have hin := zA_in h0 hD hS
  refine va_calll (va_runS (As := As) (rest := st) ⟨h0.1, h0.2.1, h0.2.2.1, hown, hts⟩ (hM H.size) (va_cwS n hts hg hw rfl rfl hdd hR) ⟨zP_blind, fun U hU hW => ⟨rfl, zP_at h0 hP hD hS U hU hW⟩⟩ rfl hn hl9.1 rfl (lv_room hsum) hd hf) hS (fun q _ h => hin q h) hin (fun r u t H1 locs1 ht hvm hp hB hz hk9 hS1 => ?_)
  obtain ⟨gP, gK, gD⟩ := hB
  rw [ht] at gP
  exact kk r u hp H1 locs1 ls gP (gD.weaken (fun _ _ _ h => hin _ h)) hS1 hl9
theorem z_xSl (h0 : ZC p s c cc nL D cI cZ cO A G) {own : String} {index maxL n : Nat} {y : MethodName} {bytes : ByteArray} {ret : Option FieldType} {ws ws' Ts : List Cond} {rm : Room} {post : Int64 → PS → Prop} {As st0 : List Value} {Qc : Array Value → State → Outcome → State → Prop} {xe xe0 : String → Prop} {mc ms : Nat} (hts : ∀ w ∈ Ts, w.before args s = true) (hown : s.vm.findClass own = some m.cls) (hM : zXl l y ws rm As D cI cZ cO G S post xe0) (hg : GoodIn Ts (va_wsS own index y ws)) (hw : ws = Cond.code y bytes maxL ret :: ws') (hdd : y.cls ≠ "java/lang/invoke/MethodHandle" ∧ y.cls ≠ "java/lang/invoke/VarHandle" ∧ (parseMethodDescriptor y.desc).map (fun d => d.parameters.length) = some n) (hR : rm.frames + 1 ≤ R.frames ∧ 8 + (maxL + 11) + rm.locals ≤ R.locals) (hd : decode cc pc = .ok (.invokestatic index, 3)) (hst : st0 = As.reverse ++ st) (hn : As.length = n) (hsum : (st.map fun v => v.category).sum ≤ 8) (hf : cells + rm.cells ≤ R.cells ∧ slots + rm.slots ≤ R.slots) (htab : ∀ x ∈ c.exceptionTable.toList, False) (hlocks : meth.locks = false) (hcm : cells + rm.cells ≤ mc) (hsm : slots + rm.slots ≤ ms) (hxe : ∀ E, xe0 E → xe E) 
    (kk : ∀ (r : Int64) (S' : PS), post r S' → ZW p l e R s m args below meth c D cI cZ cO A (vx_MQ below Qc (vx_X (fun _ : Unit => True) (fun E _ t => xe E ∧ zB D cI cZ cO A S t) A) args s mc ms A) [] nL S' (cells + rm.cells) (slots + rm.slots) (pc + 3) lo (.long r :: st)) : ZW p l e R s m args below meth c D cI cZ cO A (vx_MQ below Qc (vx_X (fun _ : Unit => True) (fun E _ t => xe E ∧ zB D cI cZ cO A S t) A) args s mc ms A) [] nL S cells slots (pc) lo (st0) := by
  subst hst
  intro H locs ls hP hD hS hl9
  have hin := zA_in h0 hD hS
  refine vx_calll (vx_runS (As := As) (rest := st) ⟨h0.1, h0.2.1, h0.2.2.1, hown, hts⟩ (hM H.size) (va_cwS n hts hg hw rfl rfl hdd hR) ⟨zP_blind, fun U hU hW => ⟨rfl, zP_at h0 hP hD hS U hU hW⟩⟩ rfl hn hl9.1 rfl (lv_room hsum) hd hf) hS (fun q _ h => hin q h) hin (fun q _ h => hin q h) (fun E ce q9 u t H1 locs1 ht hvm _ hB hz hk9 hS1 hce hcv hcl => ?_) (fun r u t H1 locs1 ht hvm hp hB hz hk9 hS1 => ?_)
  · obtain ⟨hxE, gP, gK, gD⟩ := hB
    rw [ht] at gP
    exact vx_out (fun x hx => (htab x hx).elim) hlocks hce hcv hcl (fun t2 ht2 hvm2 => ⟨(), trivial, ⟨hxe E hxE, by rw [ht2]; exact gP, va_K.moved hvm2 h0.2.2.2.1, gD.weaken (fun _ _ _ h => hin _ h)⟩, hS1.F ht2⟩) hS1.2.2 hcm hsm
  · obtain ⟨gP, gK, gD⟩ := hB
    rw [ht] at gP
    exact kk r u hp H1 locs1 ls gP (gD.weaken (fun _ _ _ h => hin _ h)) hS1 hl9
theorem z_cSv (h0 : ZC p s c cc nL D cI cZ cO A G) {own : String} {index maxL n : Nat} {y : MethodName} {bytes : ByteArray} {ret : Option FieldType} {ws ws' Ts : List Cond} {rm : Room} {post : PS → Prop} {As st0 : List Value} (hts : ∀ w ∈ Ts, w.before args s = true) (hown : s.vm.findClass own = some m.cls) (hM : zMv l y ws rm As D cI cZ cO G S post) (hg : GoodIn Ts (va_wsS own index y ws)) (hw : ws = Cond.code y bytes maxL ret :: ws') (hdd : y.cls ≠ "java/lang/invoke/MethodHandle" ∧ y.cls ≠ "java/lang/invoke/VarHandle" ∧ (parseMethodDescriptor y.desc).map (fun d => d.parameters.length) = some n) (hR : rm.frames + 1 ≤ R.frames ∧ 8 + (maxL + 11) + rm.locals ≤ R.locals) (hd : decode cc pc = .ok (.invokestatic index, 3)) (hst : st0 = As.reverse ++ st) (hn : As.length = n) (hsum : (st.map fun v => v.category).sum ≤ 8) (hf : cells + rm.cells ≤ R.cells ∧ slots + rm.slots ≤ R.slots) 
    (kk : ∀ (S' : PS), post S' → ZW p l e R s m args below meth c D cI cZ cO A Q [] nL S' (cells + rm.cells) (slots + rm.slots) (pc + 3) lo (st)) : ZW p l e R s m args below meth c D cI cZ cO A Q [] nL S cells slots (pc) lo (st0) := by
  subst hst
  intro H locs ls hP hD hS hl9
  have hin := zA_in h0 hD hS
  refine va_callv (va_runS (As := As) (rest := st) ⟨h0.1, h0.2.1, h0.2.2.1, hown, hts⟩ (hM H.size) (va_cwS n hts hg hw rfl rfl hdd hR) ⟨zP_blind, fun U hU hW => ⟨rfl, zP_at h0 hP hD hS U hU hW⟩⟩ rfl hn hl9.1 rfl (lv_room hsum) hd hf) hS (fun q _ h => hin q h) hin (fun u t H1 locs1 ht hvm hp hB hz hk9 hS1 => ?_)
  obtain ⟨gP, gK, gD⟩ := hB
  rw [ht] at gP
  exact kk u hp H1 locs1 ls gP (gD.weaken (fun _ _ _ h => hin _ h)) hS1 hl9
theorem z_xSv (h0 : ZC p s c cc nL D cI cZ cO A G) {own : String} {index maxL n : Nat} {y : MethodName} {bytes : ByteArray} {ret : Option FieldType} {ws ws' Ts : List Cond} {rm : Room} {post : PS → Prop} {As st0 : List Value} {Qc : Array Value → State → Outcome → State → Prop} {xe xe0 : String → Prop} {mc ms : Nat} (hts : ∀ w ∈ Ts, w.before args s = true) (hown : s.vm.findClass own = some m.cls) (hM : zXv l y ws rm As D cI cZ cO G S post xe0) (hg : GoodIn Ts (va_wsS own index y ws)) (hw : ws = Cond.code y bytes maxL ret :: ws') (hdd : y.cls ≠ "java/lang/invoke/MethodHandle" ∧ y.cls ≠ "java/lang/invoke/VarHandle" ∧ (parseMethodDescriptor y.desc).map (fun d => d.parameters.length) = some n) (hR : rm.frames + 1 ≤ R.frames ∧ 8 + (maxL + 11) + rm.locals ≤ R.locals) (hd : decode cc pc = .ok (.invokestatic index, 3)) (hst : st0 = As.reverse ++ st) (hn : As.length = n) (hsum : (st.map fun v => v.category).sum ≤ 8) (hf : cells + rm.cells ≤ R.cells ∧ slots + rm.slots ≤ R.slots) (htab : ∀ x ∈ c.exceptionTable.toList, False) (hlocks : meth.locks = false) (hcm : cells + rm.cells ≤ mc) (hsm : slots + rm.slots ≤ ms) (hxe : ∀ E, xe0 E → xe E) 
    (kk : ∀ (S' : PS), post S' → ZW p l e R s m args below meth c D cI cZ cO A (vx_MQ below Qc (vx_X (fun _ : Unit => True) (fun E _ t => xe E ∧ zB D cI cZ cO A S t) A) args s mc ms A) [] nL S' (cells + rm.cells) (slots + rm.slots) (pc + 3) lo (st)) : ZW p l e R s m args below meth c D cI cZ cO A (vx_MQ below Qc (vx_X (fun _ : Unit => True) (fun E _ t => xe E ∧ zB D cI cZ cO A S t) A) args s mc ms A) [] nL S cells slots (pc) lo (st0) := by
  subst hst
  intro H locs ls hP hD hS hl9
  have hin := zA_in h0 hD hS
  refine vx_callv (vx_runS (As := As) (rest := st) ⟨h0.1, h0.2.1, h0.2.2.1, hown, hts⟩ (hM H.size) (va_cwS n hts hg hw rfl rfl hdd hR) ⟨zP_blind, fun U hU hW => ⟨rfl, zP_at h0 hP hD hS U hU hW⟩⟩ rfl hn hl9.1 rfl (lv_room hsum) hd hf) hS (fun q _ h => hin q h) hin (fun q _ h => hin q h) (fun E ce q9 u t H1 locs1 ht hvm _ hB hz hk9 hS1 hce hcv hcl => ?_) (fun u t H1 locs1 ht hvm hp hB hz hk9 hS1 => ?_)
  · obtain ⟨hxE, gP, gK, gD⟩ := hB
    rw [ht] at gP
    exact vx_out (fun x hx => (htab x hx).elim) hlocks hce hcv hcl (fun t2 ht2 hvm2 => ⟨(), trivial, ⟨hxe E hxE, by rw [ht2]; exact gP, va_K.moved hvm2 h0.2.2.2.1, gD.weaken (fun _ _ _ h => hin _ h)⟩, hS1.F ht2⟩) hS1.2.2 hcm hsm
  · obtain ⟨gP, gK, gD⟩ := hB
    rw [ht] at gP
    exact kk u hp H1 locs1 ls gP (gD.weaken (fun _ _ _ h => hin _ h)) hS1 hl9
theorem z_cSr (h0 : ZC p s c cc nL D cI cZ cO A G) {own : String} {index maxL n : Nat} {y : MethodName} {bytes : ByteArray} {ret : Option FieldType} {ws ws' Ts : List Cond} {rm : Room} {post : Nat → PS → Prop} {As st0 : List Value} (hts : ∀ w ∈ Ts, w.before args s = true) (hown : s.vm.findClass own = some m.cls) (hM : zMr l y ws rm As D cI cZ cO G S post) (hg : GoodIn Ts (va_wsS own index y ws)) (hw : ws = Cond.code y bytes maxL ret :: ws') (hdd : y.cls ≠ "java/lang/invoke/MethodHandle" ∧ y.cls ≠ "java/lang/invoke/VarHandle" ∧ (parseMethodDescriptor y.desc).map (fun d => d.parameters.length) = some n) (hR : rm.frames + 1 ≤ R.frames ∧ 8 + (maxL + 11) + rm.locals ≤ R.locals) (hd : decode cc pc = .ok (.invokestatic index, 3)) (hst : st0 = As.reverse ++ st) (hn : As.length = n) (hsum : (st.map fun v => v.category).sum ≤ 8) (hf : cells + rm.cells ≤ R.cells ∧ slots + rm.slots ≤ R.slots) 
    (kk : ∀ (r : Nat) (S' : PS), post r S' → ZW p l e R s m args below meth c D cI cZ cO A Q [] nL S' (cells + rm.cells) (slots + rm.slots) (pc + 3) lo (.ref r :: st)) : ZW p l e R s m args below meth c D cI cZ cO A Q [] nL S cells slots (pc) lo (st0) := by
  subst hst
  intro H locs ls hP hD hS hl9
  have hin := zA_in h0 hD hS
  refine va_callr (va_runS (As := As) (rest := st) ⟨h0.1, h0.2.1, h0.2.2.1, hown, hts⟩ (hM H.size) (va_cwS n hts hg hw rfl rfl hdd hR) ⟨zP_blind, fun U hU hW => ⟨rfl, zP_at h0 hP hD hS U hU hW⟩⟩ rfl hn hl9.1 rfl (lv_room hsum) hd hf) hS (fun q _ h => hin q h) hin (fun u ra t H1 locs1 ht hvm hp hB hz hk9 hS1 => ?_)
  obtain ⟨r, S'⟩ := u
  obtain ⟨rfl, gP, gK, gD⟩ := hB
  rw [ht] at gP
  exact kk r S' hp H1 locs1 ls gP (gD.weaken (fun _ _ _ h => hin _ h)) hS1 hl9
theorem z_xSr (h0 : ZC p s c cc nL D cI cZ cO A G) {own : String} {index maxL n : Nat} {y : MethodName} {bytes : ByteArray} {ret : Option FieldType} {ws ws' Ts : List Cond} {rm : Room} {post : Nat → PS → Prop} {As st0 : List Value} {Qc : Array Value → State → Outcome → State → Prop} {xe xe0 : String → Prop} {mc ms : Nat} (hts : ∀ w ∈ Ts, w.before args s = true) (hown : s.vm.findClass own = some m.cls) (hM : zXr l y ws rm As D cI cZ cO G S post xe0) (hg : GoodIn Ts (va_wsS own index y ws)) (hw : ws = Cond.code y bytes maxL ret :: ws') (hdd : y.cls ≠ "java/lang/invoke/MethodHandle" ∧ y.cls ≠ "java/lang/invoke/VarHandle" ∧ (parseMethodDescriptor y.desc).map (fun d => d.parameters.length) = some n) (hR : rm.frames + 1 ≤ R.frames ∧ 8 + (maxL + 11) + rm.locals ≤ R.locals) (hd : decode cc pc = .ok (.invokestatic index, 3)) (hst : st0 = As.reverse ++ st) (hn : As.length = n) (hsum : (st.map fun v => v.category).sum ≤ 8) (hf : cells + rm.cells ≤ R.cells ∧ slots + rm.slots ≤ R.slots) (htab : ∀ x ∈ c.exceptionTable.toList, False) (hlocks : meth.locks = false) (hcm : cells + rm.cells ≤ mc) (hsm : slots + rm.slots ≤ ms) (hxe : ∀ E, xe0 E → xe E) 
    (kk : ∀ (r : Nat) (S' : PS), post r S' → ZW p l e R s m args below meth c D cI cZ cO A (vx_MQ below Qc (vx_X (fun _ : Unit => True) (fun E _ t => xe E ∧ zB D cI cZ cO A S t) A) args s mc ms A) [] nL S' (cells + rm.cells) (slots + rm.slots) (pc + 3) lo (.ref r :: st)) : ZW p l e R s m args below meth c D cI cZ cO A (vx_MQ below Qc (vx_X (fun _ : Unit => True) (fun E _ t => xe E ∧ zB D cI cZ cO A S t) A) args s mc ms A) [] nL S cells slots (pc) lo (st0) := by
  subst hst
  intro H locs ls hP hD hS hl9
  have hin := zA_in h0 hD hS
  refine vx_callr (vx_runS (As := As) (rest := st) ⟨h0.1, h0.2.1, h0.2.2.1, hown, hts⟩ (hM H.size) (va_cwS n hts hg hw rfl rfl hdd hR) ⟨zP_blind, fun U hU hW => ⟨rfl, zP_at h0 hP hD hS U hU hW⟩⟩ rfl hn hl9.1 rfl (lv_room hsum) hd hf) hS (fun q _ h => hin q h) hin (fun q _ h => hin q h) (fun E ce q9 u t H1 locs1 ht hvm _ hB hz hk9 hS1 hce hcv hcl => ?_) (fun u ra t H1 locs1 ht hvm hp hB hz hk9 hS1 => ?_)
  · obtain ⟨hxE, gP, gK, gD⟩ := hB
    rw [ht] at gP
    exact vx_out (fun x hx => (htab x hx).elim) hlocks hce hcv hcl (fun t2 ht2 hvm2 => ⟨(), trivial, ⟨hxe E hxE, by rw [ht2]; exact gP, va_K.moved hvm2 h0.2.2.2.1, gD.weaken (fun _ _ _ h => hin _ h)⟩, hS1.F ht2⟩) hS1.2.2 hcm hsm
  · obtain ⟨r, S'⟩ := u
    obtain ⟨rfl, gP, gK, gD⟩ := hB
    rw [ht] at gP
    exact kk r S' hp H1 locs1 ls gP (gD.weaken (fun _ _ _ h => hin _ h)) hS1 hl9
theorem z_cIv (h0 : ZC p s c cc nL D cI cZ cO A G) {own : String} {index maxL n : Nat} {y : MethodName} {bytes : ByteArray} {ws ws' Ts : List Cond} {rm : Room} {post : PS → Prop} {As st0 : List Value} {b : Nat} (hts : ∀ w ∈ Ts, w.before args s = true) (hown : s.vm.findClass own = some m.cls) (hM : zMv l y ws rm (.ref b :: As) D cI cZ cO G S post) (hg : GoodIn Ts ws) (hw : ws = Cond.code y bytes maxL none :: ws') (hdd : y.cls ≠ "java/lang/invoke/MethodHandle" ∧ y.cls ≠ "java/lang/invoke/VarHandle" ∧ (parseMethodDescriptor y.desc).map (fun d => d.parameters.length) = some n) (hR : rm.frames + 1 ≤ R.frames ∧ 8 + (maxL + 11) + rm.locals ≤ R.locals) (hini : (Cond.initialized y.cls).before args s = true) (hlk : (Cond.methodLink own index y).before args s = true) (hins : (Cond.instanceMethod y).before args s = true) (hy1 : y.name = "<init>") (hd : decode cc pc = .ok (.invokespecial index, 3)) (hst : st0 = As.reverse ++ .ref b :: st) (hn : As.length = n) (hsum : (st.map fun v => v.category).sum ≤ 8) (hf : cells + rm.cells ≤ R.cells ∧ slots + rm.slots ≤ R.slots) 
    (kk : ∀ (S' : PS), post S' → ZW p l e R s m args below meth c D cI cZ cO A Q [] nL S' (cells + rm.cells) (slots + rm.slots) (pc + 3) lo (st)) : ZW p l e R s m args below meth c D cI cZ cO A Q [] nL S cells slots (pc) lo (st0) := by
  subst hst
  intro H locs ls hP hD hS hl9
  have hin := zA_in h0 hD hS
  refine va_callv (va_runI (As := As) (rest := st) ⟨h0.1, h0.2.1, h0.2.2.1, hown, hts⟩ (hM H.size) (cwI n hts hg hw rfl rfl hini hlk hins hy1 hdd hR) ⟨zP_blind, fun U hU hW => ⟨rfl, zP_at h0 hP hD hS U hU hW⟩⟩ rfl hn hl9.1 rfl (lv_room hsum) hd hf) hS (fun q _ h => hin q h) hin (fun u t H1 locs1 ht hvm hp hB hz hk9 hS1 => ?_)
  obtain ⟨gP, gK, gD⟩ := hB
  rw [ht] at gP
  exact kk u hp H1 locs1 ls gP (gD.weaken (fun _ _ _ h => hin _ h)) hS1 hl9
end CALLS
