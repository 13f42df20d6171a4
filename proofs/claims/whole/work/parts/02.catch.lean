/-! Catching behind a table whose catch types may still be unresolved (the printed vx_catch wants it; rounds hold no such law): the search goes through rows that name other classes, each link noted in the tables. -/
section QCATCH
/-- what the search gives in the state U, whatever is asked afterwards, and the tables that it leaves -/
def qc_To (e : Env) (U : State) (f : JFrame) (a : Addr) (h : Handler) (vm' : Vm) : Prop :=
  ∀ (Q : Handler → Pre) (E : CtlPost) (d : Bool) (acts : List Action), wp (findHandler f a) Q E e d acts U ↔ Q h d acts (U.setVm vm')
/-- a row that doesn't take it: it covers another stretch, or links to a class that the thrown one isn't of -/
def qc_pass (pl : Platform) (s₀ : State) (d : ClassId) (pc : Nat) (thrown : ClassId) (y : ExceptionTableEntry) : Prop :=
  covers y pc = false ∨ (y.catchType ≠ 0 ∧ ∃ c, s₀.vm.ClassLinks pl d y.catchType c ∧ s₀.vm.assignable thrown c = false)
theorem qc_goLink {Q : Handler → Pre} {E : CtlPost} {e : Env} {d : Bool} {acts : List Action} {U : State} {f : JFrame} {a : Addr} {x : ExceptionTableEntry} {t : List ExceptionTableEntry} {c : ClassId} {cell : Cell} (hx : covers x f.pc = true) (h0 : x.catchType ≠ 0)
    (hl : U.vm.ClassLinks e.platform f.method.cls x.catchType c) (hcell : U.heap[a]? = some cell) (hobj : ∀ k, cell.vm ≠ .statics k)
    (hk : ∃ k, U.vm.classes[cell.cls]? = some k) (hc : ∃ k, U.vm.classes[c]? = some k) :
    wp (findHandler.go f a (x :: t)) Q E e d acts U ↔ if U.vm.assignable cell.cls c = true then Q (.found x.handlerPc) d acts (U.setVm (U.vm.noted f.method.cls x.catchType (.cls c)))
      else wp (findHandler.go f a t) Q E e d acts (U.setVm (U.vm.noted f.method.cls x.catchType (.cls c))) := by
  simp only [covers] at hx
  obtain ⟨ha, ht⟩ := (resolveClass_links e.toSetting hl).op (op := VmOp.resolveClass f.method.cls x.catchType) rfl
  have hal : U.vm.Alike (U.vm.noted f.method.cls x.catchType (.cls c)) := (Vm.Alike.refl U.vm).noted _ _ _
  obtain ⟨k1, hk1⟩ := hk
  obtain ⟨k2, hk2⟩ := hc
  obtain ⟨k1', hk1', -⟩ := hal.2.2 _ _ hk1
  obtain ⟨k2', hk2', -⟩ := hal.2.2 _ _ hk2
  cases hfit : U.vm.assignable cell.cls c
  · have hno : (U.vm.noted f.method.cls x.catchType (.cls c)).assignable cell.cls c = false := by rw [hal.assignable]; exact hfit
    simp [findHandler.go, hx, h0, ha, ht, hcell, hobj, hk1', hk2', hno, VmOp.dirties, VmOp.acts]
  · have hyes : (U.vm.noted f.method.cls x.catchType (.cls c)).assignable cell.cls c = true := by rw [hal.assignable]; exact hfit
    simp [findHandler.go, hx, h0, ha, ht, hcell, hobj, hk1', hk2', hyes, VmOp.dirties, VmOp.acts]
theorem qc_go {e : Env} {s₀ : State} {f : JFrame} {a : Addr} {cell : Cell} {cT : ClassId} (hobj : ∀ k, cell.vm ≠ .statics k) (hk0 : ∃ k, s₀.vm.classes[cell.cls]? = some k)
    (x : ExceptionTableEntry) (rest : List ExceptionTableEntry) (hx : covers x f.pc = true) (h0 : x.catchType ≠ 0) (hl : s₀.vm.ClassLinks e.platform f.method.cls x.catchType cT) (hfit : s₀.vm.assignable cell.cls cT = true) :
    ∀ (pre : List ExceptionTableEntry) (U : State), s₀.WarmedH U.vm → U.heap[a]? = some cell → (∀ y ∈ pre, qc_pass e.platform s₀ f.method.cls f.pc cell.cls y) →
      ∃ vm', s₀.WarmedH vm' ∧ ∀ (Q : Handler → Pre) (E : CtlPost) (d : Bool) (acts : List Action), wp (findHandler.go f a (pre ++ x :: rest)) Q E e d acts U ↔ Q (.found x.handlerPc) d acts (U.setVm vm') := by
  obtain ⟨k0, hk0⟩ := hk0
  intro pre
  induction pre with
  | nil =>
    intro U hW hcell _
    obtain ⟨k0', hk0', -⟩ := hW.alike.2.2 _ _ hk0
    obtain ⟨dk, _, _, kt, hd, _, _, _, _, hkt, _, hopen⟩ := hl.here
    obtain ⟨kt', hkt', -⟩ := hW.alike.2.2 _ _ hkt
    exact ⟨_, hW.noted hd hopen (State.rightAt_cls hl), fun Q E d acts => by
      rw [List.nil_append, qc_goLink hx h0 (hW.classLinks hl) hcell hobj ⟨k0', hk0'⟩ ⟨kt', hkt'⟩, if_pos (by rw [hW.alike.assignable]; exact hfit)]⟩
  | cons y ys ih =>
    intro U hW hcell hpass
    obtain ⟨k0', hk0', -⟩ := hW.alike.2.2 _ _ hk0
    have hrest : ∀ z ∈ ys, qc_pass e.platform s₀ f.method.cls f.pc cell.cls z := fun z hz => hpass z (List.mem_cons_of_mem _ hz)
    by_cases hcov : covers y f.pc = true
    · rcases hpass y (List.mem_cons_self ..) with h | ⟨h0, c, hl, hno⟩
      · rw [h] at hcov; cases hcov
      · obtain ⟨dk, _, _, kt, hd, _, _, _, _, hkt, _, hopen⟩ := hl.here
        obtain ⟨kt', hkt', -⟩ := hW.alike.2.2 _ _ hkt
        obtain ⟨vm', hW', hq⟩ := ih (U.setVm (U.vm.noted f.method.cls y.catchType (.cls c))) (hW.noted hd hopen (State.rightAt_cls hl)) hcell hrest
        exact ⟨vm', hW', fun Q E d acts => by
          rw [List.cons_append, qc_goLink hcov h0 (hW.classLinks hl) hcell hobj ⟨k0', hk0'⟩ ⟨kt', hkt'⟩, if_neg (by rw [hW.alike.assignable, hno]; decide)]
          exact hq Q E d acts⟩
    · obtain ⟨vm', hW', hq⟩ := ih U hW hcell hrest
      exact ⟨vm', hW', fun Q E d acts => by
        rw [List.cons_append, Jvm.W.findHandler_go_skip (by simpa using hcov)]
        exact hq Q E d acts⟩
theorem qc_step {e : Env} {U : State} {a : Addr} {f : JFrame} {r : List Frame} {pc : Nat} {vm' : Vm} (hfind : qc_To e U f a (.found pc) vm') :
    (stepThrowing e U a (.java f :: r)).Is ((U.setVm vm').setFrames (.java { f with pc := pc, stack := [.ref a] } :: r)) [] := by
  simp only [stepThrowing, searchFrame, vmDo]
  generalize hr : Sem.go _ e false [] U = res
  obtain ⟨as, rfl, ha⟩ := Sem.eq_ok_of hr (a := Handler.found pc) (s' := U.setVm vm') (acts' := []) (by simp [hfind _ _ _ _])
  exact ⟨rfl, ha⟩
theorem qc_frames (u : State) (vm' : Vm) (F G : List Frame) : ((u.setFrames F).setVm vm').setFrames G = (u.setVm vm').setFrames G := by
  have h1 : (u.setFrames F).setVm vm' = (u.setVm vm').setFrames F := rfl
  rw [h1, State.setFrames_setFrames]
theorem qc_caught {tb : Tables} {e : Env} {U target : State} {g : JFrame} {c : Code} {below : List Frame} {a : Addr} (h : At U g.method c below) {pc : Nat} {vm' : Vm}
    (hfind : qc_To e ((U.setTop g).pushFrame (.throwing a)) g a (.found pc) vm') (hrest : Steps tb e below ((U.setVm vm').setTop { g with pc := pc, stack := [.ref a] }) target) :
    Steps tb e below ((U.setTop g).pushFrame (.throwing a)) target := by
  obtain ⟨hgo, hw⟩ := h.throwing a
  refine Steps.head hgo hw ?_
  rw [stepThread_throwing (frames_entered h.top _), (qc_step (U := (U.setTop g).pushFrame (.throwing a)) hfind).1]
  obtain ⟨g₀, hg⟩ := Option.isSome_iff_exists.mp h.top
  obtain ⟨r, hr⟩ := State.topJava?_eq_some.mp hg
  have hr' : (U.setVm vm').frames = .java g₀ :: r := hr
  rw [State.setTop_of_frames _ hr'] at hrest
  rw [hr, List.tail_cons, State.pushFrame, qc_frames, State.setTop_of_frames _ hr, qc_frames]
  exact hrest
/-- a callee's throw, caught in this method by the row x, behind rows that pass it on -/
theorem qc_through {p : Program} {l : Launch} {e : Env} {R : Room} {s : State} {m₀ : MethodId} {args : Array Value} {below : List Frame} {meth : Method} {c : Code} {T : State} {locs : List Loc} {cells slots : Nat}
    (X : Stand p l e R s m₀ args below meth c T locs cells slots) (a : Addr) {g : JFrame} (hg : g.method = m₀) {s₀ : State} (hcome : Steps p.tables e below s₀ ((T.setTop g).pushFrame (.throwing a)))
    {cell : Cell} (hcell : T.heap[a]? = some cell) (hobj : cell.vm.isStatics = false) (hk0 : ∃ k, s.vm.classes[cell.cls]? = some k)
    (pre : List ExceptionTableEntry) (x : ExceptionTableEntry) (rest : List ExceptionTableEntry) (hsplit : c.exceptionTable.toList = pre ++ x :: rest)
    (hpass : ∀ y ∈ pre, qc_pass e.platform s m₀.cls g.pc cell.cls y) (hx : covers x g.pc = true) (h0 : x.catchType ≠ 0) {cT : ClassId} (hl : s.vm.ClassLinks e.platform m₀.cls x.catchType cT) (hfit : s.vm.assignable cell.cls cT = true) :
    ∃ vm', Stand p l e R s m₀ args below meth c (T.setVm vm') locs cells slots ∧ Steps p.tables e below s₀ ((T.setVm vm').setTop { g with pc := x.handlerPc, stack := [.ref a] }) := by
  subst hg
  obtain ⟨vm', hW', hq⟩ := qc_go (e := e) (s₀ := s) (f := g) (a := a) (cell := cell) (VmData.ne_statics_of hobj) hk0 x rest hx h0 hl hfit pre ((T.setTop g).pushFrame (.throwing a)) X.warmed hcell hpass
  have hf : qc_To e ((T.setTop g).pushFrame (.throwing a)) g a (.found x.handlerPc) vm' := fun Q E d acts => by rw [Jvm.W.findHandler_eq (s := (T.setTop g).pushFrame (.throwing a)) (meth := meth) (code := c) X.method' X.code, hsplit]; exact hq Q E d acts
  exact ⟨vm', X.noted hW', hcome.trans (qc_caught X.here hf (Steps.refl _))⟩
end QCATCH
