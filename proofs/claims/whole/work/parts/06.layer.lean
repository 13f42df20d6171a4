/-! THE LAYER: a walk over the pool S, the locals lo and the stack st alone; the heap, the frames' array and the written places ride behind. -/
section LAYER
/-- the locals that are known -/
def zl (ls : Array Slot) (nL : Nat) (lo : List (Option Value)) : Prop := ls.size = nL ∧ lv_wf ls ∧ ∀ (i : Nat) (v : Value), lo[i]? = some (some v) → ls[i]? = some (.val v)
def zlist (lo : List (Option Value)) : List (Nat × Value) := (List.range lo.length).filterMap fun i => match lo[i]? with
  | some (some v) => some (i, v)
  | _ => none
theorem zlist_mem {lo : List (Option Value)} {i : Nat} {v : Value} (h : lo[i]? = some (some v)) : (i, v) ∈ zlist lo := by
  refine List.mem_filterMap.mpr ⟨i, List.mem_range.mpr (List.getElem?_eq_some_iff.mp h).1, ?_⟩
  simp [h]
theorem zlist_of {lo : List (Option Value)} {q : Nat × Value} (h : q ∈ zlist lo) : lo[q.1]? = some (some q.2) := by
  obtain ⟨i, -, hi⟩ := List.mem_filterMap.mp h
  split at hi
  · next v hv => cases hi; exact hv
  · cases hi
theorem zl_has {ls : Array Slot} {nL : Nat} {lo : List (Option Value)} (h : zl ls nL lo) : lv_has ls nL (zlist lo) := ⟨h.1, h.2.1, fun q hq => h.2.2 q.1 q.2 (zlist_of hq)⟩
/-- no long ends at place i -/
def zok (lo : List (Option Value)) (i : Nat) : Bool := match i with
  | 0 => true
  | k + 1 => match lo[k]? with
    | some (some v) => v.category == 1
    | _ => true
theorem zok_spec {lo : List (Option Value)} {i k : Nat} {v : Value} (h : zok lo i = true) (hk : k + 1 = i) (hv : lo[k]? = some (some v)) : ¬ v.category = 2 := by
  subst hk
  simp only [zok, hv, beq_iff_eq] at h
  omega
theorem zl_1 {ls' : Array Slot} {nL i : Nat} {lo : List (Option Value)} {v : Value} (hz : zok lo i = true) (h : lv_has ls' nL ((i, v) :: (zlist lo).filter (fun q => !(q.1 == i) && !(q.1 + 1 == i && q.2.category == 2)))) : zl ls' nL (lo.set i (some v)) := by
  refine ⟨h.1, h.2.1, fun j w hw => ?_⟩
  by_cases hj : j = i
  · subst hj
    have hlt : j < (lo.set j (some v)).length := (List.getElem?_eq_some_iff.mp hw).1
    rw [List.length_set] at hlt
    rw [List.getElem?_set_self hlt] at hw
    cases hw
    exact h.2.2 (j, v) List.mem_cons_self
  · rw [List.getElem?_set_ne (fun q => hj q.symm)] at hw
    refine h.2.2 (j, w) (List.mem_cons_of_mem _ (List.mem_filter.mpr ⟨zlist_mem hw, ?_⟩))
    simp only [Bool.and_eq_true, Bool.not_eq_true', beq_eq_false_iff_ne, ne_eq, Bool.and_eq_false_iff]
    refine ⟨hj, ?_⟩
    by_cases h1 : j + 1 = i
    · exact Or.inr (zok_spec hz h1 hw)
    · exact Or.inl h1
theorem zl_2 {ls' : Array Slot} {nL i : Nat} {lo : List (Option Value)} {v : Value} (hz : zok lo i = true) (h : lv_has ls' nL ((i, v) :: (zlist lo).filter (fun q => !(q.1 == i) && (!(q.1 == i + 1) && !(q.1 + 1 == i && q.2.category == 2))))) : zl ls' nL ((lo.set i (some v)).set (i + 1) none) := by
  refine ⟨h.1, h.2.1, fun j w hw => ?_⟩
  by_cases hj1 : j = i + 1
  · subst hj1
    have hlt := (List.getElem?_eq_some_iff.mp hw).1
    rw [List.length_set] at hlt
    rw [List.getElem?_set_self hlt] at hw
    cases hw
  · rw [List.getElem?_set_ne (fun q => hj1 q.symm)] at hw
    by_cases hj : j = i
    · subst hj
      have hlt : j < (lo.set j (some v)).length := (List.getElem?_eq_some_iff.mp hw).1
      rw [List.length_set] at hlt
      rw [List.getElem?_set_self hlt] at hw
      cases hw
      exact h.2.2 (j, v) List.mem_cons_self
    · rw [List.getElem?_set_ne (fun q => hj q.symm)] at hw
      refine h.2.2 (j, w) (List.mem_cons_of_mem _ (List.mem_filter.mpr ⟨zlist_mem hw, ?_⟩))
      simp only [Bool.and_eq_true, Bool.not_eq_true', beq_eq_false_iff_ne, ne_eq, Bool.and_eq_false_iff]
      refine ⟨hj, hj1, ?_⟩
      by_cases h1 : j + 1 = i
      · exact Or.inr (zok_spec hz h1 hw)
      · exact Or.inl h1
theorem zargs_mem : ∀ (vs : List Value) (k i : Nat) (v : Value), vs.all (fun v => v.category == 1) = true → vs[i]? = some v → (k + i, v) ∈ lv_args k vs
  | [], _, i, v, _, h => by simp at h
  | w :: vs, k, 0, v, _, h => by
    simp only [List.getElem?_cons_zero, Option.some.injEq] at h
    subst h
    exact List.mem_cons_self
  | w :: vs, k, i + 1, v, ha, h => by
    simp only [List.all_cons, Bool.and_eq_true, beq_iff_eq] at ha
    have h1 : ¬ w.category = 2 := by omega
    have := zargs_mem vs (k + 1) i v ha.2 (by simpa using h)
    unfold lv_args
    rw [if_neg h1]
    refine List.mem_cons_of_mem _ ?_
    rwa [show k + (i + 1) = k + 1 + i by omega]
theorem zl_entry {vs : List Value} {n : Nat} {ls : Array Slot} (ha : vs.all (fun v => v.category == 1) = true) (h : lv_has ls n (lv_args 0 vs)) : zl ls n (vs.map some ++ List.replicate (n - vs.length) none) := by
  refine ⟨h.1, h.2.1, fun i v hv => ?_⟩
  have hi : vs[i]? = some v := by
    by_cases hl : i < vs.length
    · rw [List.getElem?_append_left (by simpa using hl), List.getElem?_map] at hv
      cases hx : vs[i]? with
      | none => simp [hx] at hv
      | some w => simp only [hx, Option.map_some, Option.some.injEq] at hv; rw [hv]
    · rw [List.getElem?_append_right (by simpa using Nat.not_lt.mp hl)] at hv
      have := List.mem_of_getElem? hv
      rw [List.mem_replicate] at this
      cases this.2
  have := h.2.2 _ (zargs_mem vs 0 i v ha hi)
  simpa using this
/-- the world of a pool -/
abbrev zw (cI cZ cO : ClassId) (S : PS) : va_W := va_pl (pL S) (pF cI cZ cO S)
abbrev zTy (cI cZ cO : ClassId) : List (ClassId × FieldType) := [(cI, .int), (cZ, .boolean), (cO, .object "java/lang/Object")]
/-- the texts of the exceptions, by their entries in PurseWorld's pool -/
def zStr : List (Nat × String) := [(38, "no such balance"), (49, "too many purses"), (65, "a purse cannot pay itself"), (68, "no such amount"), (131, "the purse is not idle"), (148, "the archive has nothing of the purse"), (167, "one side has not told"), (173, "already refunded"), (185, "a purse tells 0 to 3"), (196, "no such transfer in the log"), (214, "no such purse"), (216, "no such message"), (218, "no such entry"), (226, "there is no such part"), (228, "too many messages")]
def zEx : List String := ["java/lang/IllegalArgumentException", "java/lang/UnsupportedOperationException", "java/lang/IndexOutOfBoundsException", "java/lang/IllegalStateException"]
/-- the classes whose objects stand in lists -/
def zOb : List String := [RX1, RX2, RX3, RX4]
/-- the constructors above the four exceptions, and getClass -/
def zDe : List MethodName := [Jvm.Bundle.initS "java/lang/RuntimeException", Jvm.Bundle.initS "java/lang/Exception", Jvm.Bundle.initS "java/lang/Throwable", ⟨"java/lang/Object", "getClass", "()Ljava/lang/Class;"⟩]
/-- thrown, but not of the class that an earlier row of a table names -/
def zNc : List (String × String) := [("java/lang/UnsupportedOperationException", "java/lang/IllegalArgumentException"), ("java/lang/UnsupportedOperationException", "java/lang/IndexOutOfBoundsException"), ("java/lang/UnsupportedOperationException", "java/lang/IllegalStateException"), ("java/lang/IllegalArgumentException", "java/lang/IndexOutOfBoundsException"), ("java/lang/IllegalStateException", "java/lang/IndexOutOfBoundsException")]
/-- what of the start stays: ArrayList's empty array (G 0), the class object of Object[] (G 1), Throwable's two statics, the texts (G (10 + entry)) -/
def zG (G : Nat → Nat) (A : Nat → Prop) (U : State) (H : Heap) : Prop :=
  va_Z "java/util/ArrayList" "DEFAULTCAPACITY_EMPTY_ELEMENTDATA" "[Ljava/lang/Object;" (.ref (G 0)) A U H ∧ va_T (.object "java/lang/Object") (G 0) 0 (fun _ => .null) A U H ∧ va_Mi "[Ljava/lang/Object;" (G 1) U ∧
  vx_Zq Jvm.Bundle.tN "UNASSIGNED_STACK" Jvm.Bundle.steD A U H ∧ vx_Zq Jvm.Bundle.tN "SUPPRESSED_SENTINEL" Jvm.Bundle.listD A U H ∧ (∀ q ∈ zStr, vk_R RX5 q.1 q.2 (G (10 + q.1)) U) ∧ (∀ E ∈ zEx, va_Nw (.castable E E) U) ∧ (∀ C ∈ zOb, va_Nw (.castable C "java/lang/Object") U) ∧ (∀ q ∈ zNc, va_Nc q.1 q.2 U) ∧ (∀ y ∈ zDe, va_Nw (.declares y) U) ∧ va_AO "java/lang/Object" U
theorem zG.at {G : Nat → Nat} {A B : Nat → Prop} {u U : State} {H H1 : Heap} (h : zG G A u H) (hq : ∀ a : Nat, a < H.size → ¬ A a → H1[a]? = H[a]?) (hAB : ∀ q, B q → A q) (hW : u.WarmedH U.vm) : zG G B U H1 := by
  obtain ⟨h1, h2, h3, h4, h5, h6, h7, h8, h9, h10, h11⟩ := h
  have hvm := hW.alike
  exact ⟨va_Z.moved hvm ((h1.kept hq).narrow hAB), va_T.moved hvm ((h2.kept hq).narrow hAB), h3.moved hvm, vx_Zq.moved hvm ((h4.kept hq).narrow hAB), vx_Zq.moved hvm ((h5.kept hq).narrow hAB), fun q hq => vk_R.warm hW (h6 q hq), fun E hE => va_Nw.warmC hW (h7 E hE), fun C hC => va_Nw.warmC hW (h8 C hC), fun q hq => (h9 q hq).moved hvm, fun Y hY => va_Nw.warmD hW (h10 Y hY), va_AO.moved hvm h11⟩
/-- what a body has at hand all the time -/
def ZC (p : Program) (s : State) (c : Code) (cc : ByteArray) (nL : Nat) (D : va_G) (cI cZ cO : ClassId) (A : Nat → Prop) (G : Nat → Nat) : Prop :=
  p.tables.exec = Jvm.exec ∧ c.code = cc ∧ c.maxLocals = nL ∧ va_K D vwCl (zTy cI cZ cO) s ∧ (∀ q, s.heap.size ≤ q → A q) ∧ zG G A s s.heap
/-- the machine, with pool S behind the cells X, at pc, locals lo, stack st, comes to Q -/
def ZW (p : Program) (l : Launch) (e : Env) (R : Room) (s : State) (m : MethodId) (args : Array Value) (below : List Frame) (meth : Method) (c : Code) (D : va_G) (cI cZ cO : ClassId) (A : Nat → Prop) (Q : State → Prop) (X : va_W) (nL : Nat) (S : PS) (cells slots pc : Nat) (lo : List (Option Value)) (st : List Value) : Prop :=
  ∀ (H : Heap) (locs : List Loc) (ls : Array Slot), va_P D vwCl (X ++ zw cI cZ cO S) H → va_D A (X ++ zw cI cZ cO S) → va_S A s.heap H locs → zl ls nL lo → W p l e R s m args below meth c H locs cells slots Q (F0 m pc ls st)
variable {p : Program} {l : Launch} {e : Env} {R : Room} {s : State} {m : MethodId} {args : Array Value} {below : List Frame} {meth : Method} {c : Code} {D : va_G} {cI cZ cO : ClassId} {A : Nat → Prop} {Q : State → Prop} {X : va_W} {nL : Nat} {S : PS} {cells slots pc : Nat} {lo : List (Option Value)} {st : List Value} {cc : ByteArray} {G : Nat → Nat}
theorem z_iconst (h0 : ZC p s c cc nL D cI cZ cO A G) {n : Int} {v : Int32} (hd : decode cc pc = .ok (.iconst n, 1)) (hv : Int32.ofInt n = v) (kk : ZW p l e R s m args below meth c D cI cZ cO A Q X nL S cells slots (pc + 1) lo (.int v :: st)) : ZW p l e R s m args below meth c D cI cZ cO A Q X nL S cells slots (pc) lo (st) := fun H locs ls hP hD hS hl9 => lv_iconst h0.1 h0.2.1 hd hv (kk H locs ls hP hD hS hl9)
theorem z_bipush (h0 : ZC p s c cc nL D cI cZ cO A G) {n : Int} {v : Int32} (hd : decode cc pc = .ok (.bipush n, 2)) (hv : (Int8.ofInt n).toInt32 = v) (kk : ZW p l e R s m args below meth c D cI cZ cO A Q X nL S cells slots (pc + 2) lo (.int v :: st)) : ZW p l e R s m args below meth c D cI cZ cO A Q X nL S cells slots (pc) lo (st) := fun H locs ls hP hD hS hl9 => lv_bipush h0.1 h0.2.1 hd hv (kk H locs ls hP hD hS hl9)
theorem z_sipush (h0 : ZC p s c cc nL D cI cZ cO A G) {n : Int} {v : Int32} (hd : decode cc pc = .ok (.sipush n, 3)) (hv : (Int16.ofInt n).toInt32 = v) (kk : ZW p l e R s m args below meth c D cI cZ cO A Q X nL S cells slots (pc + 3) lo (.int v :: st)) : ZW p l e R s m args below meth c D cI cZ cO A Q X nL S cells slots (pc) lo (st) := fun H locs ls hP hD hS hl9 => lv_sipush h0.1 h0.2.1 hd hv (kk H locs ls hP hD hS hl9)
theorem z_lconst (h0 : ZC p s c cc nL D cI cZ cO A G) {n : Fin 2} {v : Int64} (hd : decode cc pc = .ok (.lconst n, 1)) (hv : Int64.ofNat (n : Nat) = v) (kk : ZW p l e R s m args below meth c D cI cZ cO A Q X nL S cells slots (pc + 1) lo (.long v :: st)) : ZW p l e R s m args below meth c D cI cZ cO A Q X nL S cells slots (pc) lo (st) := fun H locs ls hP hD hS hl9 => lv_lconst h0.1 h0.2.1 hd hv (kk H locs ls hP hD hS hl9)
theorem z_iload_n (h0 : ZC p s c cc nL D cI cZ cO A G) {k : Fin 4} {x : Int32} (hd : decode cc pc = .ok (.iload_n k, 1)) (hl : lo[(k : Nat)]? = some (some (.int x))) (kk : ZW p l e R s m args below meth c D cI cZ cO A Q X nL S cells slots (pc + 1) lo (.int x :: st)) : ZW p l e R s m args below meth c D cI cZ cO A Q X nL S cells slots (pc) lo (st) := fun H locs ls hP hD hS hl9 => lv_iload_n h0.1 h0.2.1 hd rfl (hl9.2.2 _ _ hl) (kk H locs ls hP hD hS hl9)
theorem z_iload (h0 : ZC p s c cc nL D cI cZ cO A G) {k : Nat} {x : Int32} (hd : decode cc pc = .ok (.iload k, 2)) (hl : lo[k]? = some (some (.int x))) (kk : ZW p l e R s m args below meth c D cI cZ cO A Q X nL S cells slots (pc + 2) lo (.int x :: st)) : ZW p l e R s m args below meth c D cI cZ cO A Q X nL S cells slots (pc) lo (st) := fun H locs ls hP hD hS hl9 => lv_iload h0.1 h0.2.1 hd (hl9.2.2 _ _ hl) (kk H locs ls hP hD hS hl9)
theorem z_lload_n (h0 : ZC p s c cc nL D cI cZ cO A G) {k : Fin 4} {x : Int64} (hd : decode cc pc = .ok (.lload_n k, 1)) (hl : lo[(k : Nat)]? = some (some (.long x))) (kk : ZW p l e R s m args below meth c D cI cZ cO A Q X nL S cells slots (pc + 1) lo (.long x :: st)) : ZW p l e R s m args below meth c D cI cZ cO A Q X nL S cells slots (pc) lo (st) := fun H locs ls hP hD hS hl9 => lv_lload_n h0.1 h0.2.1 hd rfl (hl9.2.2 _ _ hl) (kk H locs ls hP hD hS hl9)
theorem z_lload (h0 : ZC p s c cc nL D cI cZ cO A G) {k : Nat} {x : Int64} (hd : decode cc pc = .ok (.lload k, 2)) (hl : lo[k]? = some (some (.long x))) (kk : ZW p l e R s m args below meth c D cI cZ cO A Q X nL S cells slots (pc + 2) lo (.long x :: st)) : ZW p l e R s m args below meth c D cI cZ cO A Q X nL S cells slots (pc) lo (st) := fun H locs ls hP hD hS hl9 => lv_lload h0.1 h0.2.1 hd (hl9.2.2 _ _ hl) (kk H locs ls hP hD hS hl9)
theorem z_aload_n (h0 : ZC p s c cc nL D cI cZ cO A G) {k : Fin 4} {x : Nat} (hd : decode cc pc = .ok (.aload_n k, 1)) (hl : lo[(k : Nat)]? = some (some (.ref x))) (kk : ZW p l e R s m args below meth c D cI cZ cO A Q X nL S cells slots (pc + 1) lo (.ref x :: st)) : ZW p l e R s m args below meth c D cI cZ cO A Q X nL S cells slots (pc) lo (st) := fun H locs ls hP hD hS hl9 => lv_aload_n h0.1 h0.2.1 hd rfl (hl9.2.2 _ _ hl) (kk H locs ls hP hD hS hl9)
theorem z_aload (h0 : ZC p s c cc nL D cI cZ cO A G) {k : Nat} {x : Nat} (hd : decode cc pc = .ok (.aload k, 2)) (hl : lo[k]? = some (some (.ref x))) (kk : ZW p l e R s m args below meth c D cI cZ cO A Q X nL S cells slots (pc + 2) lo (.ref x :: st)) : ZW p l e R s m args below meth c D cI cZ cO A Q X nL S cells slots (pc) lo (st) := fun H locs ls hP hD hS hl9 => lv_aload h0.1 h0.2.1 hd (hl9.2.2 _ _ hl) (kk H locs ls hP hD hS hl9)
theorem z_istore_n (h0 : ZC p s c cc nL D cI cZ cO A G) {k : Fin 4} {x : Int32} {lo' : List (Option Value)} (hd : decode cc pc = .ok (.istore_n k, 1)) (hn : (k : Nat) < nL) (hz : zok lo (k : Nat) = true) (hlo : lo.set (k : Nat) (some (.int x)) = lo') (kk : ZW p l e R s m args below meth c D cI cZ cO A Q X nL S cells slots (pc + 1) lo' (st)) : ZW p l e R s m args below meth c D cI cZ cO A Q X nL S cells slots (pc) lo (.int x :: st) := fun H locs ls hP hD hS hl9 => lv_istore_n h0.1 h0.2.1 hd rfl (zl_has hl9) hn rfl (fun ls' h9 => kk H locs ls' hP hD hS (hlo ▸ zl_1 hz h9))
theorem z_istore (h0 : ZC p s c cc nL D cI cZ cO A G) {k : Nat} {x : Int32} {lo' : List (Option Value)} (hd : decode cc pc = .ok (.istore k, 2)) (hn : k < nL) (hz : zok lo k = true) (hlo : lo.set k (some (.int x)) = lo') (kk : ZW p l e R s m args below meth c D cI cZ cO A Q X nL S cells slots (pc + 2) lo' (st)) : ZW p l e R s m args below meth c D cI cZ cO A Q X nL S cells slots (pc) lo (.int x :: st) := fun H locs ls hP hD hS hl9 => lv_istore h0.1 h0.2.1 hd (zl_has hl9) hn rfl (fun ls' h9 => kk H locs ls' hP hD hS (hlo ▸ zl_1 hz h9))
theorem z_astore_n (h0 : ZC p s c cc nL D cI cZ cO A G) {k : Fin 4} {x : Nat} {lo' : List (Option Value)} (hd : decode cc pc = .ok (.astore_n k, 1)) (hn : (k : Nat) < nL) (hz : zok lo (k : Nat) = true) (hlo : lo.set (k : Nat) (some (.ref x)) = lo') (kk : ZW p l e R s m args below meth c D cI cZ cO A Q X nL S cells slots (pc + 1) lo' (st)) : ZW p l e R s m args below meth c D cI cZ cO A Q X nL S cells slots (pc) lo (.ref x :: st) := fun H locs ls hP hD hS hl9 => lv_astore_n h0.1 h0.2.1 hd rfl (zl_has hl9) hn rfl (fun ls' h9 => kk H locs ls' hP hD hS (hlo ▸ zl_1 hz h9))
theorem z_astore (h0 : ZC p s c cc nL D cI cZ cO A G) {k : Nat} {x : Nat} {lo' : List (Option Value)} (hd : decode cc pc = .ok (.astore k, 2)) (hn : k < nL) (hz : zok lo k = true) (hlo : lo.set k (some (.ref x)) = lo') (kk : ZW p l e R s m args below meth c D cI cZ cO A Q X nL S cells slots (pc + 2) lo' (st)) : ZW p l e R s m args below meth c D cI cZ cO A Q X nL S cells slots (pc) lo (.ref x :: st) := fun H locs ls hP hD hS hl9 => lv_astore h0.1 h0.2.1 hd (zl_has hl9) hn rfl (fun ls' h9 => kk H locs ls' hP hD hS (hlo ▸ zl_1 hz h9))
theorem z_lstore_n (h0 : ZC p s c cc nL D cI cZ cO A G) {k : Fin 4} {x : Int64} {lo' : List (Option Value)} (hd : decode cc pc = .ok (.lstore_n k, 1)) (hn : (k : Nat) + 1 < nL) (hz : zok lo (k : Nat) = true) (hlo : (lo.set (k : Nat) (some (.long x))).set ((k : Nat) + 1) none = lo') (kk : ZW p l e R s m args below meth c D cI cZ cO A Q X nL S cells slots (pc + 1) lo' (st)) : ZW p l e R s m args below meth c D cI cZ cO A Q X nL S cells slots (pc) lo (.long x :: st) := fun H locs ls hP hD hS hl9 => lv_lstore_n h0.1 h0.2.1 hd rfl (zl_has hl9) hn rfl (fun ls' h9 => kk H locs ls' hP hD hS (hlo ▸ zl_2 hz h9))
theorem z_iinc (h0 : ZC p s c cc nL D cI cZ cO A G) {k : Nat} {n : Int} {x v : Int32} {lo' : List (Option Value)} (hd : decode cc pc = .ok (.iinc k n, 3)) (hl : lo[k]? = some (some (.int x))) (hv : x + Int32.ofInt n = v) (hn : k < nL) (hz : zok lo k = true) (hlo : lo.set k (some (.int v)) = lo') (kk : ZW p l e R s m args below meth c D cI cZ cO A Q X nL S cells slots (pc + 3) lo' (st)) : ZW p l e R s m args below meth c D cI cZ cO A Q X nL S cells slots (pc) lo (st) := by
  intro H locs ls hP hD hS hl9
  obtain ⟨i, hi⟩ := List.getElem?_of_mem (zlist_mem hl)
  exact lv_iinc h0.1 h0.2.1 hd (zl_has hl9) hi hv hn rfl (fun ls' h9 => kk H locs ls' hP hD hS (hlo ▸ zl_1 hz h9))
theorem z_iadd (h0 : ZC p s c cc nL D cI cZ cO A G) {x y : Int32} (hd : decode cc pc = .ok (.iadd, 1)) (kk : ZW p l e R s m args below meth c D cI cZ cO A Q X nL S cells slots (pc + 1) lo (.int (x + y) :: st)) : ZW p l e R s m args below meth c D cI cZ cO A Q X nL S cells slots (pc) lo (.int y :: .int x :: st) := fun H locs ls hP hD hS hl9 => lv_iadd h0.1 h0.2.1 hd (kk H locs ls hP hD hS hl9)
theorem z_isub (h0 : ZC p s c cc nL D cI cZ cO A G) {x y : Int32} (hd : decode cc pc = .ok (.isub, 1)) (kk : ZW p l e R s m args below meth c D cI cZ cO A Q X nL S cells slots (pc + 1) lo (.int (x - y) :: st)) : ZW p l e R s m args below meth c D cI cZ cO A Q X nL S cells slots (pc) lo (.int y :: .int x :: st) := fun H locs ls hP hD hS hl9 => lv_isub h0.1 h0.2.1 hd (kk H locs ls hP hD hS hl9)
theorem z_imul (h0 : ZC p s c cc nL D cI cZ cO A G) {x y : Int32} (hd : decode cc pc = .ok (.imul, 1)) (kk : ZW p l e R s m args below meth c D cI cZ cO A Q X nL S cells slots (pc + 1) lo (.int (x * y) :: st)) : ZW p l e R s m args below meth c D cI cZ cO A Q X nL S cells slots (pc) lo (.int y :: .int x :: st) := fun H locs ls hP hD hS hl9 => lv_imul h0.1 h0.2.1 hd (kk H locs ls hP hD hS hl9)
theorem z_iand (h0 : ZC p s c cc nL D cI cZ cO A G) {x y : Int32} (hd : decode cc pc = .ok (.iand, 1)) (kk : ZW p l e R s m args below meth c D cI cZ cO A Q X nL S cells slots (pc + 1) lo (.int (x &&& y) :: st)) : ZW p l e R s m args below meth c D cI cZ cO A Q X nL S cells slots (pc) lo (.int y :: .int x :: st) := fun H locs ls hP hD hS hl9 => lv_iand h0.1 h0.2.1 hd (kk H locs ls hP hD hS hl9)
theorem z_ladd (h0 : ZC p s c cc nL D cI cZ cO A G) {x y : Int64} (hd : decode cc pc = .ok (.ladd, 1)) (kk : ZW p l e R s m args below meth c D cI cZ cO A Q X nL S cells slots (pc + 1) lo (.long (x + y) :: st)) : ZW p l e R s m args below meth c D cI cZ cO A Q X nL S cells slots (pc) lo (.long y :: .long x :: st) := fun H locs ls hP hD hS hl9 => lv_ladd h0.1 h0.2.1 hd (kk H locs ls hP hD hS hl9)
theorem z_i2l (h0 : ZC p s c cc nL D cI cZ cO A G) {x : Int32} (hd : decode cc pc = .ok (.i2l, 1)) (kk : ZW p l e R s m args below meth c D cI cZ cO A Q X nL S cells slots (pc + 1) lo (.long x.toInt64 :: st)) : ZW p l e R s m args below meth c D cI cZ cO A Q X nL S cells slots (pc) lo (.int x :: st) := fun H locs ls hP hD hS hl9 => lv_i2l h0.1 h0.2.1 hd rfl (kk H locs ls hP hD hS hl9)
theorem z_lcmp (h0 : ZC p s c cc nL D cI cZ cO A G) {x y : Int64} (hd : decode cc pc = .ok (.lcmp, 1)) (kk : ZW p l e R s m args below meth c D cI cZ cO A Q X nL S cells slots (pc + 1) lo (.int (lg_cmp x y) :: st)) : ZW p l e R s m args below meth c D cI cZ cO A Q X nL S cells slots (pc) lo (.long y :: .long x :: st) := fun H locs ls hP hD hS hl9 => W.lcmp h0.1 h0.2.1 hd (kk H locs ls hP hD hS hl9)
theorem z_dup (h0 : ZC p s c cc nL D cI cZ cO A G) {va : Value} (hd : decode cc pc = .ok (.dup, 1)) (hva : va.category = 1) (kk : ZW p l e R s m args below meth c D cI cZ cO A Q X nL S cells slots (pc + 1) lo (va :: va :: st)) : ZW p l e R s m args below meth c D cI cZ cO A Q X nL S cells slots (pc) lo (va :: st) := fun H locs ls hP hD hS hl9 => lv_dup h0.1 h0.2.1 hd hva (kk H locs ls hP hD hS hl9)
theorem z_pop (h0 : ZC p s c cc nL D cI cZ cO A G) {va : Value} (hd : decode cc pc = .ok (.pop, 1)) (hva : va.category = 1) (kk : ZW p l e R s m args below meth c D cI cZ cO A Q X nL S cells slots (pc + 1) lo (st)) : ZW p l e R s m args below meth c D cI cZ cO A Q X nL S cells slots (pc) lo (va :: st) := fun H locs ls hP hD hS hl9 => lv_pop h0.1 h0.2.1 hd hva (kk H locs ls hP hD hS hl9)
theorem z_dup_x1 (h0 : ZC p s c cc nL D cI cZ cO A G) {va vb : Value} (hd : decode cc pc = .ok (.dup_x1, 1)) (hva : va.category = 1) (hvb : vb.category = 1) (kk : ZW p l e R s m args below meth c D cI cZ cO A Q X nL S cells slots (pc + 1) lo (va :: vb :: va :: st)) : ZW p l e R s m args below meth c D cI cZ cO A Q X nL S cells slots (pc) lo (va :: vb :: st) := fun H locs ls hP hD hS hl9 => lv_dup_x1 h0.1 h0.2.1 hd hva hvb (kk H locs ls hP hD hS hl9)
theorem z_dup2 (h0 : ZC p s c cc nL D cI cZ cO A G) {va vb : Value} (hd : decode cc pc = .ok (.dup2, 1)) (hva : va.category = 1) (hvb : vb.category = 1) (kk : ZW p l e R s m args below meth c D cI cZ cO A Q X nL S cells slots (pc + 1) lo (va :: vb :: va :: vb :: st)) : ZW p l e R s m args below meth c D cI cZ cO A Q X nL S cells slots (pc) lo (va :: vb :: st) := fun H locs ls hP hD hS hl9 => lv_dup2_11 h0.1 h0.2.1 hd hva hvb (kk H locs ls hP hD hS hl9)
theorem z_if_eq (h0 : ZC p s c cc nL D cI cZ cO A G) {x : Int32} {off : Int} {tgt : Nat} (hd : decode cc pc = .ok (.ifCond .eq off, 3)) (ht : (pc : Int) + off = (tgt : Int)) (kt : x = 0 → ZW p l e R s m args below meth c D cI cZ cO A Q X nL S cells slots (tgt) lo (st)) (kf : ¬ x = 0 → ZW p l e R s m args below meth c D cI cZ cO A Q X nL S cells slots (pc + 3) lo (st)) : ZW p l e R s m args below meth c D cI cZ cO A Q X nL S cells slots (pc) lo (.int x :: st) := fun H locs ls hP hD hS hl9 => lv_if_eq h0.1 h0.2.1 hd ht (fun q => kt q H locs ls hP hD hS hl9) (fun q => kf q H locs ls hP hD hS hl9)
theorem z_if_ne (h0 : ZC p s c cc nL D cI cZ cO A G) {x : Int32} {off : Int} {tgt : Nat} (hd : decode cc pc = .ok (.ifCond .ne off, 3)) (ht : (pc : Int) + off = (tgt : Int)) (kt : ¬ x = 0 → ZW p l e R s m args below meth c D cI cZ cO A Q X nL S cells slots (tgt) lo (st)) (kf : x = 0 → ZW p l e R s m args below meth c D cI cZ cO A Q X nL S cells slots (pc + 3) lo (st)) : ZW p l e R s m args below meth c D cI cZ cO A Q X nL S cells slots (pc) lo (.int x :: st) := fun H locs ls hP hD hS hl9 => lv_if_ne h0.1 h0.2.1 hd ht (fun q => kt q H locs ls hP hD hS hl9) (fun q => kf q H locs ls hP hD hS hl9)
theorem z_if_lt (h0 : ZC p s c cc nL D cI cZ cO A G) {x : Int32} {off : Int} {tgt : Nat} (hd : decode cc pc = .ok (.ifCond .lt off, 3)) (ht : (pc : Int) + off = (tgt : Int)) (kt : x < 0 → ZW p l e R s m args below meth c D cI cZ cO A Q X nL S cells slots (tgt) lo (st)) (kf : ¬ x < 0 → ZW p l e R s m args below meth c D cI cZ cO A Q X nL S cells slots (pc + 3) lo (st)) : ZW p l e R s m args below meth c D cI cZ cO A Q X nL S cells slots (pc) lo (.int x :: st) := fun H locs ls hP hD hS hl9 => lv_if_lt h0.1 h0.2.1 hd ht (fun q => kt q H locs ls hP hD hS hl9) (fun q => kf q H locs ls hP hD hS hl9)
theorem z_if_ge (h0 : ZC p s c cc nL D cI cZ cO A G) {x : Int32} {off : Int} {tgt : Nat} (hd : decode cc pc = .ok (.ifCond .ge off, 3)) (ht : (pc : Int) + off = (tgt : Int)) (kt : 0 ≤ x → ZW p l e R s m args below meth c D cI cZ cO A Q X nL S cells slots (tgt) lo (st)) (kf : ¬ 0 ≤ x → ZW p l e R s m args below meth c D cI cZ cO A Q X nL S cells slots (pc + 3) lo (st)) : ZW p l e R s m args below meth c D cI cZ cO A Q X nL S cells slots (pc) lo (.int x :: st) := fun H locs ls hP hD hS hl9 => lv_if_ge h0.1 h0.2.1 hd ht (fun q => kt q H locs ls hP hD hS hl9) (fun q => kf q H locs ls hP hD hS hl9)
theorem z_if_gt (h0 : ZC p s c cc nL D cI cZ cO A G) {x : Int32} {off : Int} {tgt : Nat} (hd : decode cc pc = .ok (.ifCond .gt off, 3)) (ht : (pc : Int) + off = (tgt : Int)) (kt : 0 < x → ZW p l e R s m args below meth c D cI cZ cO A Q X nL S cells slots (tgt) lo (st)) (kf : ¬ 0 < x → ZW p l e R s m args below meth c D cI cZ cO A Q X nL S cells slots (pc + 3) lo (st)) : ZW p l e R s m args below meth c D cI cZ cO A Q X nL S cells slots (pc) lo (.int x :: st) := fun H locs ls hP hD hS hl9 => lv_if_gt h0.1 h0.2.1 hd ht (fun q => kt q H locs ls hP hD hS hl9) (fun q => kf q H locs ls hP hD hS hl9)
theorem z_if_le (h0 : ZC p s c cc nL D cI cZ cO A G) {x : Int32} {off : Int} {tgt : Nat} (hd : decode cc pc = .ok (.ifCond .le off, 3)) (ht : (pc : Int) + off = (tgt : Int)) (kt : x ≤ 0 → ZW p l e R s m args below meth c D cI cZ cO A Q X nL S cells slots (tgt) lo (st)) (kf : ¬ x ≤ 0 → ZW p l e R s m args below meth c D cI cZ cO A Q X nL S cells slots (pc + 3) lo (st)) : ZW p l e R s m args below meth c D cI cZ cO A Q X nL S cells slots (pc) lo (.int x :: st) := fun H locs ls hP hD hS hl9 => lv_if_le h0.1 h0.2.1 hd ht (fun q => kt q H locs ls hP hD hS hl9) (fun q => kf q H locs ls hP hD hS hl9)
theorem z_icmp_eq (h0 : ZC p s c cc nL D cI cZ cO A G) {x y : Int32} {off : Int} {tgt : Nat} (hd : decode cc pc = .ok (.if_icmp .eq off, 3)) (ht : (pc : Int) + off = (tgt : Int)) (kt : x = y → ZW p l e R s m args below meth c D cI cZ cO A Q X nL S cells slots (tgt) lo (st)) (kf : ¬ x = y → ZW p l e R s m args below meth c D cI cZ cO A Q X nL S cells slots (pc + 3) lo (st)) : ZW p l e R s m args below meth c D cI cZ cO A Q X nL S cells slots (pc) lo (.int y :: .int x :: st) := fun H locs ls hP hD hS hl9 => lv_icmp_eq h0.1 h0.2.1 hd ht (fun q => kt q H locs ls hP hD hS hl9) (fun q => kf q H locs ls hP hD hS hl9)
theorem z_icmp_ne (h0 : ZC p s c cc nL D cI cZ cO A G) {x y : Int32} {off : Int} {tgt : Nat} (hd : decode cc pc = .ok (.if_icmp .ne off, 3)) (ht : (pc : Int) + off = (tgt : Int)) (kt : ¬ x = y → ZW p l e R s m args below meth c D cI cZ cO A Q X nL S cells slots (tgt) lo (st)) (kf : x = y → ZW p l e R s m args below meth c D cI cZ cO A Q X nL S cells slots (pc + 3) lo (st)) : ZW p l e R s m args below meth c D cI cZ cO A Q X nL S cells slots (pc) lo (.int y :: .int x :: st) := fun H locs ls hP hD hS hl9 => lv_icmp_ne h0.1 h0.2.1 hd ht (fun q => kt q H locs ls hP hD hS hl9) (fun q => kf q H locs ls hP hD hS hl9)
theorem z_icmp_lt (h0 : ZC p s c cc nL D cI cZ cO A G) {x y : Int32} {off : Int} {tgt : Nat} (hd : decode cc pc = .ok (.if_icmp .lt off, 3)) (ht : (pc : Int) + off = (tgt : Int)) (kt : x < y → ZW p l e R s m args below meth c D cI cZ cO A Q X nL S cells slots (tgt) lo (st)) (kf : ¬ x < y → ZW p l e R s m args below meth c D cI cZ cO A Q X nL S cells slots (pc + 3) lo (st)) : ZW p l e R s m args below meth c D cI cZ cO A Q X nL S cells slots (pc) lo (.int y :: .int x :: st) := fun H locs ls hP hD hS hl9 => lv_icmp_lt h0.1 h0.2.1 hd ht (fun q => kt q H locs ls hP hD hS hl9) (fun q => kf q H locs ls hP hD hS hl9)
theorem z_icmp_ge (h0 : ZC p s c cc nL D cI cZ cO A G) {x y : Int32} {off : Int} {tgt : Nat} (hd : decode cc pc = .ok (.if_icmp .ge off, 3)) (ht : (pc : Int) + off = (tgt : Int)) (kt : y ≤ x → ZW p l e R s m args below meth c D cI cZ cO A Q X nL S cells slots (tgt) lo (st)) (kf : ¬ y ≤ x → ZW p l e R s m args below meth c D cI cZ cO A Q X nL S cells slots (pc + 3) lo (st)) : ZW p l e R s m args below meth c D cI cZ cO A Q X nL S cells slots (pc) lo (.int y :: .int x :: st) := fun H locs ls hP hD hS hl9 => lv_icmp_ge h0.1 h0.2.1 hd ht (fun q => kt q H locs ls hP hD hS hl9) (fun q => kf q H locs ls hP hD hS hl9)
theorem z_icmp_gt (h0 : ZC p s c cc nL D cI cZ cO A G) {x y : Int32} {off : Int} {tgt : Nat} (hd : decode cc pc = .ok (.if_icmp .gt off, 3)) (ht : (pc : Int) + off = (tgt : Int)) (kt : y < x → ZW p l e R s m args below meth c D cI cZ cO A Q X nL S cells slots (tgt) lo (st)) (kf : ¬ y < x → ZW p l e R s m args below meth c D cI cZ cO A Q X nL S cells slots (pc + 3) lo (st)) : ZW p l e R s m args below meth c D cI cZ cO A Q X nL S cells slots (pc) lo (.int y :: .int x :: st) := fun H locs ls hP hD hS hl9 => lv_icmp_gt h0.1 h0.2.1 hd ht (fun q => kt q H locs ls hP hD hS hl9) (fun q => kf q H locs ls hP hD hS hl9)
theorem z_icmp_le (h0 : ZC p s c cc nL D cI cZ cO A G) {x y : Int32} {off : Int} {tgt : Nat} (hd : decode cc pc = .ok (.if_icmp .le off, 3)) (ht : (pc : Int) + off = (tgt : Int)) (kt : x ≤ y → ZW p l e R s m args below meth c D cI cZ cO A Q X nL S cells slots (tgt) lo (st)) (kf : ¬ x ≤ y → ZW p l e R s m args below meth c D cI cZ cO A Q X nL S cells slots (pc + 3) lo (st)) : ZW p l e R s m args below meth c D cI cZ cO A Q X nL S cells slots (pc) lo (.int y :: .int x :: st) := fun H locs ls hP hD hS hl9 => lv_icmp_le h0.1 h0.2.1 hd ht (fun q => kt q H locs ls hP hD hS hl9) (fun q => kf q H locs ls hP hD hS hl9)
theorem z_goto (h0 : ZC p s c cc nL D cI cZ cO A G) {off : Int} {tgt : Nat} (hd : decode cc pc = .ok (.goto off, 3)) (ht : (pc : Int) + off = (tgt : Int)) (kk : ZW p l e R s m args below meth c D cI cZ cO A Q X nL S cells slots (tgt) lo (st)) : ZW p l e R s m args below meth c D cI cZ cO A Q X nL S cells slots (pc) lo (st) := fun H locs ls hP hD hS hl9 => lv_goto h0.1 h0.2.1 hd ht (kk H locs ls hP hD hS hl9)
theorem z_ldc (h0 : ZC p s c cc nL D cI cZ cO A G) {own : String} {index : Nat} {v : Int32} (hown : s.vm.findClass own = some m.cls) (hc : (Jvm.Cond.constant own index v).before args s = true) (hd : decode cc pc = .ok (.ldc index, 2)) (kk : ZW p l e R s m args below meth c D cI cZ cO A Q X nL S cells slots (pc + 2) lo (.int v :: st)) : ZW p l e R s m args below meth c D cI cZ cO A Q X nL S cells slots (pc) lo (st) := fun H locs ls hP hD hS hl9 => lv_ldc h0.1 h0.2.1 hown hc hd (kk H locs ls hP hD hS hl9)
theorem z_lookup (h0 : ZC p s c cc nL D cI cZ cO A G) {dflt : Int} {ps : Array (Int × Int)} {len : Nat} {x : Int32} {off : Int} {tgt : Nat} (hd : decode cc pc = .ok (.lookupswitch dflt ps, len)) (hp : (ps.toList.zip (ps.toList.drop 1)).all (fun (a, next) => a.1 < next.1) = true) (ho : Op.lookupswitch.offset ps.toList dflt x.toInt = off) (ht : (pc : Int) + off = (tgt : Int)) (kk : ZW p l e R s m args below meth c D cI cZ cO A Q X nL S cells slots (tgt) lo (st)) : ZW p l e R s m args below meth c D cI cZ cO A Q X nL S cells slots (pc) lo (.int x :: st) := fun H locs ls hP hD hS hl9 => lv_lookup h0.1 h0.2.1 hd hp ho ht (kk H locs ls hP hD hS hl9)
theorem z_tableOut (h0 : ZC p s c cc nL D cI cZ cO A G) {dflt lw hi : Int} {offs : Array Int} {len : Nat} {x : Int32} {tgt : Nat} (hd : decode cc pc = .ok (.tableswitch dflt lw hi offs, len)) (h : x.toInt < lw ∨ hi < x.toInt) (ht : (pc : Int) + dflt = (tgt : Int)) (kk : ZW p l e R s m args below meth c D cI cZ cO A Q X nL S cells slots (tgt) lo (st)) : ZW p l e R s m args below meth c D cI cZ cO A Q X nL S cells slots (pc) lo (.int x :: st) := fun H locs ls hP hD hS hl9 => lv_tableOut h0.1 h0.2.1 hd h ht (kk H locs ls hP hD hS hl9)
theorem z_tableIn (h0 : ZC p s c cc nL D cI cZ cO A G) {dflt lw hi : Int} {offs : Array Int} {len : Nat} {x : Int32} {off : Int} {tgt : Nat} (hd : decode cc pc = .ok (.tableswitch dflt lw hi offs, len)) (h1 : ¬ x.toInt < lw) (h2 : ¬ hi < x.toInt) (ho : offs[(x.toInt - lw).toNat]? = some off) (ht : (pc : Int) + off = (tgt : Int)) (kk : ZW p l e R s m args below meth c D cI cZ cO A Q X nL S cells slots (tgt) lo (st)) : ZW p l e R s m args below meth c D cI cZ cO A Q X nL S cells slots (pc) lo (.int x :: st) := fun H locs ls hP hD hS hl9 => lv_tableIn h0.1 h0.2.1 hd h1 h2 ho ht (kk H locs ls hP hD hS hl9)
theorem z_null (h0 : ZC p s c cc nL D cI cZ cO A G) (hd : decode cc pc = .ok (.aconst_null, 1)) (kk : ZW p l e R s m args below meth c D cI cZ cO A Q X nL S cells slots (pc + 1) lo (.null :: st)) : ZW p l e R s m args below meth c D cI cZ cO A Q X nL S cells slots (pc) lo (st) := fun H locs ls hP hD hS hl9 => lv_null h0.1 h0.2.1 hd (kk H locs ls hP hD hS hl9)
/-- a field's link, for reading -/
def zLk (s : State) (m : MethodId) (args : Array Value) (own : String) (index ci pos : Nat) : Prop := ∃ (C : String) (T : u_T) (N : Nat) (ref : String) (Ts : List Cond), vwCl[ci]? = some (C, T, N) ∧ pos < N ∧ (∀ w ∈ Ts, w.before args s = true) ∧ (∀ w ∈ u_ws C T N, w ∈ Ts) ∧ s.vm.findClass own = some m.cls ∧
  (Cond.fieldLink own index ref (T pos).2.1 (T pos).2.2.1).before args s = true ∧ (∀ x, s.fieldFound? (T pos).1 (T pos).2.1 (T pos).2.2.1 = some x → s.fieldFound? ref (T pos).2.1 (T pos).2.2.1 = some x)
/-- .. and for writing -/
def zLp (s : State) (m : MethodId) (args : Array Value) (meth : Method) (own : String) (index ci pos : Nat) (ty : FieldType) : Prop := ∃ (C : String) (T : u_T) (N : Nat) (ref : String) (Ts : List Cond) (ty0 : Nat → FieldType), vwCl[ci]? = some (C, T, N) ∧ pos < N ∧ (∀ w ∈ Ts, w.before args s = true) ∧ (∀ w ∈ u_ws C T N, w ∈ Ts) ∧ s.vm.findClass own = some m.cls ∧
  (Cond.fieldLink own index ref (T pos).2.1 (T pos).2.2.1).before args s = true ∧ (∀ x, s.fieldFound? (T pos).1 (T pos).2.1 (T pos).2.2.1 = some x → s.fieldFound? ref (T pos).2.1 (T pos).2.2.1 = some x) ∧
  (∀ k, k < N → parseFieldDescriptor (T k).2.2.1 = some (ty0 k)) ∧ (∀ a, a < N → ∀ b, b < N → a ≠ b → (T a).2.1 ≠ (T b).2.1) ∧ parseFieldDescriptor (T pos).2.2.1 = some ty ∧ ((T pos).2.2.2 = false ∨ ((T pos).2.2.2 = true ∧ meth.name = "<init>" ∧ (T pos).1 = own))
theorem z_getI (h0 : ZC p s c cc nL D cI cZ cO A G) {k ci pos f index : Nat} {own : String} (hf : fIok k ci pos f) (hk : zLk s m args own index ci pos) (hd : decode cc pc = .ok (.getfield index, 3)) {a : Nat} (ha : isK S k a) (kk : ZW p l e R s m args below meth c D cI cZ cO A Q X nL S cells slots (pc + 3) lo (.int (pI S f a) :: st)) : ZW p l e R s m args below meth c D cI cZ cO A Q X nL S cells slots (pc) lo (.ref a :: st) := by
  intro H locs ls hP hD hS hl9
  obtain ⟨C, T, N, ref, Ts, hc, hp, hts, hin, hown, hlink, hsame⟩ := hk
  obtain ⟨fs, e1, e2, -, -⟩ := hf cI cZ cO S a ha.2
  obtain ⟨q0, hq⟩ := va_pl_get (X := X) (f := pF cI cZ cO S) ha.1
  rw [e1] at hq
  exact va_get h0.1 h0.2.1 hts hin hown h0.2.2.2.1 hP q0 hq hc pos hp hlink hsame e2 hd (kk H locs ls hP hD hS hl9)
theorem z_getO (h0 : ZC p s c cc nL D cI cZ cO A G) {k ci pos f index : Nat} {own : String} (hf : fOok k ci pos f) (hk : zLk s m args own index ci pos) (hd : decode cc pc = .ok (.getfield index, 3)) {a b : Nat} (ha : isK S k a) (hb : pO S f a = some b) (kk : ZW p l e R s m args below meth c D cI cZ cO A Q X nL S cells slots (pc + 3) lo (.ref b :: st)) : ZW p l e R s m args below meth c D cI cZ cO A Q X nL S cells slots (pc) lo (.ref a :: st) := by
  intro H locs ls hP hD hS hl9
  obtain ⟨C, T, N, ref, Ts, hc, hp, hts, hin, hown, hlink, hsame⟩ := hk
  obtain ⟨fs, e1, e2, -, -⟩ := hf cI cZ cO S a ha.2
  obtain ⟨q0, hq⟩ := va_pl_get (X := X) (f := pF cI cZ cO S) ha.1
  rw [e1] at hq
  rw [hb] at e2
  exact va_get h0.1 h0.2.1 hts hin hown h0.2.2.2.1 hP q0 hq hc pos hp hlink hsame e2 hd (kk H locs ls hP hD hS hl9)
theorem z_putI (h0 : ZC p s c cc nL D cI cZ cO A G) {k ci pos f index : Nat} {own : String} {ty : FieldType} (hf : fIok k ci pos f) (hk : zLp s m args meth own index ci pos ty) (hd : decode cc pc = .ok (.putfield index, 3)) {a : Nat} {v : Int32} (ha : isK S k a) (hn : narrow ty (.int v) = .int v) (hfit : fits ty (.int v) = true) (kk : ZW p l e R s m args below meth c D cI cZ cO A Q X nL (sI S f a v) cells slots (pc + 3) lo (st)) : ZW p l e R s m args below meth c D cI cZ cO A Q X nL S cells slots (pc) lo (.int v :: .ref a :: st) := by
  intro H locs ls hP hD hS hl9
  obtain ⟨C, T, N, ref, Ts, ty0, hc, hp, hts, hin, hown, hlink, hsame, hty, hnm, hpd, hfin⟩ := hk
  obtain ⟨fs, e1, e2, e3, e4⟩ := hf cI cZ cO S a ha.2
  obtain ⟨q0, hq⟩ := va_pl_get (X := X) (f := pF cI cZ cO S) ha.1
  have heq : (X ++ zw cI cZ cO S).set q0 (a, .inr (ci, fs.set pos (.int v))) = X ++ zw cI cZ cO (sI S f a v) := by
    rw [va_pl_set hD ha.1 hq]
    exact congrArg (fun w => X ++ w) (va_pl_congr (e4 v))
  rw [e1] at hq
  rcases hfin with hfin | ⟨hfin, hin2, hdecl⟩
  · exact va_put h0.1 h0.2.1 hts hin ty0 hty hnm hown h0.2.2.2.1 hP hD hS q0 hq hc pos hp hlink hsame hfin hpd hn hfit e3 hd (fun H1 locs1 g1 g2 g3 => kk H1 locs1 ls (heq ▸ g1) (heq ▸ g2) g3 hl9)
  · exact va_putF h0.1 h0.2.1 hts hin ty0 hty hnm hown h0.2.2.2.1 hP hD hS q0 hq hc pos hp hlink hsame hfin hin2 hdecl hpd hn hfit e3 hd (fun H1 locs1 g1 g2 g3 => kk H1 locs1 ls (heq ▸ g1) (heq ▸ g2) g3 hl9)
theorem z_putO (h0 : ZC p s c cc nL D cI cZ cO A G) {k ci pos f index : Nat} {own : String} {ty : FieldType} (hf : fOok k ci pos f) (hk : zLp s m args meth own index ci pos ty) (hd : decode cc pc = .ok (.putfield index, 3)) {a b : Nat} (ha : isK S k a) (hn : narrow ty (.ref b) = .ref b) (hfit : fits ty (.ref b) = true) (kk : ZW p l e R s m args below meth c D cI cZ cO A Q X nL (sO S f a (some b)) cells slots (pc + 3) lo (st)) : ZW p l e R s m args below meth c D cI cZ cO A Q X nL S cells slots (pc) lo (.ref b :: .ref a :: st) := by
  intro H locs ls hP hD hS hl9
  obtain ⟨C, T, N, ref, Ts, ty0, hc, hp, hts, hin, hown, hlink, hsame, hty, hnm, hpd, hfin⟩ := hk
  obtain ⟨fs, e1, e2, e3, e4⟩ := hf cI cZ cO S a ha.2
  obtain ⟨q0, hq⟩ := va_pl_get (X := X) (f := pF cI cZ cO S) ha.1
  have heq : (X ++ zw cI cZ cO S).set q0 (a, .inr (ci, fs.set pos (.ref b))) = X ++ zw cI cZ cO (sO S f a (some b)) := by
    rw [va_pl_set hD ha.1 hq]
    exact congrArg (fun w => X ++ w) (va_pl_congr (e4 (some b)))
  rw [e1] at hq
  rcases hfin with hfin | ⟨hfin, hin2, hdecl⟩
  · exact va_put h0.1 h0.2.1 hts hin ty0 hty hnm hown h0.2.2.2.1 hP hD hS q0 hq hc pos hp hlink hsame hfin hpd hn hfit e3 hd (fun H1 locs1 g1 g2 g3 => kk H1 locs1 ls (heq ▸ g1) (heq ▸ g2) g3 hl9)
  · exact va_putF h0.1 h0.2.1 hts hin ty0 hty hnm hown h0.2.2.2.1 hP hD hS q0 hq hc pos hp hlink hsame hfin hin2 hdecl hpd hn hfit e3 hd (fun H1 locs1 g1 g2 g3 => kk H1 locs1 ls (heq ▸ g1) (heq ▸ g2) g3 hl9)
theorem zi_clamp {i : Int32} {j : Nat} (h : i.toInt = (j : Int)) : i.toNatClampNeg = j := by
  have : (i.toNatClampNeg : Int) = i.toInt := by
    show ((i.toInt.toNat : Nat) : Int) = _
    rw [Int.toNat_of_nonneg (by omega)]
  omega
theorem zi_in {i : Int32} {j n : Nat} (h : i.toInt = (j : Int)) (hj : j < n) : vp_in i n := vp_in_iff.mpr ⟨by omega, by omega⟩
theorem pF_8 {S : PS} {a : Nat} (h : pK S a = 8) : pF cI cZ cO S a = .inl (cI, pN S a, .inl (pR S a)) := by unfold pF; rw [h]; rfl
theorem pF_9 {S : PS} {a : Nat} (h : pK S a = 9) : pF cI cZ cO S a = .inl (cZ, pN S a, .inl (pR S a)) := by unfold pF; rw [h]; rfl
theorem pF_10 {S : PS} {a : Nat} (h : pK S a = 10) : pF cI cZ cO S a = .inl (cO, pN S a, .inr (.inr (.inr (.inr (pQ S a))))) := by unfold pF; rw [h]; rfl
theorem up2_upd {f : Nat → Nat → Int32} {a j : Nat} {v : Int32} : up2 f a j v a = upd (f a) j v := by funext b; simp [up2, upd]
theorem up2_va {α : Type} {f : Nat → Nat → α} {a j : Nat} {v : α} : up2 f a j v a = va_up (f a) j v := by funext b; simp [up2, va_up]
theorem pF_sR {S : PS} {a b j : Nat} {v : Int32} (h : b ≠ a) : pF cI cZ cO (sR S a j v) b = pF cI cZ cO S b := pE_congr (fun _ => rfl) (fun _ => rfl) rfl (up2_row _ _ h) rfl
theorem pF_sQ {S : PS} {a b j : Nat} {v : Option Nat} (h : b ≠ a) : pF cI cZ cO (sQ S a j v) b = pF cI cZ cO S b := pE_congr (fun _ => rfl) (fun _ => rfl) rfl rfl (up2_row _ _ h)
theorem pF_sQQ {S : PS} {a b : Nat} {g : Nat → Option Nat} (h : b ≠ a) : pF cI cZ cO (sQQ S a g) b = pF cI cZ cO S b := pE_congr (fun _ => rfl) (fun _ => rfl) rfl rfl (va_up_ne _ _ h)
theorem z_iald (h0 : ZC p s c cc nL D cI cZ cO A G) {a j : Nat} {i : Int32} (hd : decode cc pc = .ok (.iaload, 1)) (ha : isK S 8 a) (hi : i.toInt = (j : Int)) (hj : j < pN S a) (kk : ZW p l e R s m args below meth c D cI cZ cO A Q X nL S cells slots (pc + 1) lo (.int (pR S a j) :: st)) : ZW p l e R s m args below meth c D cI cZ cO A Q X nL S cells slots (pc) lo (.int i :: .ref a :: st) := by
  intro H locs ls hP hD hS hl9
  obtain ⟨q0, hq⟩ := va_pl_get (X := X) (f := pF cI cZ cO S) ha.1
  rw [pF_8 ha.2] at hq
  refine va_iald h0.1 h0.2.1 h0.2.2.2.1 hP q0 0 hq rfl (zi_in hi hj) hd ?_
  rw [zi_clamp hi]
  exact kk H locs ls hP hD hS hl9
theorem z_zald (h0 : ZC p s c cc nL D cI cZ cO A G) {a j : Nat} {i : Int32} (hd : decode cc pc = .ok (.baload, 1)) (ha : isK S 9 a) (hi : i.toInt = (j : Int)) (hj : j < pN S a) (kk : ZW p l e R s m args below meth c D cI cZ cO A Q X nL S cells slots (pc + 1) lo (.int (pR S a j) :: st)) : ZW p l e R s m args below meth c D cI cZ cO A Q X nL S cells slots (pc) lo (.int i :: .ref a :: st) := by
  intro H locs ls hP hD hS hl9
  obtain ⟨q0, hq⟩ := va_pl_get (X := X) (f := pF cI cZ cO S) ha.1
  rw [pF_9 ha.2] at hq
  refine va_zald h0.1 h0.2.1 h0.2.2.2.1 hP q0 1 hq rfl (zi_in hi hj) hd ?_
  rw [zi_clamp hi]
  exact kk H locs ls hP hD hS hl9
theorem z_aldq (h0 : ZC p s c cc nL D cI cZ cO A G) {a j b : Nat} {i : Int32} (hd : decode cc pc = .ok (.aaload, 1)) (ha : isK S 10 a) (hi : i.toInt = (j : Int)) (hj : j < pN S a) (hb : pQ S a j = some b) (kk : ZW p l e R s m args below meth c D cI cZ cO A Q X nL S cells slots (pc + 1) lo (.ref b :: st)) : ZW p l e R s m args below meth c D cI cZ cO A Q X nL S cells slots (pc) lo (.int i :: .ref a :: st) := by
  intro H locs ls hP hD hS hl9
  obtain ⟨q0, hq⟩ := va_pl_get (X := X) (f := pF cI cZ cO S) ha.1
  rw [pF_10 ha.2] at hq
  refine va_aldq h0.1 h0.2.1 h0.2.2.2.1 hP q0 2 hq rfl (zi_in hi hj) hd ?_
  rw [zi_clamp hi, hb]
  exact kk H locs ls hP hD hS hl9
theorem z_iast (h0 : ZC p s c cc nL D cI cZ cO A G) {a j : Nat} {i v : Int32} (hd : decode cc pc = .ok (.iastore, 1)) (ha : isK S 8 a) (hi : i.toInt = (j : Int)) (hj : j < pN S a) (kk : ZW p l e R s m args below meth c D cI cZ cO A Q X nL (sR S a j v) cells slots (pc + 1) lo (st)) : ZW p l e R s m args below meth c D cI cZ cO A Q X nL S cells slots (pc) lo (.int v :: .int i :: .ref a :: st) := by
  intro H locs ls hP hD hS hl9
  obtain ⟨q0, hq⟩ := va_pl_get (X := X) (f := pF cI cZ cO S) ha.1
  have heq : (X ++ zw cI cZ cO S).set q0 (a, .inl (cI, pN S a, .inl (upd (pR S a) j v))) = X ++ zw cI cZ cO (sR S a j v) := by
    rw [va_pl_set hD ha.1 hq]
    refine congrArg (fun w => X ++ w) (va_pl_congr (fun b => ?_))
    by_cases hb : b = a
    · subst hb
      rw [va_up_self, pF_8 (S := sR S b j v) ha.2]
      exact congrArg (fun g => Sum.inl (cI, pN S b, Sum.inl g)) up2_upd.symm
    · rw [va_up_ne _ _ hb, pF_sR hb]
  rw [pF_8 ha.2] at hq
  refine va_iast h0.1 h0.2.1 h0.2.2.2.1 hP hD hS q0 0 hq rfl (zi_in hi hj) hd (fun H1 locs1 g1 g2 g3 => ?_)
  rw [zi_clamp hi, heq] at g1 g2
  exact kk H1 locs1 ls g1 g2 g3 hl9
theorem z_zast (h0 : ZC p s c cc nL D cI cZ cO A G) {a j : Nat} {i v : Int32} (hd : decode cc pc = .ok (.bastore, 1)) (ha : isK S 9 a) (hi : i.toInt = (j : Int)) (hj : j < pN S a) (hv : vp_nar .boolean v = v) (kk : ZW p l e R s m args below meth c D cI cZ cO A Q X nL (sR S a j v) cells slots (pc + 1) lo (st)) : ZW p l e R s m args below meth c D cI cZ cO A Q X nL S cells slots (pc) lo (.int v :: .int i :: .ref a :: st) := by
  intro H locs ls hP hD hS hl9
  obtain ⟨q0, hq⟩ := va_pl_get (X := X) (f := pF cI cZ cO S) ha.1
  have heq : (X ++ zw cI cZ cO S).set q0 (a, .inl (cZ, pN S a, .inl (upd (pR S a) j v))) = X ++ zw cI cZ cO (sR S a j v) := by
    rw [va_pl_set hD ha.1 hq]
    refine congrArg (fun w => X ++ w) (va_pl_congr (fun b => ?_))
    by_cases hb : b = a
    · subst hb
      rw [va_up_self, pF_9 (S := sR S b j v) ha.2]
      exact congrArg (fun g => Sum.inl (cZ, pN S b, Sum.inl g)) up2_upd.symm
    · rw [va_up_ne _ _ hb, pF_sR hb]
  rw [pF_9 ha.2] at hq
  refine va_zast h0.1 h0.2.1 h0.2.2.2.1 hP hD hS q0 1 hq rfl (zi_in hi hj) hd (fun H1 locs1 g1 g2 g3 => ?_)
  rw [zi_clamp hi, hv, heq] at g1 g2
  exact kk H1 locs1 ls g1 g2 g3 hl9
theorem z_alen8 (h0 : ZC p s c cc nL D cI cZ cO A G) {a : Nat} (hd : decode cc pc = .ok (.arraylength, 1)) (ha : isK S 8 a) (kk : ZW p l e R s m args below meth c D cI cZ cO A Q X nL S cells slots (pc + 1) lo (.int (nI (pN S a)) :: st)) : ZW p l e R s m args below meth c D cI cZ cO A Q X nL S cells slots (pc) lo (.ref a :: st) := by
  intro H locs ls hP hD hS hl9
  obtain ⟨q0, hq⟩ := va_pl_get (X := X) (f := pF cI cZ cO S) ha.1
  rw [pF_8 ha.2] at hq
  exact va_alen h0.1 h0.2.1 h0.2.2.2.1 hP q0 0 hq (ty := .int) rfl rfl hd (kk H locs ls hP hD hS hl9)
theorem z_alen10 (h0 : ZC p s c cc nL D cI cZ cO A G) {a : Nat} (hd : decode cc pc = .ok (.arraylength, 1)) (ha : isK S 10 a) (kk : ZW p l e R s m args below meth c D cI cZ cO A Q X nL S cells slots (pc + 1) lo (.int (nI (pN S a)) :: st)) : ZW p l e R s m args below meth c D cI cZ cO A Q X nL S cells slots (pc) lo (.ref a :: st) := by
  intro H locs ls hP hD hS hl9
  obtain ⟨q0, hq⟩ := va_pl_get (X := X) (f := pF cI cZ cO S) ha.1
  rw [pF_10 ha.2] at hq
  exact va_alen h0.1 h0.2.1 h0.2.2.2.1 hP q0 2 hq (ty := .object "java/lang/Object") rfl rfl hd (kk H locs ls hP hD hS hl9)
/-- the length of ArrayList's empty array -/
theorem z_alen0 (h0 : ZC p s c cc nL D cI cZ cO A G) (hd : decode cc pc = .ok (.arraylength, 1)) (kk : ZW p l e R s m args below meth c D cI cZ cO A Q X nL S cells slots (pc + 1) lo (.int 0 :: st)) : ZW p l e R s m args below meth c D cI cZ cO A Q X nL S cells slots (pc) lo (.ref (G 0) :: st) := by
  intro H locs ls hP hD hS hl9
  exact va_tlen h0.1 h0.2.1 h0.2.2.2.2.2.2.1 hS (v := 0) rfl hd (kk H locs ls hP hD hS hl9)
/-- what a new object of kind k holds -/
def nOk (k ci : Nat) (fs : List Value) : Prop := ∀ (cI cZ cO : ClassId) (S : PS) (a : Nat), pE cI cZ cO (sN S a k 0) k a = .inr (ci, fs)
theorem nOk0 : nOk 0 1 [.null] := fun _ _ _ S a => by simp [pE, sN, pI, pO, upA, va_rf]
theorem nOk1 : nOk 1 2 [.int 0, .null, .int 0] := fun _ _ _ S a => by simp [pE, sN, pI, pO, upA, va_rf]
theorem nOk2 : nOk 2 3 [.int 0, .int 0, .null, .int 0, .int 0] := fun _ _ _ S a => by simp [pE, sN, pI, pO, upA, va_rf]
theorem nOk3 : nOk 3 4 [.int 0, .null, .null, .int 0, .int 0, .int 0, .null] := fun _ _ _ S a => by simp [pE, sN, pI, pO, upA, va_rf]
theorem nOk4 : nOk 4 5 [.int 0, .int 0, .int 0, .int 0, .int 0] := fun _ _ _ S a => by simp [pE, sN, pI, pO, upA, va_rf]
theorem nOk5 : nOk 5 6 [.null, .null, .null, .null] := fun _ _ _ S a => by simp [pE, sN, pI, pO, upA, va_rf]
theorem nOk6 : nOk 6 7 [.int 0, .int 0, .null, .null, .null, .null, .int 0, .null, .null, .null, .int 0, .null, .null, .null] := fun _ _ _ S a => by simp [pE, sN, pI, pO, upA, va_rf]
theorem nOk7 : nOk 7 0 [.int 0, .null, .int 0] := fun _ _ _ S a => by simp [pE, sN, pI, pO, upA, va_rf]
theorem zN_eq {k n a : Nat} {S : PS} {x : va_E} (hx : pE cI cZ cO (sN S a k n) k a = x) (hL : a ∉ pL S) : (X ++ zw cI cZ cO S) ++ [(a, x)] = X ++ zw cI cZ cO (sN S a k n) := by
  rw [List.append_assoc, va_pl_push hL]
  refine congrArg (fun w => X ++ w) (va_pl_congr (fun b => ?_))
  by_cases hb : b = a
  · subst hb
    rw [va_up_self]
    unfold pF
    rw [show pK (sN S b k n) b = k from va_up_self _ _ _, hx]
  · rw [va_up_ne _ _ hb]
    unfold pF
    rw [show pK (sN S a k n) b = pK S b from va_up_ne _ _ hb]
    exact (pE_congr (fun _ => upA_a _ _ _ hb) (fun _ => upA_a _ _ _ hb) (va_up_ne _ _ hb) (va_up_ne _ _ hb) (va_up_ne _ _ hb)).symm
theorem z_new (h0 : ZC p s c cc nL D cI cZ cO A G) {k ci index : Nat} {own C : String} {T : u_T} {N : Nat} {fs : List Value} {Ts : List Cond} (hn : nOk k ci fs) (hts : ∀ w ∈ Ts, w.before args s = true) (hin : ∀ w ∈ u_ws C T N, w ∈ Ts) (ty : Nat → FieldType) (hty : ∀ k, k < N → parseFieldDescriptor (T k).2.2.1 = some (ty k)) (hown : s.vm.findClass own = some m.cls)
    (hcl : (Cond.classLink own index C).before args s = true) (hinst : (Cond.instantiable C N).before args s = true) (hini : (Cond.initialized C).before args s = true) (hc : vwCl[ci]? = some (C, T, N)) (hfs : ∀ j, j < N → defaultValue (ty j) = vp_V fs j) (hcells : cells + 1 ≤ R.cells) (hslots : slots + N ≤ R.slots) (hd : decode cc pc = .ok (.new index, 3))
    (kk : ∀ q : Nat, q ∉ pL S → ZW p l e R s m args below meth c D cI cZ cO A Q X nL (sN S q k 0) (cells + 1) (slots + N) (pc + 3) lo (.ref q :: st)) : ZW p l e R s m args below meth c D cI cZ cO A Q X nL S cells slots (pc) lo (st) := by
  intro H locs ls hP hD hS hl9
  refine va_new h0.1 h0.2.1 hts hin ty hty hown hcl hinst hini h0.2.2.2.1 hP hD hS h0.2.2.2.2.1 hc hfs hcells hslots hd (fun q H1 g1 g2 g3 => ?_)
  have hq : q ∉ pL S := va_pl_fresh2 g2
  rw [zN_eq (hn cI cZ cO S q) hq] at g1 g2
  exact kk q hq H1 locs ls g1 g2 g3 hl9
end LAYER
