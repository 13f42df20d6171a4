/-! THE START: what the tables and the Statement give there. -/
section START
variable {s : State} {args : Array Value}
theorem st_arr {ty : FieldType} (hRA : ∀ cA : ClassId, s.vm.findClass ("[" ++ ty.toString) = some cA → va_RA s cA ty) (h : (Cond.arrayClass ty).before args s = true) : ∃ cA : ClassId, ArrOfT s cA ty ∧ va_RA s cA ty := by
  obtain ⟨cA, kA, comp, h1, h2, h3⟩ := Cond.arrayClass_spec h
  exact ⟨cA, fun n z => ⟨fun k h => (by cases h), kA, h2, comp, h3⟩, hRA cA h1⟩
theorem st_obj (h : (Cond.arrayOver (.object "java/lang/Object")).before args s = true) : ∃ cA : ClassId, ArrOfT s cA (.object "java/lang/Object") ∧ va_RA s cA (.object "java/lang/Object") := by
  obtain ⟨comp, cA, kA, h1, -, h2, h3, h4⟩ := Cond.arrayOver_spec h
  exact ⟨cA, fun n z => ⟨fun k h => (by cases h), kA, h2, comp, h3⟩, kA, comp, h2, h3, h1, h4⟩
theorem start_K (hts : ∀ w ∈ lw_tbl, w.before args s = true) : ∃ (D : va_G) (cI cZ cO cJ : ClassId), va_K D vwCl (zTy cI cZ cO) s ∧ va_K D vwCl [(cJ, .long)] s := by
  obtain ⟨c0, i0, k0⟩ := u_known (C := RJx4a65c) (T := TJx4a65c) (N := 3) (n := 3) hts lin_Jx4a65c0 (hts (.instantiable RJx4a65c 3) (by decide +kernel))
  obtain ⟨c1, i1, k1⟩ := u_known (C := RX0) (T := TX0) (N := 1) (n := 1) hts lin_X00 (hts (.instantiable RX0 1) (by decide +kernel))
  obtain ⟨c2, i2, k2⟩ := u_known (C := RX1) (T := TX1) (N := 3) (n := 3) hts lin_X10 (hts (.instantiable RX1 3) (by decide +kernel))
  obtain ⟨c3, i3, k3⟩ := u_known (C := RX2) (T := TX2) (N := 5) (n := 5) hts lin_X20 (hts (.instantiable RX2 5) (by decide +kernel))
  obtain ⟨c4, i4, k4⟩ := u_known (C := RX3) (T := TX3) (N := 7) (n := 7) hts lin_X30 (hts (.instantiable RX3 7) (by decide +kernel))
  obtain ⟨c5, i5, k5⟩ := u_known (C := RX4) (T := TX4) (N := 5) (n := 5) hts lin_X40 (hts (.instantiable RX4 5) (by decide +kernel))
  obtain ⟨c6, i6, k6⟩ := u_known (C := RX5) (T := TX5) (N := 4) (n := 4) hts lin_X50 (hts (.instantiable RX5 4) (by decide +kernel))
  obtain ⟨c7, i7, k7⟩ := u_known (C := RX6) (T := TX6) (N := 14) (n := 14) hts lin_X60 (hts (.instantiable RX6 14) (by decide +kernel))
  obtain ⟨dC, dI, hKc⟩ : ∃ (dC : Nat → ClassId) (dI : Nat → Nat → Nat), ∀ (k : Nat) (q : vw_C), vwCl[k]? = some q → u_Kn s q.1 q.2.1 q.2.2 (dC k) (dI k) := by
    refine ⟨fun k => [c0, c1, c2, c3, c4, c5, c6, c7].getD k c0, fun k => [i0, i1, i2, i3, i4, i5, i6, i7].getD k i0, ?_⟩
    intro k q hq
    match k, hq with
    | 0, hq => cases hq; exact k0
    | 1, hq => cases hq; exact k1
    | 2, hq => cases hq; exact k2
    | 3, hq => cases hq; exact k3
    | 4, hq => cases hq; exact k4
    | 5, hq => cases hq; exact k5
    | 6, hq => cases hq; exact k6
    | 7, hq => cases hq; exact k7
    | k + 8, hq => simp [vwCl] at hq
  obtain ⟨cI, aI, rI⟩ := st_arr (ty := .int) (fun _ h => h) (hts (.arrayClass .int) (by decide +kernel))
  obtain ⟨cZ, aZ, rZ⟩ := st_arr (ty := .boolean) (fun _ h => h) (hts (.arrayClass .boolean) (by decide +kernel))
  obtain ⟨cJ, aJ, rJ⟩ := st_arr (ty := .long) (fun _ h => h) (hts (.arrayClass .long) (by decide +kernel))
  obtain ⟨cO, aO, rO⟩ := st_obj (hts (.arrayOver (.object "java/lang/Object")) (by decide +kernel))
  refine ⟨(dC, dI), cI, cZ, cO, cJ, ⟨hKc, fun k q hq => ?_⟩, ⟨hKc, fun k q hq => ?_⟩⟩
  · match k, hq with
    | 0, hq => cases hq; exact ⟨aI, rI⟩
    | 1, hq => cases hq; exact ⟨aZ, rZ⟩
    | 2, hq => cases hq; exact ⟨aO, rO⟩
    | k + 3, hq => simp at hq
  · match k, hq with
    | 0, hq => cases hq; exact ⟨aJ, rJ⟩
    | k + 1, hq => simp at hq
theorem all_cons {α : Type} {P : α → Prop} {a : α} {l : List α} (h : P a) (hl : ∀ x ∈ l, P x) : ∀ x ∈ a :: l, P x := List.forall_mem_cons.mpr ⟨h, hl⟩
theorem all_nil {α : Type} {P : α → Prop} : ∀ x ∈ ([] : List α), P x := fun _ h => absurd h List.not_mem_nil
theorem st_str {k : Nat} (h : (Cond.exactly (.string "PurseWorld" k) "java/lang/String").before args s = true) : ∃ a : Nat, (Term.string RX5 k).eval args s none [] s = some (.ref a) := by
  obtain ⟨a, c, cell, kk, h1, -⟩ := Cond.exactly_spec h
  exact ⟨a, h1⟩
theorem start_G (hts : ∀ w ∈ lw_tbl, w.before args s = true) (hgv : (Jvm.Cond.and given_1 narrow_1).before args s = true) : ∃ G : Nat → Nat, zG G (fun q => s.heap.size ≤ q) s s.heap := by
  have hq := flat_of_before _ hgv
  have hA : ∀ a : Nat, a < s.heap.size → ¬ (fun q : Nat => s.heap.size ≤ q) a := fun a h => Nat.not_le.mpr h
  obtain ⟨g0, hg0, hT⟩ := va_Tof (N := 0) (f := fun _ => .null) (A := fun q => s.heap.size ≤ q) (by decide) (hq (.arrayOf (.static "java/util/ArrayList" "DEFAULTCAPACITY_EMPTY_ELEMENTDATA" "[Ljava/lang/Object;") (.object "java/lang/Object")) (by decide +kernel))
    (Cond.eq_int (hq (.eq (.length (.static "java/util/ArrayList" "DEFAULTCAPACITY_EMPTY_ELEMENTDATA" "[Ljava/lang/Object;")) (.int 0)) (by decide +kernel)) rfl) (fun j hj => absurd hj (Nat.not_lt_zero _)) hA
  have hZ := va_Zof (A := fun q => s.heap.size ≤ q) (hts (.laysStatic "java/util/ArrayList" "DEFAULTCAPACITY_EMPTY_ELEMENTDATA" "[Ljava/lang/Object;") (by decide +kernel)) (hts (.initialized "java/util/ArrayList") (by decide +kernel)) hg0 hA
  obtain ⟨g1, hM⟩ := va_Mi.of (hq (.isRef (.mirror "[Ljava/lang/Object;")) (by decide +kernel))
  have hU := vx_Zqof (A := fun q => s.heap.size ≤ q) (C := Jvm.Bundle.tN) (n := "UNASSIGNED_STACK") (d := Jvm.Bundle.steD) (hts (.laysStatic "java/lang/Throwable" "UNASSIGNED_STACK" "[Ljava/lang/StackTraceElement;") (by decide +kernel)) (hts (.initialized "java/lang/Throwable") (by decide +kernel)) (hq (.isRef (.static "java/lang/Throwable" "UNASSIGNED_STACK" "[Ljava/lang/StackTraceElement;")) (by decide +kernel)) hA
  have hV := vx_Zqof (A := fun q => s.heap.size ≤ q) (C := Jvm.Bundle.tN) (n := "SUPPRESSED_SENTINEL") (d := Jvm.Bundle.listD) (hts (.laysStatic "java/lang/Throwable" "SUPPRESSED_SENTINEL" "Ljava/util/List;") (by decide +kernel)) (hts (.initialized "java/lang/Throwable") (by decide +kernel)) (hq (.isRef (.static "java/lang/Throwable" "SUPPRESSED_SENTINEL" "Ljava/util/List;")) (by decide +kernel)) hA
  have hS : ∀ q ∈ zStr, ∃ a : Nat, (Term.string RX5 q.1).eval args s none [] s = some (.ref a) := by
    exact all_cons (st_str (hq (.exactly (.string "PurseWorld" 38) "java/lang/String") (by decide +kernel))) (all_cons (st_str (hq (.exactly (.string "PurseWorld" 49) "java/lang/String") (by decide +kernel))) (all_cons (st_str (hq (.exactly (.string "PurseWorld" 65) "java/lang/String") (by decide +kernel))) (all_cons (st_str (hq (.exactly (.string "PurseWorld" 68) "java/lang/String") (by decide +kernel))) (all_cons (st_str (hq (.exactly (.string "PurseWorld" 131) "java/lang/String") (by decide +kernel))) (all_cons (st_str (hq (.exactly (.string "PurseWorld" 148) "java/lang/String") (by decide +kernel))) (all_cons (st_str (hq (.exactly (.string "PurseWorld" 167) "java/lang/String") (by decide +kernel))) (all_cons (st_str (hq (.exactly (.string "PurseWorld" 173) "java/lang/String") (by decide +kernel))) (all_cons (st_str (hq (.exactly (.string "PurseWorld" 185) "java/lang/String") (by decide +kernel))) (all_cons (st_str (hq (.exactly (.string "PurseWorld" 196) "java/lang/String") (by decide +kernel))) (all_cons (st_str (hq (.exactly (.string "PurseWorld" 214) "java/lang/String") (by decide +kernel))) (all_cons (st_str (hq (.exactly (.string "PurseWorld" 216) "java/lang/String") (by decide +kernel))) (all_cons (st_str (hq (.exactly (.string "PurseWorld" 218) "java/lang/String") (by decide +kernel))) (all_cons (st_str (hq (.exactly (.string "PurseWorld" 226) "java/lang/String") (by decide +kernel))) (all_cons (st_str (hq (.exactly (.string "PurseWorld" 228) "java/lang/String") (by decide +kernel))) (all_nil)))))))))))))))
  have hR : ∀ q ∈ zStr, (Cond.stringRef RX5 q.1 q.2).before args s = true := by
    exact all_cons (hts (.stringRef "PurseWorld" 38 "no such balance") (by decide +kernel)) (all_cons (hts (.stringRef "PurseWorld" 49 "too many purses") (by decide +kernel)) (all_cons (hts (.stringRef "PurseWorld" 65 "a purse cannot pay itself") (by decide +kernel)) (all_cons (hts (.stringRef "PurseWorld" 68 "no such amount") (by decide +kernel)) (all_cons (hts (.stringRef "PurseWorld" 131 "the purse is not idle") (by decide +kernel)) (all_cons (hts (.stringRef "PurseWorld" 148 "the archive has nothing of the purse") (by decide +kernel)) (all_cons (hts (.stringRef "PurseWorld" 167 "one side has not told") (by decide +kernel)) (all_cons (hts (.stringRef "PurseWorld" 173 "already refunded") (by decide +kernel)) (all_cons (hts (.stringRef "PurseWorld" 185 "a purse tells 0 to 3") (by decide +kernel)) (all_cons (hts (.stringRef "PurseWorld" 196 "no such transfer in the log") (by decide +kernel)) (all_cons (hts (.stringRef "PurseWorld" 214 "no such purse") (by decide +kernel)) (all_cons (hts (.stringRef "PurseWorld" 216 "no such message") (by decide +kernel)) (all_cons (hts (.stringRef "PurseWorld" 218 "no such entry") (by decide +kernel)) (all_cons (hts (.stringRef "PurseWorld" 226 "there is no such part") (by decide +kernel)) (all_cons (hts (.stringRef "PurseWorld" 228 "too many messages") (by decide +kernel)) (all_nil)))))))))))))))
  have hF : ∀ k : Nat, ∃ a : Nat, ∀ q ∈ zStr, q.1 = k → (Term.string RX5 q.1).eval args s none [] s = some (.ref a) := by
    intro k
    by_cases h : ∃ q ∈ zStr, q.1 = k
    · obtain ⟨q, h1, h2⟩ := h
      obtain ⟨a, ha⟩ := hS q h1
      exact ⟨a, fun q' _ h' => by rw [h', ← h2]; exact ha⟩
    · exact ⟨0, fun q h1 h2 => absurd ⟨q, h1, h2⟩ h⟩
  obtain ⟨F, hF⟩ := Classical.axiomOfChoice hF
  refine ⟨fun n => if n = 0 then g0 else if n = 1 then g1 else F (n - 10), ?_, ?_, ?_, hU, hV, fun q h => ?_, ?_, ?_, ?_, ?_, va_AO.of (hts (.arrayOver (.object "java/lang/Object")) (by decide +kernel))⟩
  · exact hZ
  · exact hT
  · exact hM
  · have e : (if 10 + q.1 = 0 then g0 else if 10 + q.1 = 1 then g1 else F (10 + q.1 - 10)) = F q.1 := by
      rw [if_neg (by omega), if_neg (by omega), show 10 + q.1 - 10 = q.1 by omega]
    show vk_R RX5 q.1 q.2 (if 10 + q.1 = 0 then g0 else if 10 + q.1 = 1 then g1 else F (10 + q.1 - 10)) s
    rw [e]
    exact vk_R.of (hR q h) (hF q.1 q h rfl)
  · exact all_cons (va_Nw.of rfl (hts (.castable "java/lang/IllegalArgumentException" "java/lang/IllegalArgumentException") (by decide +kernel))) (all_cons (va_Nw.of rfl (hts (.castable "java/lang/UnsupportedOperationException" "java/lang/UnsupportedOperationException") (by decide +kernel))) (all_cons (va_Nw.of rfl (hts (.castable "java/lang/IndexOutOfBoundsException" "java/lang/IndexOutOfBoundsException") (by decide +kernel))) (all_cons (va_Nw.of rfl (hts (.castable "java/lang/IllegalStateException" "java/lang/IllegalStateException") (by decide +kernel))) (all_nil))))
  · exact all_cons (va_Nw.of rfl (hts (.castable RX1 "java/lang/Object") (by decide +kernel))) (all_cons (va_Nw.of rfl (hts (.castable RX2 "java/lang/Object") (by decide +kernel))) (all_cons (va_Nw.of rfl (hts (.castable RX3 "java/lang/Object") (by decide +kernel))) (all_cons (va_Nw.of rfl (hts (.castable RX4 "java/lang/Object") (by decide +kernel))) (all_nil))))
  · exact all_cons (va_Nc.of (hq (.not (.castable "java/lang/UnsupportedOperationException" "java/lang/IllegalArgumentException")) (by decide +kernel))) (all_cons (va_Nc.of (hq (.not (.castable "java/lang/UnsupportedOperationException" "java/lang/IndexOutOfBoundsException")) (by decide +kernel))) (all_cons (va_Nc.of (hq (.not (.castable "java/lang/UnsupportedOperationException" "java/lang/IllegalStateException")) (by decide +kernel))) (all_cons (va_Nc.of (hq (.not (.castable "java/lang/IllegalArgumentException" "java/lang/IndexOutOfBoundsException")) (by decide +kernel))) (all_cons (va_Nc.of (hq (.not (.castable "java/lang/IllegalStateException" "java/lang/IndexOutOfBoundsException")) (by decide +kernel))) (all_nil)))))
  · exact all_cons (va_Nw.of rfl (hts (.declares (Jvm.Bundle.initS "java/lang/RuntimeException")) (by decide +kernel))) (all_cons (va_Nw.of rfl (hts (.declares (Jvm.Bundle.initS "java/lang/Exception")) (by decide +kernel))) (all_cons (va_Nw.of rfl (hts (.declares (Jvm.Bundle.initS "java/lang/Throwable")) (by decide +kernel))) (all_cons (va_Nw.of rfl (hts (.declares ⟨"java/lang/Object", "getClass", "()Ljava/lang/Class;"⟩) (by decide +kernel))) (all_nil))))
end START
