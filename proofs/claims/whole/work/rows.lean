section
-- ===== PART A: goes FIRST, ahead of the names: the tables' words, and 'selects' of the private methods out of them =====
/-- a private method of a class that the tables say can be made, by its rows of tables_1 -/
def lw_okq (q : MethodName × Nat) : Prop := (q.1.cls ≠ "java/lang/invoke/MethodHandle" ∧ q.1.cls ≠ "java/lang/invoke/VarHandle") ∧ Cond.instantiable q.1.cls q.2 ∈ tables_1 ∧ Cond.privateMethod q.1 ∈ tables_1 ∧ Cond.instanceMethod q.1 ∈ tables_1
theorem lw_p0 : lw_okq (⟨"PurseWorld", "pendingOfPayer", "(LPurseWorld$Purse;)J"⟩, 4) := ⟨⟨by decide +kernel, by decide +kernel⟩, List.mem_of_getElem? (i := 25) (by decide +kernel), List.mem_of_getElem? (i := 152) (by decide +kernel), List.mem_of_getElem? (i := 153) (by decide +kernel)⟩
theorem lw_p1 : lw_okq (⟨"PurseWorld", "amountIfPayeeWaits", "(LPurseWorld$Transfer;)J"⟩, 4) := ⟨⟨by decide +kernel, by decide +kernel⟩, List.mem_of_getElem? (i := 25) (by decide +kernel), List.mem_of_getElem? (i := 156) (by decide +kernel), List.mem_of_getElem? (i := 157) (by decide +kernel)⟩
theorem lw_p2 : lw_okq (⟨"PurseWorld", "purseAt", "(I)LPurseWorld$Purse;"⟩, 4) := ⟨⟨by decide +kernel, by decide +kernel⟩, List.mem_of_getElem? (i := 25) (by decide +kernel), List.mem_of_getElem? (i := 160) (by decide +kernel), List.mem_of_getElem? (i := 161) (by decide +kernel)⟩
theorem lw_p3 : lw_okq (⟨"java/lang/Throwable", "fillInStackTrace", "(I)Ljava/lang/Throwable;"⟩, 6) := ⟨⟨by decide +kernel, by decide +kernel⟩, List.mem_of_getElem? (i := 203) (by decide +kernel), List.mem_of_getElem? (i := 201) (by decide +kernel), List.mem_of_getElem? (i := 202) (by decide +kernel)⟩
theorem lw_p4 : lw_okq (⟨"java/util/ArrayList", "add", "(Ljava/lang/Object;[Ljava/lang/Object;I)V"⟩, 3) := ⟨⟨by decide +kernel, by decide +kernel⟩, List.mem_of_getElem? (i := 60) (by decide +kernel), List.mem_of_getElem? (i := 349) (by decide +kernel), List.mem_of_getElem? (i := 350) (by decide +kernel)⟩
theorem lw_p5 : lw_okq (⟨"java/util/ArrayList", "grow", "()[Ljava/lang/Object;"⟩, 3) := ⟨⟨by decide +kernel, by decide +kernel⟩, List.mem_of_getElem? (i := 60) (by decide +kernel), List.mem_of_getElem? (i := 353) (by decide +kernel), List.mem_of_getElem? (i := 354) (by decide +kernel)⟩
theorem lw_p6 : lw_okq (⟨"java/util/ArrayList", "grow", "(I)[Ljava/lang/Object;"⟩, 3) := ⟨⟨by decide +kernel, by decide +kernel⟩, List.mem_of_getElem? (i := 60) (by decide +kernel), List.mem_of_getElem? (i := 357) (by decide +kernel), List.mem_of_getElem? (i := 358) (by decide +kernel)⟩
theorem lw_p7 : lw_okq (⟨"PurseWorld", "needRoomFor", "(I)V"⟩, 4) := ⟨⟨by decide +kernel, by decide +kernel⟩, List.mem_of_getElem? (i := 25) (by decide +kernel), List.mem_of_getElem? (i := 415) (by decide +kernel), List.mem_of_getElem? (i := 416) (by decide +kernel)⟩
theorem lw_p8 : lw_okq (⟨"PurseWorld", "send", "(IILPurseWorld$Transfer;)I"⟩, 4) := ⟨⟨by decide +kernel, by decide +kernel⟩, List.mem_of_getElem? (i := 25) (by decide +kernel), List.mem_of_getElem? (i := 420) (by decide +kernel), List.mem_of_getElem? (i := 421) (by decide +kernel)⟩
theorem lw_p9 : lw_okq (⟨"PurseWorld", "messageAt", "(I)LPurseWorld$Message;"⟩, 4) := ⟨⟨by decide +kernel, by decide +kernel⟩, List.mem_of_getElem? (i := 25) (by decide +kernel), List.mem_of_getElem? (i := 458) (by decide +kernel), List.mem_of_getElem? (i := 459) (by decide +kernel)⟩
theorem lw_p10 : lw_okq (⟨"PurseWorld", "mayBeAnswered", "(LPurseWorld$Message;)Z"⟩, 4) := ⟨⟨by decide +kernel, by decide +kernel⟩, List.mem_of_getElem? (i := 25) (by decide +kernel), List.mem_of_getElem? (i := 463) (by decide +kernel), List.mem_of_getElem? (i := 464) (by decide +kernel)⟩
theorem lw_p11 : lw_okq (⟨"PurseWorld", "takePay", "(LPurseWorld$Message;)Z"⟩, 4) := ⟨⟨by decide +kernel, by decide +kernel⟩, List.mem_of_getElem? (i := 25) (by decide +kernel), List.mem_of_getElem? (i := 467) (by decide +kernel), List.mem_of_getElem? (i := 468) (by decide +kernel)⟩
theorem lw_p12 : lw_okq (⟨"PurseWorld", "takeEarn", "(LPurseWorld$Message;)Z"⟩, 4) := ⟨⟨by decide +kernel, by decide +kernel⟩, List.mem_of_getElem? (i := 25) (by decide +kernel), List.mem_of_getElem? (i := 488) (by decide +kernel), List.mem_of_getElem? (i := 489) (by decide +kernel)⟩
theorem lw_p13 : lw_okq (⟨"PurseWorld", "takeAsk", "(LPurseWorld$Message;)Z"⟩, 4) := ⟨⟨by decide +kernel, by decide +kernel⟩, List.mem_of_getElem? (i := 25) (by decide +kernel), List.mem_of_getElem? (i := 492) (by decide +kernel), List.mem_of_getElem? (i := 493) (by decide +kernel)⟩
theorem lw_p14 : lw_okq (⟨"PurseWorld", "takeValue", "(LPurseWorld$Message;)Z"⟩, 4) := ⟨⟨by decide +kernel, by decide +kernel⟩, List.mem_of_getElem? (i := 25) (by decide +kernel), List.mem_of_getElem? (i := 496) (by decide +kernel), List.mem_of_getElem? (i := 497) (by decide +kernel)⟩
theorem lw_p15 : lw_okq (⟨"PurseWorld", "takeThanks", "(LPurseWorld$Message;)Z"⟩, 4) := ⟨⟨by decide +kernel, by decide +kernel⟩, List.mem_of_getElem? (i := 25) (by decide +kernel), List.mem_of_getElem? (i := 501) (by decide +kernel), List.mem_of_getElem? (i := 502) (by decide +kernel)⟩
def lw_privs_1 : List (MethodName × Nat) := [(⟨"PurseWorld", "pendingOfPayer", "(LPurseWorld$Purse;)J"⟩, 4), (⟨"PurseWorld", "amountIfPayeeWaits", "(LPurseWorld$Transfer;)J"⟩, 4), (⟨"PurseWorld", "purseAt", "(I)LPurseWorld$Purse;"⟩, 4), (⟨"java/lang/Throwable", "fillInStackTrace", "(I)Ljava/lang/Throwable;"⟩, 6), (⟨"java/util/ArrayList", "add", "(Ljava/lang/Object;[Ljava/lang/Object;I)V"⟩, 3), (⟨"java/util/ArrayList", "grow", "()[Ljava/lang/Object;"⟩, 3), (⟨"java/util/ArrayList", "grow", "(I)[Ljava/lang/Object;"⟩, 3), (⟨"PurseWorld", "needRoomFor", "(I)V"⟩, 4), (⟨"PurseWorld", "send", "(IILPurseWorld$Transfer;)I"⟩, 4), (⟨"PurseWorld", "messageAt", "(I)LPurseWorld$Message;"⟩, 4), (⟨"PurseWorld", "mayBeAnswered", "(LPurseWorld$Message;)Z"⟩, 4), (⟨"PurseWorld", "takePay", "(LPurseWorld$Message;)Z"⟩, 4), (⟨"PurseWorld", "takeEarn", "(LPurseWorld$Message;)Z"⟩, 4), (⟨"PurseWorld", "takeAsk", "(LPurseWorld$Message;)Z"⟩, 4), (⟨"PurseWorld", "takeValue", "(LPurseWorld$Message;)Z"⟩, 4), (⟨"PurseWorld", "takeThanks", "(LPurseWorld$Message;)Z"⟩, 4)]
theorem lw_r1 : ∀ q ∈ lw_privs_1, lw_okq q := List.forall_mem_cons.mpr ⟨lw_p0, List.forall_mem_cons.mpr ⟨lw_p1, List.forall_mem_cons.mpr ⟨lw_p2, List.forall_mem_cons.mpr ⟨lw_p3, List.forall_mem_cons.mpr ⟨lw_p4, List.forall_mem_cons.mpr ⟨lw_p5, List.forall_mem_cons.mpr ⟨lw_p6, List.forall_mem_cons.mpr ⟨lw_p7, List.forall_mem_cons.mpr ⟨lw_p8, List.forall_mem_cons.mpr ⟨lw_p9, List.forall_mem_cons.mpr ⟨lw_p10, List.forall_mem_cons.mpr ⟨lw_p11, List.forall_mem_cons.mpr ⟨lw_p12, List.forall_mem_cons.mpr ⟨lw_p13, List.forall_mem_cons.mpr ⟨lw_p14, List.forall_mem_cons.mpr ⟨lw_p15, fun _ h => absurd h List.not_mem_nil⟩⟩⟩⟩⟩⟩⟩⟩⟩⟩⟩⟩⟩⟩⟩⟩
theorem lw_p16 : lw_okq (⟨"PurseWorld", "takeClear", "(LPurseWorld$Message;)Z"⟩, 4) := ⟨⟨by decide +kernel, by decide +kernel⟩, List.mem_of_getElem? (i := 25) (by decide +kernel), List.mem_of_getElem? (i := 531) (by decide +kernel), List.mem_of_getElem? (i := 532) (by decide +kernel)⟩
theorem lw_p17 : lw_okq (⟨"PurseWorld", "entryAt", "(I)LPurseWorld$Entry;"⟩, 4) := ⟨⟨by decide +kernel, by decide +kernel⟩, List.mem_of_getElem? (i := 25) (by decide +kernel), List.mem_of_getElem? (i := 594) (by decide +kernel), List.mem_of_getElem? (i := 595) (by decide +kernel)⟩
theorem lw_p18 : lw_okq (⟨"PurseWorldModel", "isPurse", "(I)Z"⟩, 14) := ⟨⟨by decide +kernel, by decide +kernel⟩, List.mem_of_getElem? (i := 646) (by decide +kernel), List.mem_of_getElem? (i := 713) (by decide +kernel), List.mem_of_getElem? (i := 714) (by decide +kernel)⟩
theorem lw_p19 : lw_okq (⟨"PurseWorldModel", "lay", "(IIIIII)V"⟩, 14) := ⟨⟨by decide +kernel, by decide +kernel⟩, List.mem_of_getElem? (i := 646) (by decide +kernel), List.mem_of_getElem? (i := 718) (by decide +kernel), List.mem_of_getElem? (i := 719) (by decide +kernel)⟩
theorem lw_p20 : lw_okq (⟨"PurseWorldModel", "send", "(III)V"⟩, 14) := ⟨⟨by decide +kernel, by decide +kernel⟩, List.mem_of_getElem? (i := 646) (by decide +kernel), List.mem_of_getElem? (i := 722) (by decide +kernel), List.mem_of_getElem? (i := 723) (by decide +kernel)⟩
theorem lw_p21 : lw_okq (⟨"PurseWorldModel", "copy", "(II)V"⟩, 14) := ⟨⟨by decide +kernel, by decide +kernel⟩, List.mem_of_getElem? (i := 646) (by decide +kernel), List.mem_of_getElem? (i := 726) (by decide +kernel), List.mem_of_getElem? (i := 727) (by decide +kernel)⟩
theorem lw_p22 : lw_okq (⟨"PurseWorldModel", "waits", "(III)Z"⟩, 14) := ⟨⟨by decide +kernel, by decide +kernel⟩, List.mem_of_getElem? (i := 646) (by decide +kernel), List.mem_of_getElem? (i := 734) (by decide +kernel), List.mem_of_getElem? (i := 735) (by decide +kernel)⟩
theorem lw_p23 : lw_okq (⟨"PurseWorldModel", "same", "(II)Z"⟩, 14) := ⟨⟨by decide +kernel, by decide +kernel⟩, List.mem_of_getElem? (i := 646) (by decide +kernel), List.mem_of_getElem? (i := 738) (by decide +kernel), List.mem_of_getElem? (i := 739) (by decide +kernel)⟩
theorem lw_p24 : lw_okq (⟨"PurseWorldModel", "takesBegin", "(IIZ)Z"⟩, 14) := ⟨⟨by decide +kernel, by decide +kernel⟩, List.mem_of_getElem? (i := 646) (by decide +kernel), List.mem_of_getElem? (i := 742) (by decide +kernel), List.mem_of_getElem? (i := 743) (by decide +kernel)⟩
theorem lw_p25 : lw_okq (⟨"PurseWorldModel", "endIt", "(I)V"⟩, 14) := ⟨⟨by decide +kernel, by decide +kernel⟩, List.mem_of_getElem? (i := 646) (by decide +kernel), List.mem_of_getElem? (i := 746) (by decide +kernel), List.mem_of_getElem? (i := 747) (by decide +kernel)⟩
theorem lw_p26 : lw_okq (⟨"PurseWorldModel", "part", "(II)I"⟩, 14) := ⟨⟨by decide +kernel, by decide +kernel⟩, List.mem_of_getElem? (i := 646) (by decide +kernel), List.mem_of_getElem? (i := 750) (by decide +kernel), List.mem_of_getElem? (i := 751) (by decide +kernel)⟩
theorem lw_p27 : lw_okq (⟨"PurseWorldModel", "takesOther", "(III)Z"⟩, 14) := ⟨⟨by decide +kernel, by decide +kernel⟩, List.mem_of_getElem? (i := 646) (by decide +kernel), List.mem_of_getElem? (i := 754) (by decide +kernel), List.mem_of_getElem? (i := 755) (by decide +kernel)⟩
theorem lw_p28 : lw_okq (⟨"PurseWorldModel", "takesRecord", "(I)Z"⟩, 14) := ⟨⟨by decide +kernel, by decide +kernel⟩, List.mem_of_getElem? (i := 646) (by decide +kernel), List.mem_of_getElem? (i := 758) (by decide +kernel), List.mem_of_getElem? (i := 759) (by decide +kernel)⟩
theorem lw_p29 : lw_okq (⟨"PurseWorldModel", "isKept", "(III)Z"⟩, 14) := ⟨⟨by decide +kernel, by decide +kernel⟩, List.mem_of_getElem? (i := 646) (by decide +kernel), List.mem_of_getElem? (i := 762) (by decide +kernel), List.mem_of_getElem? (i := 763) (by decide +kernel)⟩
theorem lw_p30 : lw_okq (⟨"PurseWorldModel", "takesClearing", "(II)Z"⟩, 14) := ⟨⟨by decide +kernel, by decide +kernel⟩, List.mem_of_getElem? (i := 646) (by decide +kernel), List.mem_of_getElem? (i := 766) (by decide +kernel), List.mem_of_getElem? (i := 767) (by decide +kernel)⟩
theorem lw_p31 : lw_okq (⟨"PurseWorldModel", "isRefunded", "(I)Z"⟩, 14) := ⟨⟨by decide +kernel, by decide +kernel⟩, List.mem_of_getElem? (i := 646) (by decide +kernel), List.mem_of_getElem? (i := 786) (by decide +kernel), List.mem_of_getElem? (i := 787) (by decide +kernel)⟩
def lw_privs_2 : List (MethodName × Nat) := [(⟨"PurseWorld", "takeClear", "(LPurseWorld$Message;)Z"⟩, 4), (⟨"PurseWorld", "entryAt", "(I)LPurseWorld$Entry;"⟩, 4), (⟨"PurseWorldModel", "isPurse", "(I)Z"⟩, 14), (⟨"PurseWorldModel", "lay", "(IIIIII)V"⟩, 14), (⟨"PurseWorldModel", "send", "(III)V"⟩, 14), (⟨"PurseWorldModel", "copy", "(II)V"⟩, 14), (⟨"PurseWorldModel", "waits", "(III)Z"⟩, 14), (⟨"PurseWorldModel", "same", "(II)Z"⟩, 14), (⟨"PurseWorldModel", "takesBegin", "(IIZ)Z"⟩, 14), (⟨"PurseWorldModel", "endIt", "(I)V"⟩, 14), (⟨"PurseWorldModel", "part", "(II)I"⟩, 14), (⟨"PurseWorldModel", "takesOther", "(III)Z"⟩, 14), (⟨"PurseWorldModel", "takesRecord", "(I)Z"⟩, 14), (⟨"PurseWorldModel", "isKept", "(III)Z"⟩, 14), (⟨"PurseWorldModel", "takesClearing", "(II)Z"⟩, 14), (⟨"PurseWorldModel", "isRefunded", "(I)Z"⟩, 14)]
theorem lw_r2 : ∀ q ∈ lw_privs_2, lw_okq q := List.forall_mem_cons.mpr ⟨lw_p16, List.forall_mem_cons.mpr ⟨lw_p17, List.forall_mem_cons.mpr ⟨lw_p18, List.forall_mem_cons.mpr ⟨lw_p19, List.forall_mem_cons.mpr ⟨lw_p20, List.forall_mem_cons.mpr ⟨lw_p21, List.forall_mem_cons.mpr ⟨lw_p22, List.forall_mem_cons.mpr ⟨lw_p23, List.forall_mem_cons.mpr ⟨lw_p24, List.forall_mem_cons.mpr ⟨lw_p25, List.forall_mem_cons.mpr ⟨lw_p26, List.forall_mem_cons.mpr ⟨lw_p27, List.forall_mem_cons.mpr ⟨lw_p28, List.forall_mem_cons.mpr ⟨lw_p29, List.forall_mem_cons.mpr ⟨lw_p30, List.forall_mem_cons.mpr ⟨lw_p31, fun _ h => absurd h List.not_mem_nil⟩⟩⟩⟩⟩⟩⟩⟩⟩⟩⟩⟩⟩⟩⟩⟩
theorem lw_p32 : lw_okq (⟨"PurseWorldModel", "amountOf", "(II)J"⟩, 14) := ⟨⟨by decide +kernel, by decide +kernel⟩, List.mem_of_getElem? (i := 646) (by decide +kernel), List.mem_of_getElem? (i := 826) (by decide +kernel), List.mem_of_getElem? (i := 827) (by decide +kernel)⟩
theorem lw_p33 : lw_okq (⟨"PurseWorldModel", "holds", "(II)Z"⟩, 14) := ⟨⟨by decide +kernel, by decide +kernel⟩, List.mem_of_getElem? (i := 646) (by decide +kernel), List.mem_of_getElem? (i := 830) (by decide +kernel), List.mem_of_getElem? (i := 831) (by decide +kernel)⟩
theorem lw_p34 : lw_okq (⟨"PurseWorldModel", "isInLog", "(II)Z"⟩, 14) := ⟨⟨by decide +kernel, by decide +kernel⟩, List.mem_of_getElem? (i := 646) (by decide +kernel), List.mem_of_getElem? (i := 834) (by decide +kernel), List.mem_of_getElem? (i := 835) (by decide +kernel)⟩
def lw_privs_3 : List (MethodName × Nat) := [(⟨"PurseWorldModel", "amountOf", "(II)J"⟩, 14), (⟨"PurseWorldModel", "holds", "(II)Z"⟩, 14), (⟨"PurseWorldModel", "isInLog", "(II)Z"⟩, 14)]
theorem lw_r3 : ∀ q ∈ lw_privs_3, lw_okq q := List.forall_mem_cons.mpr ⟨lw_p32, List.forall_mem_cons.mpr ⟨lw_p33, List.forall_mem_cons.mpr ⟨lw_p34, fun _ h => absurd h List.not_mem_nil⟩⟩⟩
def lw_privs : List (MethodName × Nat) := lw_privs_1 ++ (lw_privs_2 ++ (lw_privs_3))
def lw_tbl : List Cond := k2_sels lw_privs ++ tables_1
theorem lw_privs_ok : ∀ q ∈ lw_privs, lw_okq q := by
  show ∀ q ∈ lw_privs_1 ++ (lw_privs_2 ++ (lw_privs_3)), lw_okq q
  exact List.forall_mem_append.mpr ⟨lw_r1, List.forall_mem_append.mpr ⟨lw_r2, lw_r3⟩⟩
end
section
/-! Catching behind a table whose catch types may still be unresolved (the printed vx_catch wants it; rounds hold no such law): the search goes through rows that name other classes, each link noted in the tables. -/
section QCATCH
/-- what the search gives in the state U, whatever is asked afterwards, and the tables that it leaves -/
def qc_To (e : Env) (U : State) (f : JFrame) (a : Addr) (h : Handler) (vm' : Vm) : Prop :=
  ∀ (Q : Handler → Pre) (E : CtlPost) (d : Bool) (acts : List Action), wp (findHandler f a) Q E e d acts U ↔ Q h d acts (U.setVm vm')
/-- a row that doesn't take it: it covers another stretch, or links to a class that the thrown one isn't of -/
def qc_pass (pl : Platform) (s₀ : State) (d : ClassId) (pc : Nat) (thrown : ClassId) (y : ExceptionTableEntry) : Prop :=
  covers y pc = false ∨ (y.catchType ≠ 0 ∧ ∃ c, s₀.vm.ClassLinks pl d y.catchType c ∧ s₀.vm.assignable thrown c = false)
theorem qc_goLink {Q : Handler → Pre} {E : CtlPost} {e : Env} {d : Bool} {acts : List Action} {U : State} {f : JFrame} {a : Addr} {x : ExceptionTableEntry} {t : List ExceptionTableEntry} {c : ClassId} {cell : Cell} (hx : covers x f.pc = true) (h0 : x.catchType ≠ 0)
    (hl : U.vm.ClassLinks e.platform f.method.cls x.catchType c) (hcell : U.heap[a]? = some cell) (hobj : ∀ k, cell.vm ≠ .statics k)
    (hk : ∃ k, U.vm.classes[cell.cls]? = some k) (hc : ∃ k, U.vm.classes[c]? = some k) :
    wp (findHandler.go f a (x :: t)) Q E e d acts U ↔ if U.vm.assignable cell.cls c = true then Q (.found x.handlerPc) d acts (U.setVm (U.vm.noted f.method.cls x.catchType (.cls c)))
      else wp (findHandler.go f a t) Q E e d acts (U.setVm (U.vm.noted f.method.cls x.catchType (.cls c))) := by
  simp only [covers] at hx
  obtain ⟨ha, ht⟩ := (resolveClass_links e.toSetting hl).op (op := VmOp.resolveClass f.method.cls x.catchType) rfl
  have hal : U.vm.Alike (U.vm.noted f.method.cls x.catchType (.cls c)) := (Vm.Alike.refl U.vm).noted _ _ _
  obtain ⟨k1, hk1⟩ := hk
  obtain ⟨k2, hk2⟩ := hc
  obtain ⟨k1', hk1', -⟩ := hal.2.2 _ _ hk1
  obtain ⟨k2', hk2', -⟩ := hal.2.2 _ _ hk2
  cases hfit : U.vm.assignable cell.cls c
  · have hno : (U.vm.noted f.method.cls x.catchType (.cls c)).assignable cell.cls c = false := by rw [hal.assignable]; exact hfit
    simp [findHandler.go, hx, h0, ha, ht, hcell, hobj, hk1', hk2', hno, VmOp.dirties, VmOp.acts]
  · have hyes : (U.vm.noted f.method.cls x.catchType (.cls c)).assignable cell.cls c = true := by rw [hal.assignable]; exact hfit
    simp [findHandler.go, hx, h0, ha, ht, hcell, hobj, hk1', hk2', hyes, VmOp.dirties, VmOp.acts]
theorem qc_go {e : Env} {s₀ : State} {f : JFrame} {a : Addr} {cell : Cell} {cT : ClassId} (hobj : ∀ k, cell.vm ≠ .statics k) (hk0 : ∃ k, s₀.vm.classes[cell.cls]? = some k)
    (x : ExceptionTableEntry) (rest : List ExceptionTableEntry) (hx : covers x f.pc = true) (h0 : x.catchType ≠ 0) (hl : s₀.vm.ClassLinks e.platform f.method.cls x.catchType cT) (hfit : s₀.vm.assignable cell.cls cT = true) :
    ∀ (pre : List ExceptionTableEntry) (U : State), s₀.WarmedH U.vm → U.heap[a]? = some cell → (∀ y ∈ pre, qc_pass e.platform s₀ f.method.cls f.pc cell.cls y) →
      ∃ vm', s₀.WarmedH vm' ∧ ∀ (Q : Handler → Pre) (E : CtlPost) (d : Bool) (acts : List Action), wp (findHandler.go f a (pre ++ x :: rest)) Q E e d acts U ↔ Q (.found x.handlerPc) d acts (U.setVm vm') := by
  obtain ⟨k0, hk0⟩ := hk0
  intro pre
  induction pre with
  | nil =>
    intro U hW hcell _
    obtain ⟨k0', hk0', -⟩ := hW.alike.2.2 _ _ hk0
    obtain ⟨dk, _, _, kt, hd, _, _, _, _, hkt, _, hopen⟩ := hl.here
    obtain ⟨kt', hkt', -⟩ := hW.alike.2.2 _ _ hkt
    exact ⟨_, hW.noted hd hopen (State.rightAt_cls hl), fun Q E d acts => by
      rw [List.nil_append, qc_goLink hx h0 (hW.classLinks hl) hcell hobj ⟨k0', hk0'⟩ ⟨kt', hkt'⟩, if_pos (by rw [hW.alike.assignable]; exact hfit)]⟩
  | cons y ys ih =>
    intro U hW hcell hpass
    obtain ⟨k0', hk0', -⟩ := hW.alike.2.2 _ _ hk0
    have hrest : ∀ z ∈ ys, qc_pass e.platform s₀ f.method.cls f.pc cell.cls z := fun z hz => hpass z (List.mem_cons_of_mem _ hz)
    by_cases hcov : covers y f.pc = true
    · rcases hpass y (List.mem_cons_self ..) with h | ⟨h0, c, hl, hno⟩
      · rw [h] at hcov; cases hcov
      · obtain ⟨dk, _, _, kt, hd, _, _, _, _, hkt, _, hopen⟩ := hl.here
        obtain ⟨kt', hkt', -⟩ := hW.alike.2.2 _ _ hkt
        obtain ⟨vm', hW', hq⟩ := ih (U.setVm (U.vm.noted f.method.cls y.catchType (.cls c))) (hW.noted hd hopen (State.rightAt_cls hl)) hcell hrest
        exact ⟨vm', hW', fun Q E d acts => by
          rw [List.cons_append, qc_goLink hcov h0 (hW.classLinks hl) hcell hobj ⟨k0', hk0'⟩ ⟨kt', hkt'⟩, if_neg (by rw [hW.alike.assignable, hno]; decide)]
          exact hq Q E d acts⟩
    · obtain ⟨vm', hW', hq⟩ := ih U hW hcell hrest
      exact ⟨vm', hW', fun Q E d acts => by
        rw [List.cons_append, Jvm.W.findHandler_go_skip (by simpa using hcov)]
        exact hq Q E d acts⟩
theorem qc_step {e : Env} {U : State} {a : Addr} {f : JFrame} {r : List Frame} {pc : Nat} {vm' : Vm} (hfind : qc_To e U f a (.found pc) vm') :
    (stepThrowing e U a (.java f :: r)).Is ((U.setVm vm').setFrames (.java { f with pc := pc, stack := [.ref a] } :: r)) [] := by
  simp only [stepThrowing, searchFrame, vmDo]
  generalize hr : Sem.go _ e false [] U = res
  obtain ⟨as, rfl, ha⟩ := Sem.eq_ok_of hr (a := Handler.found pc) (s' := U.setVm vm') (acts' := []) (by simp [hfind _ _ _ _])
  exact ⟨rfl, ha⟩
theorem qc_frames (u : State) (vm' : Vm) (F G : List Frame) : ((u.setFrames F).setVm vm').setFrames G = (u.setVm vm').setFrames G := by
  have h1 : (u.setFrames F).setVm vm' = (u.setVm vm').setFrames F := rfl
  rw [h1, State.setFrames_setFrames]
theorem qc_caught {tb : Tables} {e : Env} {U target : State} {g : JFrame} {c : Code} {below : List Frame} {a : Addr} (h : At U g.method c below) {pc : Nat} {vm' : Vm}
    (hfind : qc_To e ((U.setTop g).pushFrame (.throwing a)) g a (.found pc) vm') (hrest : Steps tb e below ((U.setVm vm').setTop { g with pc := pc, stack := [.ref a] }) target) :
    Steps tb e below ((U.setTop g).pushFrame (.throwing a)) target := by
  obtain ⟨hgo, hw⟩ := h.throwing a
  refine Steps.head hgo hw ?_
  rw [stepThread_throwing (frames_entered h.top _), (qc_step (U := (U.setTop g).pushFrame (.throwing a)) hfind).1]
  obtain ⟨g₀, hg⟩ := Option.isSome_iff_exists.mp h.top
  obtain ⟨r, hr⟩ := State.topJava?_eq_some.mp hg
  have hr' : (U.setVm vm').frames = .java g₀ :: r := hr
  rw [State.setTop_of_frames _ hr'] at hrest
  rw [hr, List.tail_cons, State.pushFrame, qc_frames, State.setTop_of_frames _ hr, qc_frames]
  exact hrest
/-- a callee's throw, caught in this method by the row x, behind rows that pass it on -/
theorem qc_through {p : Program} {l : Launch} {e : Env} {R : Room} {s : State} {m₀ : MethodId} {args : Array Value} {below : List Frame} {meth : Method} {c : Code} {T : State} {locs : List Loc} {cells slots : Nat}
    (X : Stand p l e R s m₀ args below meth c T locs cells slots) (a : Addr) {g : JFrame} (hg : g.method = m₀) {s₀ : State} (hcome : Steps p.tables e below s₀ ((T.setTop g).pushFrame (.throwing a)))
    {cell : Cell} (hcell : T.heap[a]? = some cell) (hobj : cell.vm.isStatics = false) (hk0 : ∃ k, s.vm.classes[cell.cls]? = some k)
    (pre : List ExceptionTableEntry) (x : ExceptionTableEntry) (rest : List ExceptionTableEntry) (hsplit : c.exceptionTable.toList = pre ++ x :: rest)
    (hpass : ∀ y ∈ pre, qc_pass e.platform s m₀.cls g.pc cell.cls y) (hx : covers x g.pc = true) (h0 : x.catchType ≠ 0) {cT : ClassId} (hl : s.vm.ClassLinks e.platform m₀.cls x.catchType cT) (hfit : s.vm.assignable cell.cls cT = true) :
    ∃ vm', Stand p l e R s m₀ args below meth c (T.setVm vm') locs cells slots ∧ Steps p.tables e below s₀ ((T.setVm vm').setTop { g with pc := x.handlerPc, stack := [.ref a] }) := by
  subst hg
  obtain ⟨vm', hW', hq⟩ := qc_go (e := e) (s₀ := s) (f := g) (a := a) (cell := cell) (VmData.ne_statics_of hobj) hk0 x rest hx h0 hl hfit pre ((T.setTop g).pushFrame (.throwing a)) X.warmed hcell hpass
  have hf : qc_To e ((T.setTop g).pushFrame (.throwing a)) g a (.found x.handlerPc) vm' := fun Q E d acts => by rw [Jvm.W.findHandler_eq (s := (T.setTop g).pushFrame (.throwing a)) (meth := meth) (code := c) X.method' X.code, hsplit]; exact hq Q E d acts
  exact ⟨vm', X.noted hW', hcome.trans (qc_caught X.here hf (Steps.refl _))⟩
end QCATCH
end
section
/-! ===== BEGIN words of one list among another's, by their places ===== -/
theorem goodIn_r {big : List Cond} (ws : List Cond) (ps : List Nat) (hp : ws = ps.filterMap (fun i => big[i]?)) (h : ws.all goodWord = true) : GoodIn big ws := by
  intro w hw
  have h1 := List.all_eq_true.mp h w hw
  rw [hp] at hw
  obtain ⟨i, -, hi⟩ := List.mem_filterMap.mp hw
  have hm : w ∈ big := by first | exact List.mem_of_getElem? hi | exact List.getElem?_mem hi
  exact ⟨hm, good_of_word h1⟩
theorem goodIn_app {big a b : List Cond} (ha : GoodIn big a) (hb : GoodIn big b) : GoodIn big (a ++ b) := fun w h => (List.mem_append.mp h).elim (ha w) (hb w)
theorem goodIn_ca {big a b : List Cond} {c : Cond} (ha : GoodIn big (c :: a)) (hb : GoodIn big b) : GoodIn big (c :: (a ++ b)) := fun w h => (List.mem_cons.mp h).elim (fun e => ha w (List.mem_cons.mpr (Or.inl e))) (fun h => (List.mem_append.mp h).elim (fun h => ha w (List.mem_cons.mpr (Or.inr h))) (hb w))
theorem goodIn_sub {big ws : List Cond} (hm : ∀ w ∈ ws, w ∈ big) (h : ws.all goodWord = true) : GoodIn big ws := fun w hw => ⟨hm w hw, good_of_word (List.all_eq_true.mp h w hw)⟩
/-! ===== END ===== -/

/-! ===== BEGIN exceptions that leave a method, and their catching by the caller (launches without stack traces) ===== -/
section VXA
/-! The laws vx_back, vx_callV, vx_callS, vx_callSW, vx_throw0, vx_throwS follow proofs of the library, with one case more: JvmDerived/Free/Laws.lean (Back.of_free), Shelf42/LK1.lean (callV, callS), Shelf/KitTraced.lean (throwNew0V, throwNewS). -/
/-- where a method has thrown q: the class by its name, the cell, what was written, the world -/
def vx_T (XC : String → State → State → Prop) (st : State) (q : Addr) (t : State) (mc ms : Nat) (free : Addr → Prop) : Prop :=
  ∃ (E : String) (ce : Cell) (L : List Loc), XC E st t ∧ t.heap[q]? = some ce ∧ ce.vm = .none ∧ st.vm.findClass E = some ce.cls ∧ st.WarmedH t.vm ∧ st.sameButNew ({ t with vm := st.vm } : State) L mc ms ∧ ∀ z ∈ L, free z.base
def vx_Q (Qc : Array Value → State → Outcome → State → Prop) (XC : String → State → State → Prop) (mc ms : Nat) (free : Addr → Prop) : Array Value → State → Outcome → State → Prop := fun a st o t =>
  (Qc a st o t ∧ ∃ L, FrameEnd st o t L mc ms ∧ ∀ q ∈ L, free q.base) ∨ ∃ q, o = .threw q ∧ vx_T XC st q t mc ms free
/-- a callee that returns or throws -/
def vx_Met (l : Launch) (y : MethodName) (ws : List Cond) (rm : Room) (Pc : Array Value → State → Prop) (Qc : Array Value → State → Outcome → State → Prop) (XC : String → State → State → Prop) (mc ms : Nat) (free : Addr → Prop) : Prop :=
  MetFree l y (headSpec ws rm) Pc (fun _ _ _ _ _ => True) (vx_Q Qc XC mc ms free)
def vx_Post (XC : String → State → State → Prop) (mc ms : Nat) (free : Addr → Prop) : Pt → Array Value → Addr → Pt → Prop := fun A a q B =>
  ∃ (g : JFrame) (mk : MethodId) (t : State) (L : List Loc) (E : String) (ce : Cell), B.U.heap = t.heap ∧ B.U.vm = t.vm ∧ XC E (A.U.calling g mk a) t ∧ t.heap[q]? = some ce ∧ ce.vm = .none ∧ A.U.vm.findClass E = some ce.cls ∧ B.locs = A.locs ++ L ∧ (∀ z ∈ L, free z.base) ∧ B.cells = A.cells + mc ∧ B.slots = A.slots + ms
def vx_Back (l : Launch) (R : Room) (p : Program) (e : Env) (below : List Frame) (s : State) (sargs : Array Value) (y : MethodName) (len W9 : Nat)
    (Pre : Pt → Array Value → Prop) (Post : Pt → Array Value → Option Value → Pt → Prop) (PostX : Pt → Array Value → Addr → Pt → Prop) : Prop :=
  ∀ (m : MethodId) (meth : Method) (c : Code) (A : Pt) (g : JFrame) (ig : Instr) (mk : MethodId) (a : Array Value),
    Stand p l e R s m sargs below meth c A.U A.locs A.cells A.slots → g.method = m → g.locals.size = c.maxLocals → decode c.code g.pc = .ok (ig, len) →
    2 * g.monitorRoom + (g.stack.map fun v => v.category).sum ≤ W9 → A.U.methodNamed? y = some mk → Pre A a →
    (∃ (v : Option Value) (B : Pt), Stand p l e R s m sargs below meth c B.U B.locs B.cells B.slots ∧ Post A a v B ∧
      Steps p.tables e below (doInvoke e (A.U.setTop g) [] mk a).1 (B.U.setTop { g with pc := g.pc + len, stack := v.toList ++ g.stack })) ∨
    (∃ (q : Addr) (B : Pt), Stand p l e R s m sargs below meth c B.U B.locs B.cells B.slots ∧ PostX A a q B ∧
      Steps p.tables e below (doInvoke e (A.U.setTop g) [] mk a).1 ((B.U.setTop g).pushFrame (.throwing q)))
section Payer
variable {l : Launch} {R : Room} {p : Program} {e : Env} {below : List Frame} {s : State} {sargs : Array Value} {y : MethodName} {len W9 : Nat}
theorem vx_back {ws : List Cond} {rm : Room} {Pc : Array Value → State → Prop} {Qc : Array Value → State → Outcome → State → Prop} {XC : String → State → State → Prop} {mc ms : Nat} {free : Addr → Prop} {bytes : ByteArray} {maxL : Nat} {ret : Option FieldType}
    (hM : vx_Met l y ws rm Pc Qc XC mc ms free) (hblind : FrameBlind Pc) (hrc : rm.cells = mc) (hrs : rm.slots = ms)
    (hframes : rm.frames + 1 ≤ R.frames) (hlocals : W9 + (maxL + 11) + rm.locals ≤ R.locals)
    (hws : ∀ w ∈ ws, ∀ a' U, s.WarmedH U.vm → w.before a' U = true) (hcode : Cond.code y bytes maxL ret ∈ ws) (hinit : ∀ a' U, s.WarmedH U.vm → (Cond.initialized y.cls).before a' U = true) :
    vx_Back l R p e below s sargs y len W9 (PreOf R mc ms Pc) (PostOf Qc mc ms free) (vx_Post XC mc ms free) := by
  intro m meth c A g ig mk a X hg hsize hdg hW hn hp
  have h1 : (headSpec ws rm).pre.before a A.U = true := atoms_intro fun w hw => hws w hw _ _ X.warmed
  have h2 : (Cond.code y bytes maxL ret).before a A.U = true := hws _ hcode _ _ X.warmed
  have h3 : (Cond.initialized y.cls).before a A.U = true := hinit _ _ X.warmed
  have h4 : A.cells + (headSpec ws rm).room.cells ≤ R.cells := by rw [show (headSpec ws rm).room.cells = mc from hrc]; exact hp.1
  have h5 : A.slots + (headSpec ws rm).room.slots ≤ R.slots := by rw [show (headSpec ws rm).room.slots = ms from hrs]; exact hp.2.1
  have hPc : Pc a (A.U.calling g mk a) := hblind _ _ _ _ hp.2.2
  obtain ⟨U, Ls, c0, s0⟩ := A
  dsimp only [Pt.U, Pt.locs, Pt.cells, Pt.slots] at h1 h2 h3 h4 h5 X hn hPc ⊢
  obtain ⟨methY, cY, hmY, hcY, -, hlY, -, -, -, -⟩ := Cond.code_spec hn h2
  obtain ⟨kY, hkY, -⟩ := className_of_methodNamed hn
  have hinitY : kY.init = .initialized := Cond.initialized_spec (findClass_of_methodNamed hn) hkY h3
  have h : At U g.method c below := by rw [hg]; exact X.here
  have hlocals9 : W9 + (maxL + 11) + (headSpec ws rm).room.locals ≤ R.locals := hlocals
  have happ : (headSpec ws rm).appliesLoose y e.platform (U.calling g mk a) = true :=
    Spec.appliesLoose_calling (g := g) h hdg hn hkY hinitY
      (X.room_calling (g := g) (R' := (headSpec ws rm).room) hsize hmY hcY hframes (by rw [hlY]; omega) h4 h5) h1
  obtain ⟨mid, hmid⟩ := h.above
  have hfr : (U.setTop g).frames = (.java g :: mid) ++ below := by rw [State.frames_setTop' g h.top, hmid]; rfl
  obtain ⟨o, s₂, hsteps, -, hend, hq⟩ := Steps.callFree hM p X.admits X.cas X.clock (acts := []) hfr happ hPc trivial
  have hq' : vx_Q Qc XC mc ms free a (U.calling g mk a) o s₂ := hq
  rw [State.frames_setTop' g h.top] at hend
  obtain ⟨g₀, hg0⟩ := Option.isSome_iff_exists.mp h.top
  obtain ⟨r, hr⟩ := State.topJava?_eq_some.mp hg0
  have hr' : (({ U with heap := s₂.heap, slotsUsed := s₂.slotsUsed } : State).setVm s₂.vm).frames = .java g₀ :: r := hr
  rcases hq' with ⟨hqc, L, hfe, hL⟩ | ⟨q, rfl, E, ce, L, hx, hce, hcv, hcl, hW₂, hsm, hL⟩
  · obtain ⟨⟨v, rfl⟩, hW₂, e2, q2, q3, q4, q5, q6⟩ := id hfe
    have e3 : s₂ = ({ (U.calling g mk a).setFrames s₂.frames with heap := s₂.heap, slotsUsed := s₂.slotsUsed } : State).setVm s₂.vm := by
      have : s₂ = ({ s₂ with vm := (U.calling g mk a).vm } : State).setVm s₂.vm := rfl
      rw [e2] at this
      exact this
    obtain ⟨c₂, i₂, len₂, hc₂, hd₂, hf₂⟩ := hend
    have hW' : U.WarmedH s₂.vm := hW₂
    have hcc : c₂ = c := by
      have h1 : s₂.code? g.method = U.code? g.method := by
        rw [State.code?_eq, State.code?_eq, hW'.alike.method?]
      exact Option.some.inj (hc₂.symm.trans (h1.trans h.code))
    subst hcc
    have hlen : len₂ = len := by rw [hdg] at hd₂; cases hd₂; rfl
    subst hlen
    have hs₂ : s₂ = (({ U with heap := s₂.heap, slotsUsed := s₂.slotsUsed } : State).setVm s₂.vm).setTop { g with pc := g.pc + len₂, stack := v.toList ++ g.stack } := by
      refine e3.trans ?_
      rw [hf₂, State.calling_eq h.top, State.setFrames_setFrames, State.setTop_of_frames _ hr', hr]
      rfl
    have hsame : U.sameButNew ({ U with heap := s₂.heap, slotsUsed := s₂.slotsUsed } : State) L mc ms := by
      refine ⟨?_, q2, q3, q4, q5, q6⟩
      obtain ⟨t, ht, -⟩ := State.frames_cons hr
      show ({ U with heap := s₂.heap, slotsUsed := s₂.slotsUsed } : State) = { U.setFrames U.frames with heap := s₂.heap, slotsUsed := s₂.slotsUsed }
      rw [State.setFrames_self ht]
    subst hg
    refine Or.inl ⟨v, ⟨(({ U with heap := s₂.heap, slotsUsed := s₂.slotsUsed } : State).setVm s₂.vm), Ls ++ L, c0 + mc, s0 + ms⟩,
      ⟨X.admits, X.cas, X.clock, X.frames, X.room, X.hears, X.method, X.code, (X.here.setHeapUsed s₂.heap s₂.slotsUsed).setVm hW'.alike, X.tail, State.WarmedH.trans X.warmed hW', X.limits, X.bytes, X.same.trans (hsame.setVm s.vm)⟩,
      ⟨g, mk, s₂, L, rfl, rfl, hqc, rfl, hL, rfl, rfl⟩, ?_⟩
    show Steps p.tables e below _ ((({ U with heap := s₂.heap, slotsUsed := s₂.slotsUsed } : State).setVm s₂.vm).setTop { g with pc := g.pc + len₂, stack := v.toList ++ g.stack })
    rw [← hs₂]
    exact hsteps
  · obtain ⟨e2, q2, q3, q4, q5, q6⟩ := id hsm
    have e3 : s₂ = ({ (U.calling g mk a).setFrames s₂.frames with heap := s₂.heap, slotsUsed := s₂.slotsUsed } : State).setVm s₂.vm := by
      have : s₂ = ({ s₂ with vm := (U.calling g mk a).vm } : State).setVm s₂.vm := rfl
      rw [e2] at this
      exact this
    have hf₂ : s₂.frames = .throwing q :: .java g :: U.frames.tail := hend
    have hW' : U.WarmedH s₂.vm := hW₂
    have hs₂ : s₂ = ((({ U with heap := s₂.heap, slotsUsed := s₂.slotsUsed } : State).setVm s₂.vm).setTop g).pushFrame (.throwing q) := by
      refine e3.trans ?_
      rw [hf₂, State.calling_eq h.top, State.setFrames_setFrames, State.pushFrame, State.frames_setTop _ hr', State.setTop_of_frames _ hr', State.setFrames_setFrames, hr]
      rfl
    have hsame : U.sameButNew ({ U with heap := s₂.heap, slotsUsed := s₂.slotsUsed } : State) L mc ms := by
      refine ⟨?_, q2, q3, q4, q5, q6⟩
      obtain ⟨t, ht, -⟩ := State.frames_cons hr
      show ({ U with heap := s₂.heap, slotsUsed := s₂.slotsUsed } : State) = { U.setFrames U.frames with heap := s₂.heap, slotsUsed := s₂.slotsUsed }
      rw [State.setFrames_self ht]
    subst hg
    refine Or.inr ⟨q, ⟨(({ U with heap := s₂.heap, slotsUsed := s₂.slotsUsed } : State).setVm s₂.vm), Ls ++ L, c0 + mc, s0 + ms⟩,
      ⟨X.admits, X.cas, X.clock, X.frames, X.room, X.hears, X.method, X.code, (X.here.setHeapUsed s₂.heap s₂.slotsUsed).setVm hW'.alike, X.tail, State.WarmedH.trans X.warmed hW', X.limits, X.bytes, X.same.trans (hsame.setVm s.vm)⟩,
      ⟨g, mk, s₂, L, E, ce, rfl, rfl, hx, hce, hcv, hcl, rfl, hL, rfl, rfl⟩, ?_⟩
    show Steps p.tables e below _ (((({ U with heap := s₂.heap, slotsUsed := s₂.slotsUsed } : State).setVm s₂.vm).setTop g).pushFrame (.throwing q))
    rw [← hs₂]
    exact hsteps
end Payer
section Calls
variable {p : Program} {l : Launch} {e : Env} {R : Room} {s : State} {m : MethodId} {args : Array Value} {below : List Frame} {meth : Method} {c : Code} {T : State} {locs : List Loc} {cells slots : Nat}
theorem vx_callV (X : Stand p l e R s m args below meth c T locs cells slots) (hexec : p.tables.exec = Jvm.exec) {own C : String} {index : Nat} {y : MethodName} {bytes : ByteArray} {maxL : Nat} {ret : Option FieldType}
    (hown : s.vm.findClass own = some m.cls) (hlink : (Cond.methodLink own index y).before args s = true) (hinst : (Cond.instanceMethod y).before args s = true) (hsel : (Cond.selects C y y).before args s = true)
    (hcode : (Cond.code y bytes maxL ret).before args s = true) (hy : y.cls ≠ "java/lang/invoke/MethodHandle" ∧ y.cls ≠ "java/lang/invoke/VarHandle")
    {W9 : Nat} {Pre : Pt → Array Value → Prop} {Post : Pt → Array Value → Option Value → Pt → Prop} {PostX : Pt → Array Value → Addr → Pt → Prop} (hK : vx_Back l R p e below s args y 3 W9 Pre Post PostX)
    {b : Addr} {cellB : Cell} (hcell : T.heap[b]? = some cellB) (hobj : cellB.vm.isStatics = false) (hcls : s.vm.findClass C = some cellB.cls)
    {g : JFrame} (hg : g.method = m) (hsize : g.locals.size = c.maxLocals) {argsL rest : List Value} (hlen : ∀ sig, parseMethodDescriptor y.desc = some sig → argsL.length = sig.parameters.length)
    (hstack : g.stack = argsL.reverse ++ .ref b :: rest) (hW : 2 * g.monitorRoom + (rest.map fun v => v.category).sum ≤ W9) (hdg : decode c.code g.pc = .ok (.invokevirtual index, 3))
    (hpre : ∀ vm₁, s.WarmedH vm₁ → Pre ⟨T.setVm vm₁, locs, cells, slots⟩ (Value.ref b :: argsL).toArray) :
    (∃ (v : Option Value) (vm₁ : Vm) (B : Pt), s.WarmedH vm₁ ∧ Stand p l e R s m args below meth c B.U B.locs B.cells B.slots ∧ Post ⟨T.setVm vm₁, locs, cells, slots⟩ (Value.ref b :: argsL).toArray v B ∧
      ∀ target, Steps p.tables e below (B.U.setTop { g with pc := g.pc + 3, stack := v.toList ++ rest }) target → Steps p.tables e below (T.setTop g) target) ∨
    (∃ (q : Addr) (vm₁ : Vm) (B : Pt), s.WarmedH vm₁ ∧ Stand p l e R s m args below meth c B.U B.locs B.cells B.slots ∧ PostX ⟨T.setVm vm₁, locs, cells, slots⟩ (Value.ref b :: argsL).toArray q B ∧
      Steps p.tables e below (T.setTop g) ((B.U.setTop { g with stack := rest }).pushFrame (.throwing q))) := by
  obtain ⟨mk, methM, hnamed, hmethM, hstM, habM⟩ := Cond.instanceMethod_spec hinst
  obtain ⟨methM', cM, hmethM', -, -, -, -, -, -, hsigM⟩ := Cond.code_spec hnamed hcode
  cases hmethM.symm.trans hmethM'
  obtain ⟨c2, r2, m2, q1, q2, q3, q4, kP, hkP, hkPi⟩ := Cond.selects_spec hsel
  cases hcls.symm.trans q1
  cases (State.methodFound?_of_named hnamed hy).symm.trans q2
  cases hnamed.symm.trans q3
  have hselP : selectMethod e.platform s.vm cellB.cls mk = .method mk := by rw [Launch.admits_selectMethod X.admits]; exact q4
  obtain ⟨vm₁, X₁, hstep₁⟩ := X.invokevirtual hexec hown hlink hnamed hmethM hstM hkP hkPi hy (a := b) (cell := cellB) hcell
    (fun z h => by rw [h] at hobj; cases hobj) hselP hmethM habM hkP hkPi (g := g) hg (argsL := argsL) (rest := rest) (hlen _ hsigM) hstack hdg
  rcases hK m meth c ⟨T.setVm vm₁, locs, cells, slots⟩ { g with stack := rest } (.invokevirtual index) mk (Value.ref b :: argsL).toArray X₁ hg hsize hdg hW (X₁.named hnamed) (hpre vm₁ X₁.warmed) with ⟨v, B, X', hpost, hsteps⟩ | ⟨q, B, X', hpost, hsteps⟩
  · exact Or.inl ⟨v, vm₁, B, X₁.warmed, X', hpost, fun target h => hstep₁ _ fun acts => by rw [doInvoke_state]; exact hsteps.trans h⟩
  · exact Or.inr ⟨q, vm₁, B, X₁.warmed, X', hpost, hstep₁ _ fun acts => by rw [doInvoke_state]; exact hsteps⟩
theorem vx_callS (X : Stand p l e R s m args below meth c T locs cells slots) (hexec : p.tables.exec = Jvm.exec) {own : String} {index : Nat} {y : MethodName} {bytes : ByteArray} {maxL : Nat} {ret : Option FieldType}
    (hown : s.vm.findClass own = some m.cls) (hlink : (Cond.methodLink own index y).before args s = true) (hstat : (Cond.static y).before args s = true) (hinit : (Cond.initialized y.cls).before args s = true)
    (hcode : (Cond.code y bytes maxL ret).before args s = true) (hy : y.cls ≠ "java/lang/invoke/MethodHandle" ∧ y.cls ≠ "java/lang/invoke/VarHandle")
    {W9 : Nat} {Pre : Pt → Array Value → Prop} {Post : Pt → Array Value → Option Value → Pt → Prop} {PostX : Pt → Array Value → Addr → Pt → Prop} (hK : vx_Back l R p e below s args y 3 W9 Pre Post PostX)
    {g : JFrame} (hg : g.method = m) (hsize : g.locals.size = c.maxLocals) {argsL rest : List Value} (hlen : ∀ sig, parseMethodDescriptor y.desc = some sig → argsL.length = sig.parameters.length)
    (hstack : g.stack = argsL.reverse ++ rest) (hW : 2 * g.monitorRoom + (rest.map fun v => v.category).sum ≤ W9) (hdg : decode c.code g.pc = .ok (.invokestatic index, 3))
    (hpre : ∀ vm₁, s.WarmedH vm₁ → Pre ⟨T.setVm vm₁, locs, cells, slots⟩ argsL.toArray) :
    (∃ (v : Option Value) (vm₁ : Vm) (B : Pt), s.WarmedH vm₁ ∧ Stand p l e R s m args below meth c B.U B.locs B.cells B.slots ∧ Post ⟨T.setVm vm₁, locs, cells, slots⟩ argsL.toArray v B ∧
      ∀ target, Steps p.tables e below (B.U.setTop { g with pc := g.pc + 3, stack := v.toList ++ rest }) target → Steps p.tables e below (T.setTop g) target) ∨
    (∃ (q : Addr) (vm₁ : Vm) (B : Pt), s.WarmedH vm₁ ∧ Stand p l e R s m args below meth c B.U B.locs B.cells B.slots ∧ PostX ⟨T.setVm vm₁, locs, cells, slots⟩ argsL.toArray q B ∧
      Steps p.tables e below (T.setTop g) ((B.U.setTop { g with stack := rest }).pushFrame (.throwing q))) := by
  obtain ⟨mk, hnamed⟩ := Cond.code_named hcode
  obtain ⟨methM, cM, hmethM, -, -, -, -, -, -, hsigM⟩ := Cond.code_spec hnamed hcode
  have hstatic : methM.isStatic = true := Cond.static_spec hnamed hmethM hstat
  obtain ⟨kP, hkP, -⟩ := className_of_methodNamed hnamed
  have hinitP : kP.init = .initialized := Cond.initialized_spec (findClass_of_methodNamed hnamed) hkP hinit
  obtain ⟨vm₁, X₁, hstep₁⟩ := X.invokestatic hexec hown hlink hnamed hmethM hstatic hkP hinitP hy (g := g) hg (argsL := argsL) (rest := rest) (hlen _ hsigM) hstack hdg
  rcases hK m meth c ⟨T.setVm vm₁, locs, cells, slots⟩ { g with stack := rest } (.invokestatic index) mk argsL.toArray X₁ hg hsize hdg hW (X₁.named hnamed) (hpre vm₁ X₁.warmed) with ⟨v, B, X', hpost, hsteps⟩ | ⟨q, B, X', hpost, hsteps⟩
  · exact Or.inl ⟨v, vm₁, B, X₁.warmed, X', hpost, fun target h => hstep₁ _ fun acts => by rw [doInvoke_state]; exact hsteps.trans h⟩
  · exact Or.inr ⟨q, vm₁, B, X₁.warmed, X', hpost, hstep₁ _ fun acts => by rw [doInvoke_state]; exact hsteps⟩
end Calls
theorem vx_cls {s : State} {T : State} {vm₁ : Vm} {E : String} {k : ClassId} (hW : s.WarmedH vm₁) (h : (T.setVm vm₁).vm.findClass E = some k) : s.vm.findClass E = some k := by
  have h1 : vm₁.findClass E = some k := h
  rw [hW.alike.findClass] at h1
  exact h1
/-- the method's frame g, with q thrown over it -/
def vx_W (p : Program) (l : Launch) (e : Env) (R : Room) (s : State) (m : MethodId) (args : Array Value) (below : List Frame) (meth : Method) (c : Code) (H : Heap) (locs : List Loc) (cells slots : Nat) (Q : State → Prop) (g : JFrame) (q : Addr) : Prop :=
  ∀ T : State, T.heap = H → Stand p l e R s m args below meth c T locs cells slots → ∃ t, Steps p.tables e below ((T.setTop g).pushFrame (.throwing q)) t ∧ Q t
def vx_Run (p : Program) (l : Launch) (e : Env) (R : Room) (s : State) (m : MethodId) (args : Array Value) (below : List Frame) (meth : Method) (c : Code) (H : Heap) (locs : List Loc) (cells slots mc ms : Nat) (g : JFrame) (rest : List Value) (Qa : State → Outcome → State → Prop) (XC : String → State → State → Prop) (free : Addr → Prop) : Prop :=
  ∀ T : State, T.heap = H → Stand p l e R s m args below meth c T locs cells slots →
    (∃ (v : Option Value) (st₀ t T' : State) (L : List Loc), st₀.heap = H ∧ Stand p l e R s m args below meth c T' (locs ++ L) (cells + mc) (slots + ms) ∧ (∀ q ∈ L, free q.base) ∧ T'.heap = t.heap ∧ T'.vm = t.vm ∧ Qa st₀ (.returned v) t ∧
      Goes p e below T g T' { g with pc := g.pc + 3, stack := v.toList ++ rest }) ∨
    (∃ (q : Addr) (st₀ t T' : State) (L : List Loc) (E : String) (ce : Cell), st₀.heap = H ∧ Stand p l e R s m args below meth c T' (locs ++ L) (cells + mc) (slots + ms) ∧ (∀ z ∈ L, free z.base) ∧ T'.heap = t.heap ∧ T'.vm = t.vm ∧ XC E st₀ t ∧ t.heap[q]? = some ce ∧ ce.vm = .none ∧ s.vm.findClass E = some ce.cls ∧
      Steps p.tables e below (T.setTop g) ((T'.setTop { g with stack := rest }).pushFrame (.throwing q)))
def vx_X {S : Type} (px : S → Prop) (B : String → S → State → Prop) (A : Nat → Prop) : String → State → State → Prop := fun E st t => ∃ u : S, px u ∧ B E u t ∧ va_F A st t
section Runs
variable {p : Program} {l : Launch} {e : Env} {R : Room} {s : State} {m : MethodId} {args : Array Value} {below : List Frame} {meth : Method} {c : Code} {H : Heap} {locs : List Loc} {cells slots : Nat}
variable {y : MethodName} {bytes cc : ByteArray} {maxL nL mc ms n index : Nat} {ret : Option FieldType} {ws : List Cond} {rm : Room} {Pc : Array Value → State → Prop} {Qc : Array Value → State → Outcome → State → Prop} {XC : String → State → State → Prop} {free : Addr → Prop} {Ts : List Cond} {own C : String} {b : Addr} {As rest : List Value} {g : JFrame}
theorem vx_callBack (cb : CallB R s args own index y bytes maxL ret ws rm mc ms n) (hM : vx_Met l y ws rm Pc Qc XC mc ms free) (hbl : FrameBlind Pc) : vx_Back l R p e below s args y 3 8 (PreOf R mc ms Pc) (PostOf Qc mc ms free) (vx_Post XC mc ms free) := by
  obtain ⟨hrc, hrs, hfr, hlo, hws, hcw, -, hini, -⟩ := cb
  exact vx_back (bytes := bytes) (maxL := maxL) (ret := ret) hM hbl hrc hrs hfr hlo hws hcw (fun a' U hW => word_at hW (Or.inl (by first | rfl | simp [Cond.onTables, Cond.keeps, Cond.steady])) hini)
theorem vx_runV (S : CallFix p m c cc nL s args Ts own) (hM : vx_Met l y ws rm Pc Qc XC mc ms free) (cw : CallW R s args own C index y bytes maxL ret ws rm mc ms n) (hp : PreV s H C b Pc As)
    (hg : g.method = m) (hn : As.length = n) (hsize : g.locals.size = nL) (hstack : g.stack = As.reverse ++ .ref b :: rest) (hW : 2 * g.monitorRoom + (rest.map fun v => v.category).sum ≤ 8) (hdg : decode cc g.pc = .ok (.invokevirtual index, 3)) (hf : cells + mc ≤ R.cells ∧ slots + ms ≤ R.slots) :
    vx_Run p l e R s m args below meth c H locs cells slots mc ms g rest (Qc (Value.ref b :: As).toArray) XC free := by
  have hK : vx_Back l R p e below s args y 3 8 (PreOf R mc ms Pc) (PostOf Qc mc ms free) (vx_Post XC mc ms free) := vx_callBack cw.1 hM hp.1
  obtain ⟨⟨-, -, -, -, -, -, hcode, -, hy, hlen, hl⟩, hin, hse⟩ := cw
  obtain ⟨hx, hb, hml, ho, -⟩ := S
  obtain ⟨-, ⟨cellB, hcB, hoB, hclB⟩, hPc⟩ := hp
  intro T hT X
  rcases vx_callV X hx (C := C) (bytes := bytes) (maxL := maxL) (ret := ret) ho hl hin hse hcode hy hK (by rw [hT]; exact hcB) hoB hclB hg (hsize.trans hml.symm) (argsL := As) (rest := rest) (fun sig h => hn.trans (hlen sig h)) hstack hW (by rw [hb]; exact hdg)
    (fun vm₁ hW₁ => ⟨hf.1, hf.2, hPc (T.setVm vm₁) hT hW₁⟩) with ⟨v, vm₁, ⟨U', l2, c2, s2⟩, hW₁, X', ⟨g', mk, t, L, e1, e2, hq, h1, hL, h2, h3⟩, st⟩ | ⟨q, vm₁, ⟨U', l2, c2, s2⟩, hW₁, X', ⟨g', mk, t, L, E, ce, e1, e2, hq, hce, hcv, hcl, h1, hL, h2, h3⟩, st⟩
  · dsimp only [Pt.U, Pt.locs, Pt.cells, Pt.slots] at X' e1 e2 h1 h2 h3 st
    subst h1; subst h2; subst h3
    exact Or.inl ⟨v, (T.setVm vm₁).calling g' mk (Value.ref b :: As).toArray, t, U', L, hT, X', hL, e1, e2, hq, st⟩
  · dsimp only [Pt.U, Pt.locs, Pt.cells, Pt.slots] at X' e1 e2 h1 h2 h3 st hcl
    subst h1; subst h2; subst h3
    exact Or.inr ⟨q, (T.setVm vm₁).calling g' mk (Value.ref b :: As).toArray, t, U', L, E, ce, hT, X', hL, e1, e2, hq, hce, hcv, vx_cls hW₁ hcl, st⟩
theorem vx_runS (S : CallFix p m c cc nL s args Ts own) (hM : vx_Met l y ws rm Pc Qc XC mc ms free) (cw : CallB R s args own index y bytes maxL ret ws rm mc ms n ∧ (Cond.static y).before args s = true) (hp : PreS s H Pc As)
    (hg : g.method = m) (hn : As.length = n) (hsize : g.locals.size = nL) (hstack : g.stack = As.reverse ++ rest) (hW : 2 * g.monitorRoom + (rest.map fun v => v.category).sum ≤ 8) (hdg : decode cc g.pc = .ok (.invokestatic index, 3)) (hf : cells + mc ≤ R.cells ∧ slots + ms ≤ R.slots) :
    vx_Run p l e R s m args below meth c H locs cells slots mc ms g rest (Qc As.toArray) XC free := by
  have hK : vx_Back l R p e below s args y 3 8 (PreOf R mc ms Pc) (PostOf Qc mc ms free) (vx_Post XC mc ms free) := vx_callBack cw.1 hM hp.1
  obtain ⟨⟨-, -, -, -, -, -, hcode, hini, hy, hlen, hl⟩, hstt⟩ := cw
  obtain ⟨hx, hb, hml, ho, -⟩ := S
  intro T hT X
  rcases vx_callS X hx (bytes := bytes) (maxL := maxL) (ret := ret) ho hl hstt hini hcode hy hK hg (hsize.trans hml.symm) (argsL := As) (rest := rest) (fun sig h => hn.trans (hlen sig h)) hstack hW (by rw [hb]; exact hdg)
    (fun vm₁ hW₁ => ⟨hf.1, hf.2, hp.2 (T.setVm vm₁) hT hW₁⟩) with ⟨v, vm₁, ⟨U', l2, c2, s2⟩, hW₁, X', ⟨g', mk, t, L, e1, e2, hq, h1, hL, h2, h3⟩, st⟩ | ⟨q, vm₁, ⟨U', l2, c2, s2⟩, hW₁, X', ⟨g', mk, t, L, E, ce, e1, e2, hq, hce, hcv, hcl, h1, hL, h2, h3⟩, st⟩
  · dsimp only [Pt.U, Pt.locs, Pt.cells, Pt.slots] at X' e1 e2 h1 h2 h3 st
    subst h1; subst h2; subst h3
    exact Or.inl ⟨v, (T.setVm vm₁).calling g' mk As.toArray, t, U', L, hT, X', hL, e1, e2, hq, st⟩
  · dsimp only [Pt.U, Pt.locs, Pt.cells, Pt.slots] at X' e1 e2 h1 h2 h3 st hcl
    subst h1; subst h2; subst h3
    exact Or.inr ⟨q, (T.setVm vm₁).calling g' mk As.toArray, t, U', L, E, ce, hT, X', hL, e1, e2, hq, hce, hcv, vx_cls hW₁ hcl, st⟩
end Runs
section Rows
variable {p : Program} {l : Launch} {e : Env} {R : Room} {s : State} {m : MethodId} {args : Array Value} {below : List Frame} {meth : Method} {c : Code} {H : Heap} {locs : List Loc} {cells slots : Nat} {Q : State → Prop}
variable {mc ms : Nat} {free : Addr → Prop} {A0 A1 : Nat → Prop} {H0 : Heap} {a : Array Value} {pc : Nat} {ls : Array Slot} {st0 rest : List Value}
theorem vx_keep {st₀ t T' : State} {L : List Loc} (h0 : st₀.heap = H) (e1 : T'.heap = t.heap) (hS : va_S A0 H0 H locs) (hA : ∀ q, q < H.size → A1 q → A0 q) (hf : ∀ q, free q → A0 q) (hL : ∀ q ∈ L, free q.base) (hF : va_F A1 st₀ t) :
    H.size ≤ T'.heap.size ∧ (∀ q : Nat, q < H.size → ¬ A1 q → T'.heap[q]? = H[q]?) ∧ va_S A0 H0 T'.heap (locs ++ L) := by
  obtain ⟨hz, hk⟩ := hF
  rw [h0] at hz hk
  exact ⟨by rw [e1]; exact hz, fun q h1 h2 => by rw [e1]; exact hk q h1 h2,
    ⟨Nat.le_trans hS.1 (by rw [e1]; exact hz), fun q h1 h2 => by rw [e1, hk q (Nat.lt_of_lt_of_le h1 hS.1) (fun z => h2 (hA q (Nat.lt_of_lt_of_le h1 hS.1) z))]; exact hS.2.1 q h1 h2, fun q hq => by
      rcases List.mem_append.mp hq with h | h
      · exact hS.2.2 q h
      · exact hf _ (hL q h)⟩⟩
theorem vx_calli {S SX : Type} {post : Int32 → S → Prop} {px : SX → Prop} {B : S → State → Prop} {BX : String → SX → State → Prop} {AX : Nat → Prop} (hr : vx_Run p l e R s m args below meth c H locs cells slots mc ms (F0 m pc ls st0) rest (va_Qi post B A1 a) (vx_X px BX AX) free) (hS : va_S A0 H0 H locs) (hA : ∀ q, q < H.size → A1 q → A0 q) (hf : ∀ q, free q → A0 q) (hAX : ∀ q, q < H.size → AX q → A0 q)
    (kx : ∀ (E : String) (ce : Cell) (q9 : Addr) (u : SX) (t : State) (H1 : Heap) (locs1 : List Loc), t.heap = H1 → s.vm.Alike t.vm → px u → BX E u t → H.size ≤ H1.size → (∀ q : Nat, q < H.size → ¬ AX q → H1[q]? = H[q]?) → va_S A0 H0 H1 locs1 → H1[q9]? = some ce → ce.vm = .none → s.vm.findClass E = some ce.cls → vx_W p l e R s m args below meth c H1 locs1 (cells + mc) (slots + ms) Q (F0 m pc ls rest) q9)
    (kk : ∀ (r : Int32) (u : S) (t : State) (H1 : Heap) (locs1 : List Loc), t.heap = H1 → s.vm.Alike t.vm → post r u → B u t → H.size ≤ H1.size → (∀ q : Nat, q < H.size → ¬ A1 q → H1[q]? = H[q]?) → va_S A0 H0 H1 locs1 → W p l e R s m args below meth c H1 locs1 (cells + mc) (slots + ms) Q (F0 m (pc + 3) ls (.int r :: rest))) : W p l e R s m args below meth c H locs cells slots Q (F0 m pc ls st0) := by
  intro T hT X
  rcases hr T hT X with ⟨v, st₀, t, T', L, h0, X', hL, e1, e2, ⟨⟨r, u, hv, hp, hb⟩, hF⟩, st⟩ | ⟨q, st₀, t, T', L, E, ce, h0, X', hL, e1, e2, ⟨u, hp, hb, hF⟩, hce, hcv, hcl, st⟩
  · cases hv
    obtain ⟨k1, k2, k3⟩ := vx_keep h0 e1 hS hA hf hL hF
    obtain ⟨t2, a1, b1⟩ := kk r u t T'.heap (locs ++ L) e1.symm (by rw [← e2]; exact X'.warmed.alike) hp hb k1 k2 k3 T' rfl X'
    exact ⟨t2, st t2 a1, b1⟩
  · obtain ⟨k1, k2, k3⟩ := vx_keep h0 e1 hS hAX hf hL hF
    obtain ⟨t2, a1, b1⟩ := kx E ce q u t T'.heap (locs ++ L) e1.symm (by rw [← e2]; exact X'.warmed.alike) hp hb k1 k2 k3 (by rw [e1]; exact hce) hcv hcl T' rfl X'
    exact ⟨t2, st.trans a1, b1⟩
theorem vx_calll {S SX : Type} {post : Int64 → S → Prop} {px : SX → Prop} {B : S → State → Prop} {BX : String → SX → State → Prop} {AX : Nat → Prop} (hr : vx_Run p l e R s m args below meth c H locs cells slots mc ms (F0 m pc ls st0) rest (va_Ql post B A1 a) (vx_X px BX AX) free) (hS : va_S A0 H0 H locs) (hA : ∀ q, q < H.size → A1 q → A0 q) (hf : ∀ q, free q → A0 q) (hAX : ∀ q, q < H.size → AX q → A0 q)
    (kx : ∀ (E : String) (ce : Cell) (q9 : Addr) (u : SX) (t : State) (H1 : Heap) (locs1 : List Loc), t.heap = H1 → s.vm.Alike t.vm → px u → BX E u t → H.size ≤ H1.size → (∀ q : Nat, q < H.size → ¬ AX q → H1[q]? = H[q]?) → va_S A0 H0 H1 locs1 → H1[q9]? = some ce → ce.vm = .none → s.vm.findClass E = some ce.cls → vx_W p l e R s m args below meth c H1 locs1 (cells + mc) (slots + ms) Q (F0 m pc ls rest) q9)
    (kk : ∀ (r : Int64) (u : S) (t : State) (H1 : Heap) (locs1 : List Loc), t.heap = H1 → s.vm.Alike t.vm → post r u → B u t → H.size ≤ H1.size → (∀ q : Nat, q < H.size → ¬ A1 q → H1[q]? = H[q]?) → va_S A0 H0 H1 locs1 → W p l e R s m args below meth c H1 locs1 (cells + mc) (slots + ms) Q (F0 m (pc + 3) ls (.long r :: rest))) : W p l e R s m args below meth c H locs cells slots Q (F0 m pc ls st0) := by
  intro T hT X
  rcases hr T hT X with ⟨v, st₀, t, T', L, h0, X', hL, e1, e2, ⟨⟨r, u, hv, hp, hb⟩, hF⟩, st⟩ | ⟨q, st₀, t, T', L, E, ce, h0, X', hL, e1, e2, ⟨u, hp, hb, hF⟩, hce, hcv, hcl, st⟩
  · cases hv
    obtain ⟨k1, k2, k3⟩ := vx_keep h0 e1 hS hA hf hL hF
    obtain ⟨t2, a1, b1⟩ := kk r u t T'.heap (locs ++ L) e1.symm (by rw [← e2]; exact X'.warmed.alike) hp hb k1 k2 k3 T' rfl X'
    exact ⟨t2, st t2 a1, b1⟩
  · obtain ⟨k1, k2, k3⟩ := vx_keep h0 e1 hS hAX hf hL hF
    obtain ⟨t2, a1, b1⟩ := kx E ce q u t T'.heap (locs ++ L) e1.symm (by rw [← e2]; exact X'.warmed.alike) hp hb k1 k2 k3 (by rw [e1]; exact hce) hcv hcl T' rfl X'
    exact ⟨t2, st.trans a1, b1⟩
theorem vx_callf {S SX : Type} {post : UInt32 → S → Prop} {px : SX → Prop} {B : S → State → Prop} {BX : String → SX → State → Prop} {AX : Nat → Prop} (hr : vx_Run p l e R s m args below meth c H locs cells slots mc ms (F0 m pc ls st0) rest (va_Qf post B A1 a) (vx_X px BX AX) free) (hS : va_S A0 H0 H locs) (hA : ∀ q, q < H.size → A1 q → A0 q) (hf : ∀ q, free q → A0 q) (hAX : ∀ q, q < H.size → AX q → A0 q)
    (kx : ∀ (E : String) (ce : Cell) (q9 : Addr) (u : SX) (t : State) (H1 : Heap) (locs1 : List Loc), t.heap = H1 → s.vm.Alike t.vm → px u → BX E u t → H.size ≤ H1.size → (∀ q : Nat, q < H.size → ¬ AX q → H1[q]? = H[q]?) → va_S A0 H0 H1 locs1 → H1[q9]? = some ce → ce.vm = .none → s.vm.findClass E = some ce.cls → vx_W p l e R s m args below meth c H1 locs1 (cells + mc) (slots + ms) Q (F0 m pc ls rest) q9)
    (kk : ∀ (r : UInt32) (u : S) (t : State) (H1 : Heap) (locs1 : List Loc), t.heap = H1 → s.vm.Alike t.vm → post r u → B u t → H.size ≤ H1.size → (∀ q : Nat, q < H.size → ¬ A1 q → H1[q]? = H[q]?) → va_S A0 H0 H1 locs1 → W p l e R s m args below meth c H1 locs1 (cells + mc) (slots + ms) Q (F0 m (pc + 3) ls (.float r :: rest))) : W p l e R s m args below meth c H locs cells slots Q (F0 m pc ls st0) := by
  intro T hT X
  rcases hr T hT X with ⟨v, st₀, t, T', L, h0, X', hL, e1, e2, ⟨⟨r, u, hv, hp, hb⟩, hF⟩, st⟩ | ⟨q, st₀, t, T', L, E, ce, h0, X', hL, e1, e2, ⟨u, hp, hb, hF⟩, hce, hcv, hcl, st⟩
  · cases hv
    obtain ⟨k1, k2, k3⟩ := vx_keep h0 e1 hS hA hf hL hF
    obtain ⟨t2, a1, b1⟩ := kk r u t T'.heap (locs ++ L) e1.symm (by rw [← e2]; exact X'.warmed.alike) hp hb k1 k2 k3 T' rfl X'
    exact ⟨t2, st t2 a1, b1⟩
  · obtain ⟨k1, k2, k3⟩ := vx_keep h0 e1 hS hAX hf hL hF
    obtain ⟨t2, a1, b1⟩ := kx E ce q u t T'.heap (locs ++ L) e1.symm (by rw [← e2]; exact X'.warmed.alike) hp hb k1 k2 k3 (by rw [e1]; exact hce) hcv hcl T' rfl X'
    exact ⟨t2, st.trans a1, b1⟩
theorem vx_calld {S SX : Type} {post : UInt64 → S → Prop} {px : SX → Prop} {B : S → State → Prop} {BX : String → SX → State → Prop} {AX : Nat → Prop} (hr : vx_Run p l e R s m args below meth c H locs cells slots mc ms (F0 m pc ls st0) rest (va_Qd post B A1 a) (vx_X px BX AX) free) (hS : va_S A0 H0 H locs) (hA : ∀ q, q < H.size → A1 q → A0 q) (hf : ∀ q, free q → A0 q) (hAX : ∀ q, q < H.size → AX q → A0 q)
    (kx : ∀ (E : String) (ce : Cell) (q9 : Addr) (u : SX) (t : State) (H1 : Heap) (locs1 : List Loc), t.heap = H1 → s.vm.Alike t.vm → px u → BX E u t → H.size ≤ H1.size → (∀ q : Nat, q < H.size → ¬ AX q → H1[q]? = H[q]?) → va_S A0 H0 H1 locs1 → H1[q9]? = some ce → ce.vm = .none → s.vm.findClass E = some ce.cls → vx_W p l e R s m args below meth c H1 locs1 (cells + mc) (slots + ms) Q (F0 m pc ls rest) q9)
    (kk : ∀ (r : UInt64) (u : S) (t : State) (H1 : Heap) (locs1 : List Loc), t.heap = H1 → s.vm.Alike t.vm → post r u → B u t → H.size ≤ H1.size → (∀ q : Nat, q < H.size → ¬ A1 q → H1[q]? = H[q]?) → va_S A0 H0 H1 locs1 → W p l e R s m args below meth c H1 locs1 (cells + mc) (slots + ms) Q (F0 m (pc + 3) ls (.double r :: rest))) : W p l e R s m args below meth c H locs cells slots Q (F0 m pc ls st0) := by
  intro T hT X
  rcases hr T hT X with ⟨v, st₀, t, T', L, h0, X', hL, e1, e2, ⟨⟨r, u, hv, hp, hb⟩, hF⟩, st⟩ | ⟨q, st₀, t, T', L, E, ce, h0, X', hL, e1, e2, ⟨u, hp, hb, hF⟩, hce, hcv, hcl, st⟩
  · cases hv
    obtain ⟨k1, k2, k3⟩ := vx_keep h0 e1 hS hA hf hL hF
    obtain ⟨t2, a1, b1⟩ := kk r u t T'.heap (locs ++ L) e1.symm (by rw [← e2]; exact X'.warmed.alike) hp hb k1 k2 k3 T' rfl X'
    exact ⟨t2, st t2 a1, b1⟩
  · obtain ⟨k1, k2, k3⟩ := vx_keep h0 e1 hS hAX hf hL hF
    obtain ⟨t2, a1, b1⟩ := kx E ce q u t T'.heap (locs ++ L) e1.symm (by rw [← e2]; exact X'.warmed.alike) hp hb k1 k2 k3 (by rw [e1]; exact hce) hcv hcl T' rfl X'
    exact ⟨t2, st.trans a1, b1⟩
theorem vx_callv {S SX : Type} {post : S → Prop} {px : SX → Prop} {B : S → State → Prop} {BX : String → SX → State → Prop} {AX : Nat → Prop} (hr : vx_Run p l e R s m args below meth c H locs cells slots mc ms (F0 m pc ls st0) rest (va_Qv post B A1 a) (vx_X px BX AX) free) (hS : va_S A0 H0 H locs) (hA : ∀ q, q < H.size → A1 q → A0 q) (hf : ∀ q, free q → A0 q) (hAX : ∀ q, q < H.size → AX q → A0 q)
    (kx : ∀ (E : String) (ce : Cell) (q9 : Addr) (u : SX) (t : State) (H1 : Heap) (locs1 : List Loc), t.heap = H1 → s.vm.Alike t.vm → px u → BX E u t → H.size ≤ H1.size → (∀ q : Nat, q < H.size → ¬ AX q → H1[q]? = H[q]?) → va_S A0 H0 H1 locs1 → H1[q9]? = some ce → ce.vm = .none → s.vm.findClass E = some ce.cls → vx_W p l e R s m args below meth c H1 locs1 (cells + mc) (slots + ms) Q (F0 m pc ls rest) q9)
    (kk : ∀ (u : S) (t : State) (H1 : Heap) (locs1 : List Loc), t.heap = H1 → s.vm.Alike t.vm → post u → B u t → H.size ≤ H1.size → (∀ q : Nat, q < H.size → ¬ A1 q → H1[q]? = H[q]?) → va_S A0 H0 H1 locs1 → W p l e R s m args below meth c H1 locs1 (cells + mc) (slots + ms) Q (F0 m (pc + 3) ls (rest))) : W p l e R s m args below meth c H locs cells slots Q (F0 m pc ls st0) := by
  intro T hT X
  rcases hr T hT X with ⟨v, st₀, t, T', L, h0, X', hL, e1, e2, ⟨⟨u, hv, hp, hb⟩, hF⟩, st⟩ | ⟨q, st₀, t, T', L, E, ce, h0, X', hL, e1, e2, ⟨u, hp, hb, hF⟩, hce, hcv, hcl, st⟩
  · cases hv
    obtain ⟨k1, k2, k3⟩ := vx_keep h0 e1 hS hA hf hL hF
    obtain ⟨t2, a1, b1⟩ := kk u t T'.heap (locs ++ L) e1.symm (by rw [← e2]; exact X'.warmed.alike) hp hb k1 k2 k3 T' rfl X'
    exact ⟨t2, st t2 a1, b1⟩
  · obtain ⟨k1, k2, k3⟩ := vx_keep h0 e1 hS hAX hf hL hF
    obtain ⟨t2, a1, b1⟩ := kx E ce q u t T'.heap (locs ++ L) e1.symm (by rw [← e2]; exact X'.warmed.alike) hp hb k1 k2 k3 (by rw [e1]; exact hce) hcv hcl T' rfl X'
    exact ⟨t2, st.trans a1, b1⟩
/-- caught by the row x of this method's table; the rows ahead don't take it -/
theorem vx_catch {own name : String} {E : String} {ce : Cell} {q : Addr} (hown : s.vm.findClass own = some m.cls) (pre : List ExceptionTableEntry) (x : ExceptionTableEntry) (suf : List ExceptionTableEntry) (hsplit : c.exceptionTable.toList = pre ++ x :: suf)
    (hpass : ∀ z ∈ pre, covers z pc = false ∨ (z.catchType ≠ 0 ∧ ∃ nm : String, (Cond.classLink own z.catchType nm).before args s = true ∧ va_Nc E nm s)) (hx : covers x pc = true) (h0 : x.catchType ≠ 0)
    (hlink : (Cond.classLink own x.catchType name).before args s = true) (hcast : (Cond.castable E name).before args s = true) (hcell : H[q]? = some ce) (hv : ce.vm = .none) (hcl : s.vm.findClass E = some ce.cls)
    (kk : W p l e R s m args below meth c H locs cells slots Q (F0 m x.handlerPc ls [.ref q])) : vx_W p l e R s m args below meth c H locs cells slots Q (F0 m pc ls rest) q := by
  intro T hT X
  have hpl : e.platform.magicAccessors = ({} : Platform).magicAccessors := by rw [X.admits.platform]
  obtain ⟨c3, c4, hc3, hc4, hasg⟩ := Cond.castable_spec hcast
  cases Option.some.inj (hc3.symm.trans hcl)
  obtain ⟨c5, hc5, hcl5⟩ := Cond.classLink_spec hown hlink e.platform hpl
  cases Option.some.inj (hc4.symm.trans hc5)
  obtain ⟨vm', X', st⟩ := qc_through X q (g := F0 m pc ls rest) rfl (Steps.refl _) (by rw [hT]; exact hcell) (by rw [hv]; rfl) (by obtain ⟨k9, h9, -⟩ := Vm.findClass_spec hcl; exact ⟨k9, h9⟩) pre x suf hsplit
    (fun z hz => by
      rcases hpass z hz with h | ⟨hz0, nm, hl1, hn1⟩
      · exact Or.inl h
      · obtain ⟨c6, hc6, hcl6⟩ := Cond.classLink_spec hown hl1 e.platform hpl
        obtain ⟨a8, b8, h1, h2, h3⟩ := hn1
        cases Option.some.inj (h1.symm.trans hcl)
        cases Option.some.inj (h2.symm.trans hc6)
        exact Or.inr ⟨hz0, _, hcl6, h3⟩) hx h0 hcl5 hasg
  obtain ⟨t, a1, b1⟩ := kk (T.setVm vm') hT X'
  exact ⟨t, st.trans a1, b1⟩
end Rows
section Ends
variable {p : Program} {l : Launch} {e : Env} {R : Room} {s : State} {m : MethodId} {args : Array Value} {below : List Frame} {meth : Method} {c : Code} {H : Heap} {locs : List Loc} {cells slots : Nat} {Q : State → Prop}
variable {mc ms : Nat} {free : Addr → Prop} {A0 A1 : Nat → Prop} {H0 : Heap} {a : Array Value} {ls : Array Slot} {st0 rest : List Value}
variable {Qc : Array Value → State → Outcome → State → Prop} {XC : String → State → State → Prop}
/-- what a body that may throw owes at its end -/
def vx_MQ (below : List Frame) (Qc : Array Value → State → Outcome → State → Prop) (XC : String → State → State → Prop) (a : Array Value) (s : State) (mc ms : Nat) (free : Addr → Prop) : State → Prop := fun t =>
  ∃ o, t.status = .running ∧ Ended t below o ∧ vx_Q Qc XC mc ms free a s o t
theorem vx_ret {g : JFrame} {mc ms : Nat} (k : W p l e R s m args below meth c H locs cells slots (MQ below Qc args s mc ms free) g) : W p l e R s m args below meth c H locs cells slots (vx_MQ below Qc XC args s mc ms free) g := by
  intro T hT X
  obtain ⟨t, a1, o, b1, b2, b3, b4⟩ := k T hT X
  exact ⟨t, a1, o, b1, b2, Or.inl ⟨b3, b4⟩⟩
/-- not caught here: it goes on to the caller -/
theorem vx_widen {g : JFrame} {q : Addr} {k n : Nat} (h1 : cells ≤ k) (h2 : slots ≤ n) (kk : vx_W p l e R s m args below meth c H locs k n Q g q) : vx_W p l e R s m args below meth c H locs cells slots Q g q := fun T hT X => kk T hT (stand_widen X h1 h2)
theorem vx_out {pc : Nat} {E : String} {ce : Cell} {q : Addr} {mc ms : Nat} (hout : ∀ x ∈ c.exceptionTable.toList, covers x pc = false) (hlocks : meth.locks = false) (hcell : H[q]? = some ce) (hv : ce.vm = .none) (hcl : s.vm.findClass E = some ce.cls)
    (hx : ∀ t : State, t.heap = H → s.vm.Alike t.vm → XC E s t) (hf : ∀ z ∈ locs, free z.base) (hc : cells ≤ mc) (hs : slots ≤ ms) :
    vx_W p l e R s m args below meth c H locs cells slots (vx_MQ below Qc XC args s mc ms free) (F0 m pc ls rest) q := by
  intro T hT X
  obtain ⟨st1, hrun, hend, hW, hsm⟩ := X.leaveThrown q (g := F0 m pc ls rest) rfl rfl rfl hout hlocks
  have hcell9 : (T.setFrames (.throwing q :: below)).heap[q]? = some ce := by
    show T.heap[q]? = some ce
    rw [hT]; exact hcell
  exact ⟨_, st1, .threw q, hrun, hend, Or.inr ⟨q, rfl, E, ce, locs, hx _ hT hW.alike, hcell9, hv, hcl, hW, hsm.mono hc hs, hf⟩⟩
theorem vx_frame {U : State} {k n : Nat} (h : s.sameButNew ({ U with vm := s.vm } : State) locs k n) : s.heap.size ≤ U.heap.size ∧ ∀ q : Nat, q < s.heap.size → (∀ z ∈ locs, z.base ≠ q) → U.heap[q]? = s.heap[q]? := by
  obtain ⟨-, h2, -, -, -, h6⟩ := h
  refine ⟨h2, fun q hq hz => ?_⟩
  obtain ⟨c9, e1, e2, e3, e4⟩ := h6 q _ (Array.getElem?_eq_getElem hq)
  have hs : c9.slots = (s.heap[q]).slots := Array.ext_getElem? fun i => e4 i fun hm => hz _ hm rfl
  have h9 : c9 = s.heap[q] := by
    rw [hs] at e2
    exact e2
  have e5 : U.heap[q]? = some c9 := e1
  rw [e5, h9, Array.getElem?_eq_getElem hq]
/-- the words of a throw but the four that speak of the heap -/
def vx_no (w : Cond) : Bool := decide (w ≠ .isRef (.static Jvm.Bundle.tN "UNASSIGNED_STACK" Jvm.Bundle.steD)) && decide (w ≠ .isRef (.static Jvm.Bundle.tN "SUPPRESSED_SENTINEL" Jvm.Bundle.listD)) && decide (w ≠ .laysStatic Jvm.Bundle.tN "UNASSIGNED_STACK" Jvm.Bundle.steD) && decide (w ≠ .laysStatic Jvm.Bundle.tN "SUPPRESSED_SENTINEL" Jvm.Bundle.listD)
def vx_at0 (own : String) (ic : Nat) (X : String) (names : List String) : List Cond := (Jvm.Bundle.ownAtoms0 own ic X names).filter vx_no
def vx_atS (own : String) (ic : Nat) (X : String) (names : List String) : List Cond := (Jvm.Bundle.ownAtoms own ic X names).filter vx_no
/-- a word that the tables alone decide, or a good one -/
def vx_ot (w : Cond) : Bool := w.onTables || goodWord w
theorem vx_ot_at {args a' : Array Value} {s U : State} {w : Cond} (hW : s.WarmedH U.vm) (hvm : s.vm = U.vm) (hg : vx_ot w = true) (h : w.before args s = true) : w.before a' U = true := by
  simp only [vx_ot, Bool.or_eq_true] at hg
  rcases hg with hg | hg
  · exact va_tabs hg hvm h
  · exact word_at hW (good_of_word hg) h
/-- a list's words: the good ones out of the method's own list, the others by premises of their own -/
theorem vx_hat {args : Array Value} {s : State} {L B : List Cond} (h1 : ∀ w ∈ L.filter goodWord, w.before args s = true) (h2 : ∀ w ∈ L.filter (fun w => !goodWord w), w ∈ B) (h3 : ∀ w ∈ B, w.before args s = true) : ∀ w ∈ L, w.before args s = true := by
  intro w hw
  by_cases g : goodWord w = true
  · exact h1 w (List.mem_filter.mpr ⟨hw, g⟩)
  · refine h3 w (h2 w (List.mem_filter.mpr ⟨hw, ?_⟩))
    show (!goodWord w) = true
    cases hgw : goodWord w
    · rfl
    · exact absurd hgw g
theorem vx_c {args : Array Value} {s : State} {w : Cond} {B : List Cond} (h : w.before args s = true) (t : ∀ w ∈ B, w.before args s = true) : ∀ w' ∈ w :: B, w'.before args s = true := fun w' h' => (List.mem_cons.mp h').elim (fun e => by rw [e]; exact h) (t w')
theorem vx_n {args : Array Value} {s : State} : ∀ w ∈ ([] : List Cond), w.before args s = true := fun _ h => nomatch h
theorem vx_own {args : Array Value} {s : State} {L : List Cond} (h1 : ∀ w ∈ L.filter vx_no, w.before args s = true)
    (hU : (Cond.isRef (.static Jvm.Bundle.tN "UNASSIGNED_STACK" Jvm.Bundle.steD)).before args s = true) (hN : (Cond.isRef (.static Jvm.Bundle.tN "SUPPRESSED_SENTINEL" Jvm.Bundle.listD)).before args s = true)
    (lU : (Cond.laysStatic Jvm.Bundle.tN "UNASSIGNED_STACK" Jvm.Bundle.steD).before args s = true) (lN : (Cond.laysStatic Jvm.Bundle.tN "SUPPRESSED_SENTINEL" Jvm.Bundle.listD).before args s = true) : ∀ w ∈ L, w.before args s = true := by
  intro w hw
  by_cases e1 : w = .isRef (.static Jvm.Bundle.tN "UNASSIGNED_STACK" Jvm.Bundle.steD)
  · rw [e1]; exact hU
  · by_cases e2 : w = .isRef (.static Jvm.Bundle.tN "SUPPRESSED_SENTINEL" Jvm.Bundle.listD)
    · rw [e2]; exact hN
    · by_cases e3 : w = .laysStatic Jvm.Bundle.tN "UNASSIGNED_STACK" Jvm.Bundle.steD
      · rw [e3]; exact lU
      · by_cases e4 : w = .laysStatic Jvm.Bundle.tN "SUPPRESSED_SENTINEL" Jvm.Bundle.listD
        · rw [e4]; exact lN
        · exact h1 w (List.mem_filter.mpr ⟨hw, by unfold vx_no; rw [decide_eq_true e1, decide_eq_true e2, decide_eq_true e3, decide_eq_true e4]; rfl⟩)
/-- where a static field lies, its class's statics cell in H -/
def vx_L (C n d : String) (A : Nat → Prop) (U : State) (H : Heap) : Prop := ∃ (c : ClassId) (k : Class) (i : Nat) (f : Field) (a : Nat) (cell : Cell), U.vm.findClass C = some c ∧ U.fieldFound? C n d = some (c, k, i, f) ∧ f.isStatic = true ∧ k.statics = some a ∧ H[a]? = some cell ∧ cell.vm.isStatics = true ∧ cell.cls = c ∧ f.slot < cell.slots.size ∧ k.staticTypes[f.slot]? = some f.type ∧ ¬ A a
theorem vx_L.moved {C n d : String} {A : Nat → Prop} {u U : State} {H : Heap} (hvm : u.vm.Alike U.vm) (h : vx_L C n d A u H) : vx_L C n d A U H := by
  obtain ⟨c, k, i, f, a, cell, h1, h2, h3, h4, h5, h6, h7, h8, h9, h10⟩ := h
  obtain ⟨k', hi', he⟩ := State.fieldFound?_setVm hvm h2
  exact ⟨c, k', i, f, a, cell, by rw [hvm.findClass]; exact h1, hi', h3, by rw [he]; exact h4, h5, h6, h7, h8, by rw [he]; exact h9, h10⟩
theorem vx_L.kept {C n d : String} {A : Nat → Prop} {U : State} {H H1 : Heap} (h : vx_L C n d A U H) (hq : ∀ a : Nat, a < H.size → ¬ A a → H1[a]? = H[a]?) : vx_L C n d A U H1 := by
  obtain ⟨c, k, i, f, a, cell, h1, h2, h3, h4, h5, h6, h7, h8, h9, h10⟩ := h
  exact ⟨c, k, i, f, a, cell, h1, h2, h3, h4, by rw [hq a (Array.getElem?_eq_some_iff.mp h5).1 h10]; exact h5, h6, h7, h8, h9, h10⟩
theorem vx_L.narrow {C n d : String} {A B : Nat → Prop} {U : State} {H : Heap} (h : vx_L C n d A U H) (hAB : ∀ q, B q → A q) : vx_L C n d B U H := by
  obtain ⟨c, k, i, f, a, cell, h1, h2, h3, h4, h5, h6, h7, h8, h9, h10⟩ := h
  exact ⟨c, k, i, f, a, cell, h1, h2, h3, h4, h5, h6, h7, h8, h9, fun z => h10 (hAB _ z)⟩
theorem vx_L.word {C n d : String} {A : Nat → Prop} {s : State} {args : Array Value} (h : vx_L C n d A s s.heap) : (Cond.laysStatic C n d).before args s = true := by
  obtain ⟨c, k, i, f, a, cell, h1, h2, h3, h4, h5, h6, h7, h8, h9, -⟩ := h
  show (Cond.laysStatic C n d).holds args s none s [] = true
  exact Cond.laysStatic_of h1 h2 h3 h4 h5 h6 h7 h8 h9
/-- .. and what it holds: null or some reference -/
def vx_Zq (C n d : String) (A : Nat → Prop) (U : State) (H : Heap) : Prop := va_Zq C n d A U H ∧ vx_L C n d A U H
theorem vx_Zq.moved {C n d : String} {A : Nat → Prop} {u U : State} {H : Heap} (hvm : u.vm.Alike U.vm) (h : vx_Zq C n d A u H) : vx_Zq C n d A U H := ⟨va_Zq.moved hvm h.1, vx_L.moved hvm h.2⟩
theorem vx_Zq.kept {C n d : String} {A : Nat → Prop} {U : State} {H H1 : Heap} (h : vx_Zq C n d A U H) (hq : ∀ a : Nat, a < H.size → ¬ A a → H1[a]? = H[a]?) : vx_Zq C n d A U H1 := ⟨va_Zq.kept h.1 hq, vx_L.kept h.2 hq⟩
theorem vx_Zq.narrow {C n d : String} {A B : Nat → Prop} {U : State} {H : Heap} (h : vx_Zq C n d A U H) (hAB : ∀ q, B q → A q) : vx_Zq C n d B U H := ⟨va_Zq.narrow h.1 hAB, vx_L.narrow h.2 hAB⟩
theorem vx_Zqof {args : Array Value} {s : State} {C n d : String} {A : Nat → Prop} (hl : (Cond.laysStatic C n d).before args s = true) (hini : (Cond.initialized C).before args s = true) (h : (Cond.isRef (.static C n d)).before args s = true) (hA : ∀ a : Nat, a < s.heap.size → ¬ A a) : vx_Zq C n d A s s.heap := by
  refine ⟨va_Zqof hl hini h hA, ?_⟩
  obtain ⟨c, k, i, f, a, cell, h1, h2, h3, h4, h5, h6, h7, h8, h9⟩ := Cond.laysStatic_spec hl
  exact ⟨c, k, i, f, a, cell, h1, h2, h3, h4, h5, h6, h7, h8, h9, hA a (Array.getElem?_eq_some_iff.mp h5).1⟩
theorem vx_isRef {C n d : String} {v : Value} {A : Nat → Prop} {s : State} {args : Array Value} (h : va_Z C n d v A s s.heap) (hv : v.isRef = true) : (Cond.isRef (.static C n d)).before args s = true := by
  obtain ⟨cf, kf, fi, f, a, cell, h1, h2, h3, h4, h5, h6, h7, -⟩ := h
  have he : (Term.static C n d).eval args s none [] s = some v := by
    simp [Term.eval, State.fieldNamed?, h1, h2, h4, h5, h6, h7]
  simp only [Cond.before, Cond.holds, Cond.value, he]
  cases v <;> simp_all [Value.isRef]
theorem vx_isRefq {C n d : String} {A : Nat → Prop} {s : State} {args : Array Value} (h : va_Zq C n d A s s.heap) : (Cond.isRef (.static C n d)).before args s = true := by
  rcases h with h | ⟨t, h⟩
  · exact vx_isRef h rfl
  · exact vx_isRef h rfl
/-- the same frame, seen from here: as if the method were called anew in this heap -/
theorem vx_rebase {T : State} (X : Stand p l e R s m args below meth c T locs cells slots) {R' : Room} (hf : R'.frames ≤ R.frames) (hl : R'.locals ≤ R.locals) (hc : cells + R'.cells ≤ R.cells) (hs : slots + R'.slots ≤ R.slots) :
    Stand p l e R' ((T.setVm s.vm).setFrames (.invoking m args :: below)) m args below meth c T [] 0 0 := by
  have htop : (T.setVm s.vm).topJava?.isSome := X.here.top
  have hF : ((T.setVm s.vm).setFrames (.invoking m args :: below)).frames = .invoking m args :: below := State.frames_setFrames _ (State.cur_lt_of_top htop)
  obtain ⟨g₀, hg0⟩ := Option.isSome_iff_exists.mp htop
  obtain ⟨r, hr⟩ := State.topJava?_eq_some.mp hg0
  have hl9 : e.platform.stackLimits (T.setVm s.vm).me = e.platform.stackLimits s.me := X.limits
  have hb9 : (T.setVm s.vm).me.stackBytes = s.me.stackBytes := X.bytes
  refine ⟨X.admits, X.cas, X.clock, hF, ?_, X.hears, X.method, X.code, X.here, X.tail, X.warmed, ?_, ?_, ?_⟩
  · have h := X.room
    have hU : ((T.setVm s.vm).setFrames (.invoking m args :: below)).localsInUse = s.localsInUse := by
      rw [State.localsInUse_invoking hF (meth := meth) (c := c) X.method X.code, State.localsInUse_invoking X.frames X.method X.code]
    simp only [State.hasRoom, Bool.and_eq_true, decide_eq_true_eq] at h ⊢
    obtain ⟨⟨⟨⟨h1, h2, h3, h4, h5, h6⟩, h7⟩, h8⟩, h9⟩ := h
    rw [X.frames, List.length_cons] at h2 h3
    have q1 := X.heapSize
    have q2 := X.used
    simp only [hF, hU, List.length_cons, State.stackLimits_setFrames, State.stackBytes_setFrames, hl9, hb9]
    refine ⟨⟨⟨⟨by omega, by omega, by omega, by omega, by omega, h6⟩, ?_⟩, ?_⟩, X.book⟩
    · show T.heap.size + R'.cells ≤ e.platform.maxCells
      omega
    · show T.slotsUsed + R'.slots ≤ e.platform.maxSlots
      omega
  · rw [State.stackLimits_setFrames]; rfl
  · rw [State.stackBytes_setFrames]; rfl
  · refine ⟨?_, Nat.le_refl _, Nat.le_refl _, ?_, ?_, fun a c9 h9 => ⟨c9, h9, rfl, rfl, fun _ _ => rfl⟩⟩
    · obtain ⟨t, ht, -⟩ := State.frames_cons hr
      show T.setVm s.vm = { ((T.setVm s.vm).setFrames (.invoking m args :: below)).setFrames (T.setVm s.vm).frames with heap := T.heap, slotsUsed := T.slotsUsed }
      rw [State.setFrames_setFrames, State.setFrames_self ht]
      rfl
    · show T.slotsUsed = T.slotsUsed + ((T.heap.toList.drop T.heap.size).map (·.slots.size)).sum
      rw [List.drop_eq_nil_of_le (Nat.le_of_eq Array.length_toList)]
      rfl
    · show ((T.heap.toList.drop T.heap.size).map (·.slots.size)).sum ≤ 0
      rw [List.drop_eq_nil_of_le (Nat.le_of_eq Array.length_toList)]
      exact Nat.le_refl _
/-- 'throw new E()': new; dup; invokespecial; athrow -/
theorem vx_throw0 {cc : ByteArray} {pc : Nat} (hexec : p.tables.exec = Jvm.exec) (hb : c.code = cc) (hl : l.stackTraces = false) {own cls : String} {names : List String} {ik ic mc ms : Nat} {A : Nat → Prop}
    (hown : s.vm.findClass own = some m.cls) (hcls : Jvm.Bundle.fit cls = true) (hnames : ∀ n ∈ names, Jvm.Bundle.fit n = true)
    (hk : (Cond.classLink own ik cls).before args s = true) (hini : (Cond.initialized cls).before args s = true) (hat : ∀ w ∈ vx_at0 own ic cls names, w.before args s = true)
    (hgood : ∀ w ∈ Cond.classLink own ik cls :: Cond.initialized cls :: vx_at0 own ic cls names, vx_ot w = true)
    (hU : vx_Zq Jvm.Bundle.tN "UNASSIGNED_STACK" Jvm.Bundle.steD A s s.heap) (hN : vx_Zq Jvm.Bundle.tN "SUPPRESSED_SENTINEL" Jvm.Bundle.listD A s s.heap) (hS : va_S A s.heap H locs) (hsize : ls.size = c.maxLocals)
    (d0 : decode cc pc = .ok (.new ik, 3)) (d3 : decode cc (pc + 3) = .ok (.dup, 1)) (d4 : decode cc (pc + 4) = .ok (.invokespecial ic, 3)) (d7 : decode cc (pc + 7) = .ok (.athrow, 1))
    (hout : ∀ x ∈ c.exceptionTable.toList, covers x (pc + 7) = false)
    (hRframes : names.length + 3 < R.frames) (hRlocals : (rest.map fun v => v.category).sum + (13 * (names.length + 1) + 42) ≤ R.locals) (hRcells : cells + 1 ≤ R.cells) (hRslots : slots + 6 ≤ R.slots) (hlocks : meth.locks = false)
    (hx : ∀ t : State, s.vm.Alike t.vm → H.size ≤ t.heap.size → (∀ q : Nat, q < H.size → t.heap[q]? = H[q]?) → XC cls s t)
    (hf : ∀ z ∈ locs, free z.base) (hc : cells + 1 ≤ mc) (hs : slots + 6 ≤ ms) :
    W p l e R s m args below meth c H locs cells slots (vx_MQ below Qc XC args s mc ms free) (F0 m pc ls rest) := by
  intro T hT X
  have htr : e.platform.stackTraces = false := (show e.platform.stackTraces = l.stackTraces by rw [X.admits.platform]).trans hl
  have Y := vx_rebase X (R' := { frames := R.frames, locals := R.locals, cells := 1, slots := 6 }) (Nat.le_refl _) (Nat.le_refl _) hRcells hRslots
  obtain ⟨s', hA⟩ : ∃ z, z = (T.setVm s.vm).setFrames (.invoking m args :: below) := ⟨_, rfl⟩
  rw [← hA] at Y
  have hvm : s'.vm = s.vm := by rw [hA]; rfl
  have hhp : s'.heap = H := by rw [hA]; exact hT
  have hW0 : s.WarmedH s'.vm := by rw [hvm]; exact State.WarmedH.refl s
  have hat' : ∀ w ∈ vx_at0 own ic cls names, w.before args s' = true := fun w hw => vx_ot_at hW0 hvm.symm (hgood w (List.mem_cons_of_mem _ (List.mem_cons_of_mem _ hw))) (hat w hw)
  have hk' : (Cond.classLink own ik cls).before args s' = true := vx_ot_at hW0 hvm.symm (hgood _ List.mem_cons_self) hk
  have hini' : (Cond.initialized cls).before args s' = true := vx_ot_at hW0 hvm.symm (hgood _ (List.mem_cons_of_mem _ List.mem_cons_self)) hini
  have hU' : vx_Zq Jvm.Bundle.tN "UNASSIGNED_STACK" Jvm.Bundle.steD A s' s'.heap := by rw [hhp]; exact vx_Zq.moved hW0.alike (hU.kept hS.2.1)
  have hN' : vx_Zq Jvm.Bundle.tN "SUPPRESSED_SENTINEL" Jvm.Bundle.listD A s' s'.heap := by rw [hhp]; exact vx_Zq.moved hW0.alike (hN.kept hS.2.1)
  have h : ∀ w ∈ Jvm.Bundle.ownAtoms0 own ic cls names, w.before args s' = true := vx_own hat' (vx_isRefq hU'.1) (vx_isRefq hN'.1) hU'.2.word hN'.2.word
  have hown' : s'.vm.findClass own = some m.cls := by rw [hvm]; exact hown
  have hins : (Cond.instantiable cls 6).before args s' = true := h _ (by simp [Jvm.Bundle.ownAtoms0])
  obtain ⟨vm₁, cX, kX, hfX, hkX, -, -, X₁, st1⟩ := Y.newCold hexec (own := own) (C := cls) (index := ik) (n := 6) hown' hk' hins hini'
    (g := F0 m pc ls rest) rfl (by rw [hb]; exact d0) (Nat.le_refl _) (Nat.le_refl _)
  generalize hT1 : (T.setVm vm₁).pushCell { cls := cX, slots := kX.instanceTypes.map defaultValue, vm := .none } = T1 at X₁ st1
  have hcat : (Value.ref T.heap.size).category = 1 := rfl
  have hcellA : T1.heap[T.heap.size]? = some (freshCell cX kX) := by rw [← hT1]; exact State.heap_pushCell_size _ _
  have d3' : decode c.code (pc + 3) = .ok (.dup, 1) := by rw [hb]; exact d3
  obtain ⟨U, hsteps, hrun, hend, hW, hsame, ce, hce, hO⟩ := X₁.ctorThrow0 hexec htr (own := own) (cls := cls) (names := names) (ic := ic) hown' hcls hnames h (fun x hx => nomatch hx) hfX hkX hcellA (by rw [hhp, hT]; exact Nat.le_refl _)
    (g := { method := m, pc := pc + 4, locals := ls, stack := .ref T.heap.size :: .ref T.heap.size :: rest, locked := none }) rfl hsize rfl rfl (rest := rest) rfl
    (by rw [hb]; exact d4) (by rw [hb]; exact d7) hout hRframes (by simp only [List.map_cons, List.sum_cons, hcat]; omega) hlocks
  obtain ⟨f1, f2⟩ := vx_frame hsame
  rw [hhp] at f1 f2
  have hWs : s.WarmedH U.vm := State.WarmedH.trans hW0 hW
  have hcl : s.vm.findClass cls = some ce.cls := by
    have h9 := hO.cls
    rw [hvm] at h9
    exact h9
  have hall : s.sameButNew ({ U with vm := s.vm } : State) locs mc ms := by
    subst hA
    obtain ⟨e1, e2⟩ := hsame
    rw [State.setFrames_setFrames] at e1
    have h2 : (T.setVm s.vm).sameButNew ({ U with vm := s.vm } : State) [] (0 + 1) (0 + 6) := ⟨e1, e2⟩
    have h3 := X.same.trans h2
    rw [List.append_nil] at h3
    exact h3.mono hc hs
  refine ⟨U, ?_, .threw T.heap.size, hrun, hend, Or.inr ⟨T.heap.size, rfl, cls, ce, locs, hx U hWs.alike f1 (fun q hq => f2 q hq (fun z hz => nomatch hz)), hce, hO.vm, hcl, hWs, hall, hf⟩⟩
  refine st1 _ ?_
  show Steps p.tables e below (T1.setTop { method := m, pc := pc + 3, locals := ls, stack := .ref T.heap.size :: rest, locked := none }) _
  jvm_step X₁.here [X₁.here.top, hexec, d3', Value.category]
  exact hsteps
/-- 'throw new E("text")': new; dup; ldc; invokespecial; athrow -/
theorem vx_throwS {cc : ByteArray} {pc : Nat} (hexec : p.tables.exec = Jvm.exec) (hb : c.code = cc) (hl : l.stackTraces = false) {own cls text : String} {names : List String} {ik is ic mc ms sa : Nat} {A : Nat → Prop}
    (hown : s.vm.findClass own = some m.cls) (hcls : Jvm.Bundle.fit cls = true) (hnames : ∀ n ∈ names, Jvm.Bundle.fit n = true)
    (hk : (Cond.classLink own ik cls).before args s = true) (hini : (Cond.initialized cls).before args s = true) (hstr : vk_R own is text sa s) (hat : ∀ w ∈ vx_atS own ic cls names, w.before args s = true)
    (hgood : ∀ w ∈ Cond.classLink own ik cls :: Cond.initialized cls :: vx_atS own ic cls names, vx_ot w = true)
    (hU : vx_Zq Jvm.Bundle.tN "UNASSIGNED_STACK" Jvm.Bundle.steD A s s.heap) (hN : vx_Zq Jvm.Bundle.tN "SUPPRESSED_SENTINEL" Jvm.Bundle.listD A s s.heap) (hS : va_S A s.heap H locs) (hsize : ls.size = c.maxLocals)
    (d0 : decode cc pc = .ok (.new ik, 3)) (d3 : decode cc (pc + 3) = .ok (.dup, 1)) (d4 : decode cc (pc + 4) = .ok (.ldc is, 2)) (d6 : decode cc (pc + 6) = .ok (.invokespecial ic, 3)) (d9 : decode cc (pc + 9) = .ok (.athrow, 1))
    (hout : ∀ x ∈ c.exceptionTable.toList, covers x (pc + 9) = false)
    (hRframes : names.length + 3 < R.frames) (hRlocals : (rest.map fun v => v.category).sum + (13 * (names.length + 1) + 43) ≤ R.locals) (hRcells : cells + 1 ≤ R.cells) (hRslots : slots + 6 ≤ R.slots) (hlocks : meth.locks = false)
    (hx : ∀ t : State, s.vm.Alike t.vm → H.size ≤ t.heap.size → (∀ q : Nat, q < H.size → t.heap[q]? = H[q]?) → XC cls s t)
    (hf : ∀ z ∈ locs, free z.base) (hc : cells + 1 ≤ mc) (hs : slots + 6 ≤ ms) :
    W p l e R s m args below meth c H locs cells slots (vx_MQ below Qc XC args s mc ms free) (F0 m pc ls rest) := by
  intro T hT X
  have htr : e.platform.stackTraces = false := (show e.platform.stackTraces = l.stackTraces by rw [X.admits.platform]).trans hl
  have Y := vx_rebase X (R' := { frames := R.frames, locals := R.locals, cells := 1, slots := 6 }) (Nat.le_refl _) (Nat.le_refl _) hRcells hRslots
  obtain ⟨s', hA⟩ : ∃ z, z = (T.setVm s.vm).setFrames (.invoking m args :: below) := ⟨_, rfl⟩
  rw [← hA] at Y
  have hvm : s'.vm = s.vm := by rw [hA]; rfl
  have hhp : s'.heap = H := by rw [hA]; exact hT
  have hW0 : s.WarmedH s'.vm := by rw [hvm]; exact State.WarmedH.refl s
  have hat' : ∀ w ∈ vx_atS own ic cls names, w.before args s' = true := fun w hw => vx_ot_at hW0 hvm.symm (hgood w (List.mem_cons_of_mem _ (List.mem_cons_of_mem _ hw))) (hat w hw)
  have hk' : (Cond.classLink own ik cls).before args s' = true := vx_ot_at hW0 hvm.symm (hgood _ List.mem_cons_self) hk
  have hini' : (Cond.initialized cls).before args s' = true := vx_ot_at hW0 hvm.symm (hgood _ (List.mem_cons_of_mem _ List.mem_cons_self)) hini
  have hU' : vx_Zq Jvm.Bundle.tN "UNASSIGNED_STACK" Jvm.Bundle.steD A s' s'.heap := by rw [hhp]; exact vx_Zq.moved hW0.alike (hU.kept hS.2.1)
  have hN' : vx_Zq Jvm.Bundle.tN "SUPPRESSED_SENTINEL" Jvm.Bundle.listD A s' s'.heap := by rw [hhp]; exact vx_Zq.moved hW0.alike (hN.kept hS.2.1)
  have h : ∀ w ∈ Jvm.Bundle.ownAtoms own ic cls names, w.before args s' = true := vx_own hat' (vx_isRefq hU'.1) (vx_isRefq hN'.1) hU'.2.word hN'.2.word
  have hown' : s'.vm.findClass own = some m.cls := by rw [hvm]; exact hown
  have hins : (Cond.instantiable cls 6).before args s' = true := h _ (by simp [Jvm.Bundle.ownAtoms])
  obtain ⟨vm₁, cX, kX, hfX, hkX, -, -, X₁, st1⟩ := Y.newCold hexec (own := own) (C := cls) (index := ik) (n := 6) hown' hk' hins hini'
    (g := F0 m pc ls rest) rfl (by rw [hb]; exact d0) (Nat.le_refl _) (Nat.le_refl _)
  generalize hT1 : (T.setVm vm₁).pushCell { cls := cX, slots := kX.instanceTypes.map defaultValue, vm := .none } = T1 at X₁ st1
  have hcat : (Value.ref T.heap.size).category = 1 := rfl
  have hcellA : T1.heap[T.heap.size]? = some (freshCell cX kX) := by rw [← hT1]; exact State.heap_pushCell_size _ _
  have d3' : decode c.code (pc + 3) = .ok (.dup, 1) := by rw [hb]; exact d3
  have d4' : decode c.code (pc + 4) = .ok (.ldc is, 2) := by rw [hb]; exact d4
  have hstr' : vk_R own is text sa s' := vk_R.warm hW0 hstr
  obtain ⟨U, hsteps, hrun, hend, hW, hsame, ce, hce, hO⟩ := X₁.ctorThrowS hexec htr (own := own) (cls := cls) (names := names) (ic := ic) hown' hcls hnames h (fun x hx => nomatch hx) hfX hkX hcellA (by rw [hhp, hT]; exact Nat.le_refl _) (msg := .ref sa) rfl
    (g := { method := m, pc := pc + 6, locals := ls, stack := .ref sa :: .ref T.heap.size :: .ref T.heap.size :: rest, locked := none }) rfl hsize rfl rfl (rest := rest) rfl
    (by rw [hb]; exact d6) (by rw [hb]; exact d9) hout hRframes (by simp only [List.map_cons, List.sum_cons, hcat]; omega) hlocks
  obtain ⟨f1, f2⟩ := vx_frame hsame
  rw [hhp] at f1 f2
  have hWs : s.WarmedH U.vm := State.WarmedH.trans hW0 hW
  have hcl : s.vm.findClass cls = some ce.cls := by
    have h9 := hO.cls
    rw [hvm] at h9
    exact h9
  have hall : s.sameButNew ({ U with vm := s.vm } : State) locs mc ms := by
    subst hA
    obtain ⟨e1, e2⟩ := hsame
    rw [State.setFrames_setFrames] at e1
    have h2 : (T.setVm s.vm).sameButNew ({ U with vm := s.vm } : State) [] (0 + 1) (0 + 6) := ⟨e1, e2⟩
    have h3 := X.same.trans h2
    rw [List.append_nil] at h3
    exact h3.mono hc hs
  refine ⟨U, ?_, .threw T.heap.size, hrun, hend, Or.inr ⟨T.heap.size, rfl, cls, ce, locs, hx U hWs.alike f1 (fun q hq => f2 q hq (fun z hz => nomatch hz)), hce, hO.vm, hcl, hWs, hall, hf⟩⟩
  refine st1 _ ?_
  show Steps p.tables e below (T1.setTop { method := m, pc := pc + 3, locals := ls, stack := .ref T.heap.size :: rest, locked := none }) _
  jvm_step X₁.here [X₁.here.top, hexec, d3', Value.category]
  exact X₁.ldcString hexec (own := own) (text := text) (index := is) (a := sa) hown' hstr'.1 hstr'.2
    (g := { method := m, pc := pc + 4, locals := ls, stack := .ref T.heap.size :: .ref T.heap.size :: rest, locked := none }) rfl d4' _ hsteps
/-- 'throw new E("text")', the text by a wide index -/
theorem vx_throwSW {cc : ByteArray} {pc : Nat} (hexec : p.tables.exec = Jvm.exec) (hb : c.code = cc) (hl : l.stackTraces = false) {own cls text : String} {names : List String} {ik is ic mc ms sa : Nat} {A : Nat → Prop}
    (hown : s.vm.findClass own = some m.cls) (hcls : Jvm.Bundle.fit cls = true) (hnames : ∀ n ∈ names, Jvm.Bundle.fit n = true)
    (hk : (Cond.classLink own ik cls).before args s = true) (hini : (Cond.initialized cls).before args s = true) (hstr : vk_R own is text sa s) (hat : ∀ w ∈ vx_atS own ic cls names, w.before args s = true)
    (hgood : ∀ w ∈ Cond.classLink own ik cls :: Cond.initialized cls :: vx_atS own ic cls names, vx_ot w = true)
    (hU : vx_Zq Jvm.Bundle.tN "UNASSIGNED_STACK" Jvm.Bundle.steD A s s.heap) (hN : vx_Zq Jvm.Bundle.tN "SUPPRESSED_SENTINEL" Jvm.Bundle.listD A s s.heap) (hS : va_S A s.heap H locs) (hsize : ls.size = c.maxLocals)
    (d0 : decode cc pc = .ok (.new ik, 3)) (d3 : decode cc (pc + 3) = .ok (.dup, 1)) (d4 : decode cc (pc + 4) = .ok (.ldc_w is, 3)) (d7 : decode cc (pc + 7) = .ok (.invokespecial ic, 3)) (d10 : decode cc (pc + 10) = .ok (.athrow, 1))
    (hout : ∀ x ∈ c.exceptionTable.toList, covers x (pc + 10) = false)
    (hRframes : names.length + 3 < R.frames) (hRlocals : (rest.map fun v => v.category).sum + (13 * (names.length + 1) + 43) ≤ R.locals) (hRcells : cells + 1 ≤ R.cells) (hRslots : slots + 6 ≤ R.slots) (hlocks : meth.locks = false)
    (hx : ∀ t : State, s.vm.Alike t.vm → H.size ≤ t.heap.size → (∀ q : Nat, q < H.size → t.heap[q]? = H[q]?) → XC cls s t)
    (hf : ∀ z ∈ locs, free z.base) (hc : cells + 1 ≤ mc) (hs : slots + 6 ≤ ms) :
    W p l e R s m args below meth c H locs cells slots (vx_MQ below Qc XC args s mc ms free) (F0 m pc ls rest) := by
  intro T hT X
  have htr : e.platform.stackTraces = false := (show e.platform.stackTraces = l.stackTraces by rw [X.admits.platform]).trans hl
  have Y := vx_rebase X (R' := { frames := R.frames, locals := R.locals, cells := 1, slots := 6 }) (Nat.le_refl _) (Nat.le_refl _) hRcells hRslots
  obtain ⟨s', hA⟩ : ∃ z, z = (T.setVm s.vm).setFrames (.invoking m args :: below) := ⟨_, rfl⟩
  rw [← hA] at Y
  have hvm : s'.vm = s.vm := by rw [hA]; rfl
  have hhp : s'.heap = H := by rw [hA]; exact hT
  have hW0 : s.WarmedH s'.vm := by rw [hvm]; exact State.WarmedH.refl s
  have hat' : ∀ w ∈ vx_atS own ic cls names, w.before args s' = true := fun w hw => vx_ot_at hW0 hvm.symm (hgood w (List.mem_cons_of_mem _ (List.mem_cons_of_mem _ hw))) (hat w hw)
  have hk' : (Cond.classLink own ik cls).before args s' = true := vx_ot_at hW0 hvm.symm (hgood _ List.mem_cons_self) hk
  have hini' : (Cond.initialized cls).before args s' = true := vx_ot_at hW0 hvm.symm (hgood _ (List.mem_cons_of_mem _ List.mem_cons_self)) hini
  have hU' : vx_Zq Jvm.Bundle.tN "UNASSIGNED_STACK" Jvm.Bundle.steD A s' s'.heap := by rw [hhp]; exact vx_Zq.moved hW0.alike (hU.kept hS.2.1)
  have hN' : vx_Zq Jvm.Bundle.tN "SUPPRESSED_SENTINEL" Jvm.Bundle.listD A s' s'.heap := by rw [hhp]; exact vx_Zq.moved hW0.alike (hN.kept hS.2.1)
  have h : ∀ w ∈ Jvm.Bundle.ownAtoms own ic cls names, w.before args s' = true := vx_own hat' (vx_isRefq hU'.1) (vx_isRefq hN'.1) hU'.2.word hN'.2.word
  have hown' : s'.vm.findClass own = some m.cls := by rw [hvm]; exact hown
  have hins : (Cond.instantiable cls 6).before args s' = true := h _ (by simp [Jvm.Bundle.ownAtoms])
  obtain ⟨vm₁, cX, kX, hfX, hkX, -, -, X₁, st1⟩ := Y.newCold hexec (own := own) (C := cls) (index := ik) (n := 6) hown' hk' hins hini'
    (g := F0 m pc ls rest) rfl (by rw [hb]; exact d0) (Nat.le_refl _) (Nat.le_refl _)
  generalize hT1 : (T.setVm vm₁).pushCell { cls := cX, slots := kX.instanceTypes.map defaultValue, vm := .none } = T1 at X₁ st1
  have hcat : (Value.ref T.heap.size).category = 1 := rfl
  have hcellA : T1.heap[T.heap.size]? = some (freshCell cX kX) := by rw [← hT1]; exact State.heap_pushCell_size _ _
  have d3' : decode c.code (pc + 3) = .ok (.dup, 1) := by rw [hb]; exact d3
  have d4' : decode c.code (pc + 4) = .ok (.ldc_w is, 3) := by rw [hb]; exact d4
  have hstr' : vk_R own is text sa s' := vk_R.warm hW0 hstr
  obtain ⟨U, hsteps, hrun, hend, hW, hsame, ce, hce, hO⟩ := X₁.ctorThrowS hexec htr (own := own) (cls := cls) (names := names) (ic := ic) hown' hcls hnames h (fun x hx => nomatch hx) hfX hkX hcellA (by rw [hhp, hT]; exact Nat.le_refl _) (msg := .ref sa) rfl
    (g := { method := m, pc := pc + 7, locals := ls, stack := .ref sa :: .ref T.heap.size :: .ref T.heap.size :: rest, locked := none }) rfl hsize rfl rfl (rest := rest) rfl
    (by rw [hb]; exact d7) (by rw [hb]; exact d10) hout hRframes (by simp only [List.map_cons, List.sum_cons, hcat]; omega) hlocks
  obtain ⟨f1, f2⟩ := vx_frame hsame
  rw [hhp] at f1 f2
  have hWs : s.WarmedH U.vm := State.WarmedH.trans hW0 hW
  have hcl : s.vm.findClass cls = some ce.cls := by
    have h9 := hO.cls
    rw [hvm] at h9
    exact h9
  have hall : s.sameButNew ({ U with vm := s.vm } : State) locs mc ms := by
    subst hA
    obtain ⟨e1, e2⟩ := hsame
    rw [State.setFrames_setFrames] at e1
    have h2 : (T.setVm s.vm).sameButNew ({ U with vm := s.vm } : State) [] (0 + 1) (0 + 6) := ⟨e1, e2⟩
    have h3 := X.same.trans h2
    rw [List.append_nil] at h3
    exact h3.mono hc hs
  refine ⟨U, ?_, .threw T.heap.size, hrun, hend, Or.inr ⟨T.heap.size, rfl, cls, ce, locs, hx U hWs.alike f1 (fun q hq => f2 q hq (fun z hz => nomatch hz)), hce, hO.vm, hcl, hWs, hall, hf⟩⟩
  refine st1 _ ?_
  show Steps p.tables e below (T1.setTop { method := m, pc := pc + 3, locals := ls, stack := .ref T.heap.size :: rest, locked := none }) _
  jvm_step X₁.here [X₁.here.top, hexec, d3', Value.category]
  exact X₁.ldcStringW hexec (own := own) (text := text) (index := is) (a := sa) hown' hstr'.1 hstr'.2
    (g := { method := m, pc := pc + 4, locals := ls, stack := .ref T.heap.size :: .ref T.heap.size :: rest, locked := none }) rfl d4' _ hsteps
end Ends
section Bodies
variable {l : Launch}
theorem vx_ofW {y : MethodName} {ws ws' : List Cond} {rm : Room} {Pc : Array Value → State → Prop} {Qc : Array Value → State → Outcome → State → Prop} {XC : String → State → State → Prop} {mc ms : Nat} {free : Addr → Prop} {cc : ByteArray} {maxL : Nat} {ret : Option FieldType}
    (hy : plainName y.cls = true) (hw : ws = Cond.code y cc maxL ret :: ws')
    (body : ∀ p e s m args below meth c s₁, BodyLoose p l y (headSpec ws rm) cc maxL ret e s m args below meth c s₁ → c.maxLocals = maxL → (∀ x ∈ c.exceptionTable.toList, False) → Pc args s →
      W p l e (headSpec ws rm).room s m args below meth c s.heap [] 0 0 (vx_MQ below Qc XC args s mc ms free) (entryFrame m args maxL)) : vx_Met l y ws rm Pc Qc XC mc ms free := by
  refine MetFree.of_bodyS (code := cc) (maxLocals := maxL) (ret := ret) hy ?_ ?_
  · intro args s m h hn
    obtain ⟨meth, c, h1, h2, h3, h4, h5, h6, -, -⟩ := Cond.code_spec hn (atoms_spec (ws := ws) h _ (by rw [hw]; exact List.mem_cons_self))
    exact ⟨meth, c, h1, h2, h3, h4, h5, h6⟩
  · intro p e s m args below meth c s₁ B hml hP _
    have hh0 : s₁.heap = s.heap := by rw [B.state]; rfl
    have ht : ∀ x ∈ c.exceptionTable.toList, False := by
      obtain ⟨meth9, c9, h1, h2, -, -, -, -, h7, -⟩ := Cond.code_spec B.named (atoms_spec (ws := ws) B.pre _ (by rw [hw]; exact List.mem_cons_self))
      cases Option.some.inj (h1.symm.trans B.method)
      cases Option.some.inj (h2.symm.trans (Stand.of_body B).code)
      intro x hx
      rw [Array.isEmpty_iff.mp h7] at hx
      cases hx
    obtain ⟨t, a1, o, b1, b2, b3⟩ := body p e s m args below meth c s₁ B hml ht hP s₁ hh0 (Stand.of_body B)
    exact ⟨t, o, a1, b1, b2, b3⟩
/-- the table of a body with handlers -/
theorem vx_table {p : Program} {x y : MethodName} {S : Spec} {cc bytes : ByteArray} {maxL maxL' : Nat} {ret ret' : Option FieldType} {e : Env} {s s₁ : State} {m : MethodId} {args : Array Value} {below : List Frame} {meth : Method} {c : Code} {hh : List (Nat × Nat × Nat × Nat)}
    (B : BodyLoose p l y S cc maxL ret e s m args below meth c s₁) (h : (Cond.codeWith y bytes maxL' ret' hh).before args s = true) : c.exceptionTable.toList = tableOf hh := by
  obtain ⟨m9, meth9, c9, hn9, h1, h2, -, -, h6, -⟩ := Cond.codeWith_spec h
  cases Option.some.inj (hn9.symm.trans B.named)
  cases Option.some.inj (h1.symm.trans B.method)
  cases Option.some.inj (h2.symm.trans (Stand.of_body B).code)
  rw [← h6, table_eq]
end Bodies
end VXA
/-! ===== END ===== -/
/-! ===== BEGIN a static call of a method with an exception table ===== -/
section VXS
variable {p : Program} {l : Launch} {e : Env} {R : Room} {s : State} {m : MethodId} {args : Array Value} {below : List Frame} {meth : Method} {c : Code} {T : State} {H : Heap} {locs : List Loc} {cells slots : Nat}
abbrev vx_CSW (R : Room) (s : State) (args : Array Value) (own : String) (index : Nat) (y : MethodName) (bytes : ByteArray) (maxL : Nat) (ret : Option FieldType) (hh : List (Nat × Nat × Nat × Nat)) (ws : List Cond) (rm : Room) (mc ms n : Nat) : Prop :=
  (rm.cells = mc ∧ rm.slots = ms ∧ rm.frames + 1 ≤ R.frames ∧ 8 + (maxL + 11) + rm.locals ≤ R.locals ∧ (∀ w ∈ ws, ∀ (a' : Array Value) (U : State), s.WarmedH U.vm → w.before a' U = true) ∧ Cond.codeWith y bytes maxL ret hh ∈ ws) ∧
  (Cond.codeWith y bytes maxL ret hh).before args s = true ∧ (Cond.initialized y.cls).before args s = true ∧ (y.cls ≠ "java/lang/invoke/MethodHandle" ∧ y.cls ≠ "java/lang/invoke/VarHandle") ∧
  (∀ sig, parseMethodDescriptor y.desc = some sig → n = sig.parameters.length) ∧ (Cond.methodLink own index y).before args s = true ∧ (Cond.static y).before args s = true
theorem vx_cwSW {own : String} {index maxL mc ms : Nat} {y : MethodName} {bytes : ByteArray} {ret : Option FieldType} {hh : List (Nat × Nat × Nat × Nat)} {Ts ws ws' : List Cond} {rm : Room} (n : Nat) (ht : ∀ w ∈ Ts, w.before args s = true) (hT : GoodIn Ts (va_wsS own index y ws)) (hw : ws = Cond.codeWith y bytes maxL ret hh :: ws') (hrc : rm.cells = mc) (hrs : rm.slots = ms)
    (hd : y.cls ≠ "java/lang/invoke/MethodHandle" ∧ y.cls ≠ "java/lang/invoke/VarHandle" ∧ (parseMethodDescriptor y.desc).map (fun d => d.parameters.length) = some n) (hR : rm.frames + 1 ≤ R.frames ∧ 8 + (maxL + 11) + rm.locals ≤ R.locals) :
    vx_CSW R s args own index y bytes maxL ret hh ws rm mc ms n := by
  have ok : ∀ w ∈ va_wsS own index y ws, w.before args s = true := fun w h => ht w (hT w h).1
  have hG : GoodIn Ts ws := fun w h => hT w (by unfold va_wsS; exact List.mem_append_right _ h)
  have hc : Cond.codeWith y bytes maxL ret hh ∈ ws := by rw [hw]; exact List.mem_cons_self
  refine ⟨⟨hrc, hrs, hR.1, hR.2, pay_in ht hG, hc⟩, ht _ (hG _ hc).1, ok _ (by simp [va_wsS]), ⟨hd.1, hd.2.1⟩, fun sig h => ?_, ok _ (by simp [va_wsS]), ok _ (by simp [va_wsS])⟩
  have h2 := hd.2.2
  rw [h] at h2
  exact (Option.some.inj h2).symm
theorem vx_callSW (X : Stand p l e R s m args below meth c T locs cells slots) (hexec : p.tables.exec = Jvm.exec) {own : String} {index : Nat} {y : MethodName} {bytes : ByteArray} {maxL : Nat} {ret : Option FieldType} {hh : List (Nat × Nat × Nat × Nat)}
    (hown : s.vm.findClass own = some m.cls) (hlink : (Cond.methodLink own index y).before args s = true) (hstat : (Cond.static y).before args s = true) (hinit : (Cond.initialized y.cls).before args s = true)
    (hcode : (Cond.codeWith y bytes maxL ret hh).before args s = true) (hy : y.cls ≠ "java/lang/invoke/MethodHandle" ∧ y.cls ≠ "java/lang/invoke/VarHandle")
    {W9 : Nat} {Pre : Pt → Array Value → Prop} {Post : Pt → Array Value → Option Value → Pt → Prop} (hK : Back l R p e below s args y 3 W9 Pre Post)
    {g : JFrame} (hg : g.method = m) (hsize : g.locals.size = c.maxLocals) {argsL rest : List Value} (hlen : ∀ sig, parseMethodDescriptor y.desc = some sig → argsL.length = sig.parameters.length)
    (hstack : g.stack = argsL.reverse ++ rest) (hW : 2 * g.monitorRoom + (rest.map fun v => v.category).sum ≤ W9) (hdg : decode c.code g.pc = .ok (.invokestatic index, 3))
    (hpre : ∀ vm₁, s.WarmedH vm₁ → Pre ⟨T.setVm vm₁, locs, cells, slots⟩ argsL.toArray) :
    ∃ (v : Option Value) (vm₁ : Vm) (B : Pt), s.WarmedH vm₁ ∧ Stand p l e R s m args below meth c B.U B.locs B.cells B.slots ∧ Post ⟨T.setVm vm₁, locs, cells, slots⟩ argsL.toArray v B ∧
      ∀ target, Steps p.tables e below (B.U.setTop { g with pc := g.pc + 3, stack := v.toList ++ rest }) target → Steps p.tables e below (T.setTop g) target := by
  obtain ⟨mk, methM, cM, hnamed, hmethM, -, -, -, -, -, -, hsigM⟩ := Cond.codeWith_spec hcode
  have hstatic : methM.isStatic = true := Cond.static_spec hnamed hmethM hstat
  obtain ⟨kP, hkP, -⟩ := className_of_methodNamed hnamed
  have hinitP : kP.init = .initialized := Cond.initialized_spec (findClass_of_methodNamed hnamed) hkP hinit
  obtain ⟨vm₁, X₁, hstep₁⟩ := X.invokestatic hexec hown hlink hnamed hmethM hstatic hkP hinitP hy (g := g) hg (argsL := argsL) (rest := rest) (hlen _ hsigM) hstack hdg
  obtain ⟨v, B, X', hpost, hsteps⟩ := hK m meth c ⟨T.setVm vm₁, locs, cells, slots⟩ { g with stack := rest } (.invokestatic index) mk argsL.toArray X₁ hg hsize hdg hW (X₁.named hnamed) (hpre vm₁ X₁.warmed)
  exact ⟨v, vm₁, B, X₁.warmed, X', hpost, fun target h => hstep₁ _ fun acts => by rw [doInvoke_state]; exact hsteps.trans h⟩
theorem vx_runSW {y : MethodName} {bytes cc : ByteArray} {maxL nL mc ms n index : Nat} {ret : Option FieldType} {hh : List (Nat × Nat × Nat × Nat)} {ws : List Cond} {rm : Room} {Pc : Array Value → State → Prop} {Qc : Array Value → State → Outcome → State → Prop} {free : Addr → Prop} {Ts : List Cond} {own : String} {As rest : List Value} {g : JFrame}
    (S : CallFix p m c cc nL s args Ts own) (hM : Met l y ws rm Pc Qc mc ms free) (cw : vx_CSW R s args own index y bytes maxL ret hh ws rm mc ms n) (hp : PreS s H Pc As)
    (hg : g.method = m) (hn : As.length = n) (hsize : g.locals.size = nL) (hstack : g.stack = As.reverse ++ rest) (hW : 2 * g.monitorRoom + (rest.map fun v => v.category).sum ≤ 8) (hdg : decode cc g.pc = .ok (.invokestatic index, 3)) (hf : cells + mc ≤ R.cells ∧ slots + ms ≤ R.slots) :
    va_Run p l e R s m args below meth c H locs cells slots mc ms g rest (Qc As.toArray) (free) := by
  obtain ⟨⟨hrc, hrs, hfr, hlo, hws, hcw⟩, hcode, hini, hy, hlen, hl, hstt⟩ := cw
  have hK : Back l R p e below s args y 3 8 (PreOf R mc ms Pc) (PostOf Qc mc ms free) := va_backW (hh := hh) (bytes := bytes) (maxL := maxL) (ret := ret) hM hp.1 hrc hrs hfr hlo hws hcw (fun a' U hW => word_at hW (Or.inl (by first | rfl | simp [Cond.onTables, Cond.keeps, Cond.steady])) hini)
  obtain ⟨hx, hb, hml, ho, -⟩ := S
  intro T hT X
  obtain ⟨v, vm₁, ⟨U', l2, c2, s2⟩, hW₁, X', ⟨g', mk, t, L, e1, e2, hq, h1, hL, h2, h3⟩, st⟩ := vx_callSW X hx (hh := hh) (bytes := bytes) (maxL := maxL) (ret := ret) ho hl hstt hini hcode hy hK hg (hsize.trans hml.symm) (argsL := As) (rest := rest) (fun sig h => hn.trans (hlen sig h)) hstack hW (by rw [hb]; exact hdg)
    (fun vm₁ hW₁ => ⟨hf.1, hf.2, hp.2 (T.setVm vm₁) hT hW₁⟩)
  dsimp only [Pt.U, Pt.locs, Pt.cells, Pt.slots] at X' e1 e2 h1 h2 h3 st
  subst h1; subst h2; subst h3
  exact ⟨v, (T.setVm vm₁).calling g' mk As.toArray, t, U', L, hT, X', hL, e1, e2, hq, st⟩
/-- a thing of a world lies in the heap -/
theorem vx_lt {D : va_G} {cl : List vw_C} {ws : va_W} {H1 : Heap} (h : va_P D cl ws H1) {k : Nat} {q : Nat × va_E} (hk : ws[k]? = some q) : q.1 < H1.size := (h k q hk).lt
end VXS
/-! ===== END ===== -/
/-! ===== BEGIN methods with a table of their own: called by a name, returning or throwing ===== -/
section VXH
/-! vx_backW, vx_callVX, vx_callSX, vx_callVW, vx_runVW, vx_runVX, vx_runSX, vx_ofWH follow the same proofs as their sisters above (Free/Laws.lean, Shelf42/LK1.lean); vx_outP calls Shelf42/NT130.lean (outThrough). -/
section
variable {l : Launch} {R : Room} {p : Program} {e : Env} {below : List Frame} {s : State} {sargs : Array Value} {y : MethodName} {len W9 : Nat}
theorem vx_backW {ws : List Cond} {rm : Room} {Pc : Array Value → State → Prop} {Qc : Array Value → State → Outcome → State → Prop} {XC : String → State → State → Prop} {mc ms : Nat} {free : Addr → Prop} {bytes : ByteArray} {maxL : Nat} {ret : Option FieldType} {hh : List (Nat × Nat × Nat × Nat)}
    (hM : vx_Met l y ws rm Pc Qc XC mc ms free) (hblind : FrameBlind Pc) (hrc : rm.cells = mc) (hrs : rm.slots = ms)
    (hframes : rm.frames + 1 ≤ R.frames) (hlocals : W9 + (maxL + 11) + rm.locals ≤ R.locals)
    (hws : ∀ w ∈ ws, ∀ a' U, s.WarmedH U.vm → w.before a' U = true) (hcode : Cond.codeWith y bytes maxL ret hh ∈ ws) (hinit : ∀ a' U, s.WarmedH U.vm → (Cond.initialized y.cls).before a' U = true) :
    vx_Back l R p e below s sargs y len W9 (PreOf R mc ms Pc) (PostOf Qc mc ms free) (vx_Post XC mc ms free) := by
  intro m meth c A g ig mk a X hg hsize hdg hW hn hp
  have h1 : (headSpec ws rm).pre.before a A.U = true := atoms_intro fun w hw => hws w hw _ _ X.warmed
  have h2 : (Cond.codeWith y bytes maxL ret hh).before a A.U = true := hws _ hcode _ _ X.warmed
  have h3 : (Cond.initialized y.cls).before a A.U = true := hinit _ _ X.warmed
  have h4 : A.cells + (headSpec ws rm).room.cells ≤ R.cells := by rw [show (headSpec ws rm).room.cells = mc from hrc]; exact hp.1
  have h5 : A.slots + (headSpec ws rm).room.slots ≤ R.slots := by rw [show (headSpec ws rm).room.slots = ms from hrs]; exact hp.2.1
  have hPc : Pc a (A.U.calling g mk a) := hblind _ _ _ _ hp.2.2
  obtain ⟨U, Ls, c0, s0⟩ := A
  dsimp only [Pt.U, Pt.locs, Pt.cells, Pt.slots] at h1 h2 h3 h4 h5 X hn hPc ⊢
  obtain ⟨m9, methY, cY, hn9, hmY, hcY, -, hlY, -⟩ := Cond.codeWith_spec h2
  cases Option.some.inj (hn9.symm.trans hn)
  obtain ⟨kY, hkY, -⟩ := className_of_methodNamed hn
  have hinitY : kY.init = .initialized := Cond.initialized_spec (findClass_of_methodNamed hn) hkY h3
  have h : At U g.method c below := by rw [hg]; exact X.here
  have hlocals9 : W9 + (maxL + 11) + (headSpec ws rm).room.locals ≤ R.locals := hlocals
  have happ : (headSpec ws rm).appliesLoose y e.platform (U.calling g mk a) = true :=
    Spec.appliesLoose_calling (g := g) h hdg hn hkY hinitY
      (X.room_calling (g := g) (R' := (headSpec ws rm).room) hsize hmY hcY hframes (by rw [hlY]; omega) h4 h5) h1
  obtain ⟨mid, hmid⟩ := h.above
  have hfr : (U.setTop g).frames = (.java g :: mid) ++ below := by rw [State.frames_setTop' g h.top, hmid]; rfl
  obtain ⟨o, s₂, hsteps, -, hend, hq⟩ := Steps.callFree hM p X.admits X.cas X.clock (acts := []) hfr happ hPc trivial
  have hq' : vx_Q Qc XC mc ms free a (U.calling g mk a) o s₂ := hq
  rw [State.frames_setTop' g h.top] at hend
  obtain ⟨g₀, hg0⟩ := Option.isSome_iff_exists.mp h.top
  obtain ⟨r, hr⟩ := State.topJava?_eq_some.mp hg0
  have hr' : (({ U with heap := s₂.heap, slotsUsed := s₂.slotsUsed } : State).setVm s₂.vm).frames = .java g₀ :: r := hr
  rcases hq' with ⟨hqc, L, hfe, hL⟩ | ⟨q, rfl, E, ce, L, hx, hce, hcv, hcl, hW₂, hsm, hL⟩
  · obtain ⟨⟨v, rfl⟩, hW₂, e2, q2, q3, q4, q5, q6⟩ := id hfe
    have e3 : s₂ = ({ (U.calling g mk a).setFrames s₂.frames with heap := s₂.heap, slotsUsed := s₂.slotsUsed } : State).setVm s₂.vm := by
      have : s₂ = ({ s₂ with vm := (U.calling g mk a).vm } : State).setVm s₂.vm := rfl
      rw [e2] at this
      exact this
    obtain ⟨c₂, i₂, len₂, hc₂, hd₂, hf₂⟩ := hend
    have hW' : U.WarmedH s₂.vm := hW₂
    have hcc : c₂ = c := by
      have h1 : s₂.code? g.method = U.code? g.method := by
        rw [State.code?_eq, State.code?_eq, hW'.alike.method?]
      exact Option.some.inj (hc₂.symm.trans (h1.trans h.code))
    subst hcc
    have hlen : len₂ = len := by rw [hdg] at hd₂; cases hd₂; rfl
    subst hlen
    have hs₂ : s₂ = (({ U with heap := s₂.heap, slotsUsed := s₂.slotsUsed } : State).setVm s₂.vm).setTop { g with pc := g.pc + len₂, stack := v.toList ++ g.stack } := by
      refine e3.trans ?_
      rw [hf₂, State.calling_eq h.top, State.setFrames_setFrames, State.setTop_of_frames _ hr', hr]
      rfl
    have hsame : U.sameButNew ({ U with heap := s₂.heap, slotsUsed := s₂.slotsUsed } : State) L mc ms := by
      refine ⟨?_, q2, q3, q4, q5, q6⟩
      obtain ⟨t, ht, -⟩ := State.frames_cons hr
      show ({ U with heap := s₂.heap, slotsUsed := s₂.slotsUsed } : State) = { U.setFrames U.frames with heap := s₂.heap, slotsUsed := s₂.slotsUsed }
      rw [State.setFrames_self ht]
    subst hg
    refine Or.inl ⟨v, ⟨(({ U with heap := s₂.heap, slotsUsed := s₂.slotsUsed } : State).setVm s₂.vm), Ls ++ L, c0 + mc, s0 + ms⟩,
      ⟨X.admits, X.cas, X.clock, X.frames, X.room, X.hears, X.method, X.code, (X.here.setHeapUsed s₂.heap s₂.slotsUsed).setVm hW'.alike, X.tail, State.WarmedH.trans X.warmed hW', X.limits, X.bytes, X.same.trans (hsame.setVm s.vm)⟩,
      ⟨g, mk, s₂, L, rfl, rfl, hqc, rfl, hL, rfl, rfl⟩, ?_⟩
    show Steps p.tables e below _ ((({ U with heap := s₂.heap, slotsUsed := s₂.slotsUsed } : State).setVm s₂.vm).setTop { g with pc := g.pc + len₂, stack := v.toList ++ g.stack })
    rw [← hs₂]
    exact hsteps
  · obtain ⟨e2, q2, q3, q4, q5, q6⟩ := id hsm
    have e3 : s₂ = ({ (U.calling g mk a).setFrames s₂.frames with heap := s₂.heap, slotsUsed := s₂.slotsUsed } : State).setVm s₂.vm := by
      have : s₂ = ({ s₂ with vm := (U.calling g mk a).vm } : State).setVm s₂.vm := rfl
      rw [e2] at this
      exact this
    have hf₂ : s₂.frames = .throwing q :: .java g :: U.frames.tail := hend
    have hW' : U.WarmedH s₂.vm := hW₂
    have hs₂ : s₂ = ((({ U with heap := s₂.heap, slotsUsed := s₂.slotsUsed } : State).setVm s₂.vm).setTop g).pushFrame (.throwing q) := by
      refine e3.trans ?_
      rw [hf₂, State.calling_eq h.top, State.setFrames_setFrames, State.pushFrame, State.frames_setTop _ hr', State.setTop_of_frames _ hr', State.setFrames_setFrames, hr]
      rfl
    have hsame : U.sameButNew ({ U with heap := s₂.heap, slotsUsed := s₂.slotsUsed } : State) L mc ms := by
      refine ⟨?_, q2, q3, q4, q5, q6⟩
      obtain ⟨t, ht, -⟩ := State.frames_cons hr
      show ({ U with heap := s₂.heap, slotsUsed := s₂.slotsUsed } : State) = { U.setFrames U.frames with heap := s₂.heap, slotsUsed := s₂.slotsUsed }
      rw [State.setFrames_self ht]
    subst hg
    refine Or.inr ⟨q, ⟨(({ U with heap := s₂.heap, slotsUsed := s₂.slotsUsed } : State).setVm s₂.vm), Ls ++ L, c0 + mc, s0 + ms⟩,
      ⟨X.admits, X.cas, X.clock, X.frames, X.room, X.hears, X.method, X.code, (X.here.setHeapUsed s₂.heap s₂.slotsUsed).setVm hW'.alike, X.tail, State.WarmedH.trans X.warmed hW', X.limits, X.bytes, X.same.trans (hsame.setVm s.vm)⟩,
      ⟨g, mk, s₂, L, E, ce, rfl, rfl, hx, hce, hcv, hcl, rfl, hL, rfl, rfl⟩, ?_⟩
    show Steps p.tables e below _ (((({ U with heap := s₂.heap, slotsUsed := s₂.slotsUsed } : State).setVm s₂.vm).setTop g).pushFrame (.throwing q))
    rw [← hs₂]
    exact hsteps
end
variable {p : Program} {l : Launch} {e : Env} {R : Room} {s : State} {m : MethodId} {args : Array Value} {below : List Frame} {meth : Method} {c : Code} {T : State} {H : Heap} {locs : List Loc} {cells slots : Nat}
theorem vx_callVX (X : Stand p l e R s m args below meth c T locs cells slots) (hexec : p.tables.exec = Jvm.exec) {own C : String} {index : Nat} {y : MethodName} {bytes : ByteArray} {maxL : Nat} {ret : Option FieldType} {hh : List (Nat × Nat × Nat × Nat)}
    (hown : s.vm.findClass own = some m.cls) (hlink : (Cond.methodLink own index y).before args s = true) (hinst : (Cond.instanceMethod y).before args s = true) (hsel : (Cond.selects C y y).before args s = true)
    (hcode : (Cond.codeWith y bytes maxL ret hh).before args s = true) (hy : y.cls ≠ "java/lang/invoke/MethodHandle" ∧ y.cls ≠ "java/lang/invoke/VarHandle")
    {W9 : Nat} {Pre : Pt → Array Value → Prop} {Post : Pt → Array Value → Option Value → Pt → Prop} {PostX : Pt → Array Value → Addr → Pt → Prop} (hK : vx_Back l R p e below s args y 3 W9 Pre Post PostX)
    {b : Addr} {cellB : Cell} (hcell : T.heap[b]? = some cellB) (hobj : cellB.vm.isStatics = false) (hcls : s.vm.findClass C = some cellB.cls)
    {g : JFrame} (hg : g.method = m) (hsize : g.locals.size = c.maxLocals) {argsL rest : List Value} (hlen : ∀ sig, parseMethodDescriptor y.desc = some sig → argsL.length = sig.parameters.length)
    (hstack : g.stack = argsL.reverse ++ .ref b :: rest) (hW : 2 * g.monitorRoom + (rest.map fun v => v.category).sum ≤ W9) (hdg : decode c.code g.pc = .ok (.invokevirtual index, 3))
    (hpre : ∀ vm₁, s.WarmedH vm₁ → Pre ⟨T.setVm vm₁, locs, cells, slots⟩ (Value.ref b :: argsL).toArray) :
    (∃ (v : Option Value) (vm₁ : Vm) (B : Pt), s.WarmedH vm₁ ∧ Stand p l e R s m args below meth c B.U B.locs B.cells B.slots ∧ Post ⟨T.setVm vm₁, locs, cells, slots⟩ (Value.ref b :: argsL).toArray v B ∧
      ∀ target, Steps p.tables e below (B.U.setTop { g with pc := g.pc + 3, stack := v.toList ++ rest }) target → Steps p.tables e below (T.setTop g) target) ∨
    (∃ (q : Addr) (vm₁ : Vm) (B : Pt), s.WarmedH vm₁ ∧ Stand p l e R s m args below meth c B.U B.locs B.cells B.slots ∧ PostX ⟨T.setVm vm₁, locs, cells, slots⟩ (Value.ref b :: argsL).toArray q B ∧
      Steps p.tables e below (T.setTop g) ((B.U.setTop { g with stack := rest }).pushFrame (.throwing q))) := by
  obtain ⟨mk, methM, hnamed, hmethM, hstM, habM⟩ := Cond.instanceMethod_spec hinst
  obtain ⟨m8, methM', cM, hn8, hmethM', -, -, -, -, -, -, hsigM⟩ := Cond.codeWith_spec hcode
  cases Option.some.inj (hn8.symm.trans hnamed)
  cases hmethM.symm.trans hmethM'
  obtain ⟨c2, r2, m2, q1, q2, q3, q4, kP, hkP, hkPi⟩ := Cond.selects_spec hsel
  cases hcls.symm.trans q1
  cases (State.methodFound?_of_named hnamed hy).symm.trans q2
  cases hnamed.symm.trans q3
  have hselP : selectMethod e.platform s.vm cellB.cls mk = .method mk := by rw [Launch.admits_selectMethod X.admits]; exact q4
  obtain ⟨vm₁, X₁, hstep₁⟩ := X.invokevirtual hexec hown hlink hnamed hmethM hstM hkP hkPi hy (a := b) (cell := cellB) hcell
    (fun z h => by rw [h] at hobj; cases hobj) hselP hmethM habM hkP hkPi (g := g) hg (argsL := argsL) (rest := rest) (hlen _ hsigM) hstack hdg
  rcases hK m meth c ⟨T.setVm vm₁, locs, cells, slots⟩ { g with stack := rest } (.invokevirtual index) mk (Value.ref b :: argsL).toArray X₁ hg hsize hdg hW (X₁.named hnamed) (hpre vm₁ X₁.warmed) with ⟨v, B, X', hpost, hsteps⟩ | ⟨q, B, X', hpost, hsteps⟩
  · exact Or.inl ⟨v, vm₁, B, X₁.warmed, X', hpost, fun target h => hstep₁ _ fun acts => by rw [doInvoke_state]; exact hsteps.trans h⟩
  · exact Or.inr ⟨q, vm₁, B, X₁.warmed, X', hpost, hstep₁ _ fun acts => by rw [doInvoke_state]; exact hsteps⟩
theorem vx_callSX (X : Stand p l e R s m args below meth c T locs cells slots) (hexec : p.tables.exec = Jvm.exec) {own : String} {index : Nat} {y : MethodName} {bytes : ByteArray} {maxL : Nat} {ret : Option FieldType} {hh : List (Nat × Nat × Nat × Nat)}
    (hown : s.vm.findClass own = some m.cls) (hlink : (Cond.methodLink own index y).before args s = true) (hstat : (Cond.static y).before args s = true) (hinit : (Cond.initialized y.cls).before args s = true)
    (hcode : (Cond.codeWith y bytes maxL ret hh).before args s = true) (hy : y.cls ≠ "java/lang/invoke/MethodHandle" ∧ y.cls ≠ "java/lang/invoke/VarHandle")
    {W9 : Nat} {Pre : Pt → Array Value → Prop} {Post : Pt → Array Value → Option Value → Pt → Prop} {PostX : Pt → Array Value → Addr → Pt → Prop} (hK : vx_Back l R p e below s args y 3 W9 Pre Post PostX)
    {g : JFrame} (hg : g.method = m) (hsize : g.locals.size = c.maxLocals) {argsL rest : List Value} (hlen : ∀ sig, parseMethodDescriptor y.desc = some sig → argsL.length = sig.parameters.length)
    (hstack : g.stack = argsL.reverse ++ rest) (hW : 2 * g.monitorRoom + (rest.map fun v => v.category).sum ≤ W9) (hdg : decode c.code g.pc = .ok (.invokestatic index, 3))
    (hpre : ∀ vm₁, s.WarmedH vm₁ → Pre ⟨T.setVm vm₁, locs, cells, slots⟩ argsL.toArray) :
    (∃ (v : Option Value) (vm₁ : Vm) (B : Pt), s.WarmedH vm₁ ∧ Stand p l e R s m args below meth c B.U B.locs B.cells B.slots ∧ Post ⟨T.setVm vm₁, locs, cells, slots⟩ argsL.toArray v B ∧
      ∀ target, Steps p.tables e below (B.U.setTop { g with pc := g.pc + 3, stack := v.toList ++ rest }) target → Steps p.tables e below (T.setTop g) target) ∨
    (∃ (q : Addr) (vm₁ : Vm) (B : Pt), s.WarmedH vm₁ ∧ Stand p l e R s m args below meth c B.U B.locs B.cells B.slots ∧ PostX ⟨T.setVm vm₁, locs, cells, slots⟩ argsL.toArray q B ∧
      Steps p.tables e below (T.setTop g) ((B.U.setTop { g with stack := rest }).pushFrame (.throwing q))) := by
  obtain ⟨mk, methM, cM, hnamed, hmethM, -, -, -, -, -, -, hsigM⟩ := Cond.codeWith_spec hcode
  have hstatic : methM.isStatic = true := Cond.static_spec hnamed hmethM hstat
  obtain ⟨kP, hkP, -⟩ := className_of_methodNamed hnamed
  have hinitP : kP.init = .initialized := Cond.initialized_spec (findClass_of_methodNamed hnamed) hkP hinit
  obtain ⟨vm₁, X₁, hstep₁⟩ := X.invokestatic hexec hown hlink hnamed hmethM hstatic hkP hinitP hy (g := g) hg (argsL := argsL) (rest := rest) (hlen _ hsigM) hstack hdg
  rcases hK m meth c ⟨T.setVm vm₁, locs, cells, slots⟩ { g with stack := rest } (.invokestatic index) mk argsL.toArray X₁ hg hsize hdg hW (X₁.named hnamed) (hpre vm₁ X₁.warmed) with ⟨v, B, X', hpost, hsteps⟩ | ⟨q, B, X', hpost, hsteps⟩
  · exact Or.inl ⟨v, vm₁, B, X₁.warmed, X', hpost, fun target h => hstep₁ _ fun acts => by rw [doInvoke_state]; exact hsteps.trans h⟩
  · exact Or.inr ⟨q, vm₁, B, X₁.warmed, X', hpost, hstep₁ _ fun acts => by rw [doInvoke_state]; exact hsteps⟩
theorem vx_callVW (X : Stand p l e R s m args below meth c T locs cells slots) (hexec : p.tables.exec = Jvm.exec) {own C : String} {index : Nat} {y : MethodName} {bytes : ByteArray} {maxL : Nat} {ret : Option FieldType} {hh : List (Nat × Nat × Nat × Nat)}
    (hown : s.vm.findClass own = some m.cls) (hlink : (Cond.methodLink own index y).before args s = true) (hinst : (Cond.instanceMethod y).before args s = true) (hsel : (Cond.selects C y y).before args s = true)
    (hcode : (Cond.codeWith y bytes maxL ret hh).before args s = true) (hy : y.cls ≠ "java/lang/invoke/MethodHandle" ∧ y.cls ≠ "java/lang/invoke/VarHandle")
    {W9 : Nat} {Pre : Pt → Array Value → Prop} {Post : Pt → Array Value → Option Value → Pt → Prop} (hK : Back l R p e below s args y 3 W9 Pre Post)
    {b : Addr} {cellB : Cell} (hcell : T.heap[b]? = some cellB) (hobj : cellB.vm.isStatics = false) (hcls : s.vm.findClass C = some cellB.cls)
    {g : JFrame} (hg : g.method = m) (hsize : g.locals.size = c.maxLocals) {argsL rest : List Value} (hlen : ∀ sig, parseMethodDescriptor y.desc = some sig → argsL.length = sig.parameters.length)
    (hstack : g.stack = argsL.reverse ++ .ref b :: rest) (hW : 2 * g.monitorRoom + (rest.map fun v => v.category).sum ≤ W9) (hdg : decode c.code g.pc = .ok (.invokevirtual index, 3))
    (hpre : ∀ vm₁, s.WarmedH vm₁ → Pre ⟨T.setVm vm₁, locs, cells, slots⟩ (Value.ref b :: argsL).toArray) :
    ∃ (v : Option Value) (vm₁ : Vm) (B : Pt), s.WarmedH vm₁ ∧ Stand p l e R s m args below meth c B.U B.locs B.cells B.slots ∧ Post ⟨T.setVm vm₁, locs, cells, slots⟩ (Value.ref b :: argsL).toArray v B ∧
      ∀ target, Steps p.tables e below (B.U.setTop { g with pc := g.pc + 3, stack := v.toList ++ rest }) target → Steps p.tables e below (T.setTop g) target := by
  obtain ⟨mk, methM, hnamed, hmethM, hstM, habM⟩ := Cond.instanceMethod_spec hinst
  obtain ⟨m8, methM', cM, hn8, hmethM', -, -, -, -, -, -, hsigM⟩ := Cond.codeWith_spec hcode
  cases Option.some.inj (hn8.symm.trans hnamed)
  cases hmethM.symm.trans hmethM'
  obtain ⟨c2, r2, m2, q1, q2, q3, q4, kP, hkP, hkPi⟩ := Cond.selects_spec hsel
  cases hcls.symm.trans q1
  cases (State.methodFound?_of_named hnamed hy).symm.trans q2
  cases hnamed.symm.trans q3
  have hselP : selectMethod e.platform s.vm cellB.cls mk = .method mk := by rw [Launch.admits_selectMethod X.admits]; exact q4
  obtain ⟨vm₁, X₁, hstep₁⟩ := X.invokevirtual hexec hown hlink hnamed hmethM hstM hkP hkPi hy (a := b) (cell := cellB) hcell
    (fun z h => by rw [h] at hobj; cases hobj) hselP hmethM habM hkP hkPi (g := g) hg (argsL := argsL) (rest := rest) (hlen _ hsigM) hstack hdg
  obtain ⟨v, B, X', hpost, hsteps⟩ := hK m meth c ⟨T.setVm vm₁, locs, cells, slots⟩ { g with stack := rest } (.invokevirtual index) mk (Value.ref b :: argsL).toArray X₁ hg hsize hdg hW (X₁.named hnamed) (hpre vm₁ X₁.warmed)
  exact ⟨v, vm₁, B, X₁.warmed, X', hpost, fun target h => hstep₁ _ fun acts => by rw [doInvoke_state]; exact hsteps.trans h⟩
abbrev vx_CVW (R : Room) (s : State) (args : Array Value) (own C : String) (index : Nat) (y : MethodName) (bytes : ByteArray) (maxL : Nat) (ret : Option FieldType) (hh : List (Nat × Nat × Nat × Nat)) (ws : List Cond) (rm : Room) (mc ms n : Nat) : Prop :=
  (rm.cells = mc ∧ rm.slots = ms ∧ rm.frames + 1 ≤ R.frames ∧ 8 + (maxL + 11) + rm.locals ≤ R.locals ∧ (∀ w ∈ ws, ∀ (a' : Array Value) (U : State), s.WarmedH U.vm → w.before a' U = true) ∧ Cond.codeWith y bytes maxL ret hh ∈ ws) ∧
  (Cond.codeWith y bytes maxL ret hh).before args s = true ∧ (Cond.initialized y.cls).before args s = true ∧ (y.cls ≠ "java/lang/invoke/MethodHandle" ∧ y.cls ≠ "java/lang/invoke/VarHandle") ∧
  (∀ sig, parseMethodDescriptor y.desc = some sig → n = sig.parameters.length) ∧ (Cond.methodLink own index y).before args s = true ∧ (Cond.instanceMethod y).before args s = true ∧ (Cond.selects C y y).before args s = true
theorem vx_cwVW {own C : String} {index maxL mc ms : Nat} {y : MethodName} {bytes : ByteArray} {ret : Option FieldType} {hh : List (Nat × Nat × Nat × Nat)} {Ts ws ws' : List Cond} {rm : Room} (n : Nat) (ht : ∀ w ∈ Ts, w.before args s = true) (hT : GoodIn Ts (wsV own index C y ws)) (hw : ws = Cond.codeWith y bytes maxL ret hh :: ws') (hrc : rm.cells = mc) (hrs : rm.slots = ms)
    (hd : y.cls = C ∧ y.cls ≠ "java/lang/invoke/MethodHandle" ∧ y.cls ≠ "java/lang/invoke/VarHandle" ∧ (parseMethodDescriptor y.desc).map (fun d => d.parameters.length) = some n) (hR : rm.frames + 1 ≤ R.frames ∧ 8 + (maxL + 11) + rm.locals ≤ R.locals) :
    vx_CVW R s args own C index y bytes maxL ret hh ws rm mc ms n := by
  obtain ⟨hC, hd⟩ := hd
  subst hC
  have ok : ∀ w ∈ wsV own index y.cls y ws, w.before args s = true := fun w h => ht w (hT w h).1
  have hG : GoodIn Ts ws := fun w h => hT w (by unfold wsV; exact List.mem_append_right _ h)
  have hc : Cond.codeWith y bytes maxL ret hh ∈ ws := by rw [hw]; exact List.mem_cons_self
  refine ⟨⟨hrc, hrs, hR.1, hR.2, pay_in ht hG, hc⟩, ht _ (hG _ hc).1, ok _ (by simp [wsV]), ⟨hd.1, hd.2.1⟩, fun sig h => ?_, ok _ (by simp [wsV]), ok _ (by simp [wsV]), ok _ (by simp [wsV])⟩
  have h2 := hd.2.2
  rw [h] at h2
  exact (Option.some.inj h2).symm
theorem vx_runVW {y : MethodName} {bytes cc : ByteArray} {maxL nL mc ms n index : Nat} {ret : Option FieldType} {hh : List (Nat × Nat × Nat × Nat)} {ws : List Cond} {rm : Room} {Pc : Array Value → State → Prop} {Qc : Array Value → State → Outcome → State → Prop} {free : Addr → Prop} {Ts : List Cond} {own C : String} {b : Addr} {As rest : List Value} {g : JFrame}
    (S : CallFix p m c cc nL s args Ts own) (hM : Met l y ws rm Pc Qc mc ms free) (cw : vx_CVW R s args own C index y bytes maxL ret hh ws rm mc ms n) (hp : PreV s H C b Pc As)
    (hg : g.method = m) (hn : As.length = n) (hsize : g.locals.size = nL) (hstack : g.stack = As.reverse ++ .ref b :: rest) (hW : 2 * g.monitorRoom + (rest.map fun v => v.category).sum ≤ 8) (hdg : decode cc g.pc = .ok (.invokevirtual index, 3)) (hf : cells + mc ≤ R.cells ∧ slots + ms ≤ R.slots) :
    va_Run p l e R s m args below meth c H locs cells slots mc ms g rest (Qc (Value.ref b :: As).toArray) free := by
  obtain ⟨⟨hrc, hrs, hfr, hlo, hws, hcw⟩, hcode, hini, hy, hlen, hl, hin, hse⟩ := cw
  have hK : Back l R p e below s args y 3 8 (PreOf R mc ms Pc) (PostOf Qc mc ms free) := va_backW (hh := hh) (bytes := bytes) (maxL := maxL) (ret := ret) hM hp.1 hrc hrs hfr hlo hws hcw (fun a' U hW => word_at hW (Or.inl (by first | rfl | simp [Cond.onTables, Cond.keeps, Cond.steady])) hini)
  obtain ⟨hx, hb, hml, ho, -⟩ := S
  obtain ⟨-, ⟨cellB, hcB, hoB, hclB⟩, hPc⟩ := hp
  intro T hT X
  obtain ⟨v, vm₁, ⟨U', l2, c2, s2⟩, hW₁, X', ⟨g', mk, t, L, e1, e2, hq, h1, hL, h2, h3⟩, st⟩ := vx_callVW X hx (C := C) (hh := hh) (bytes := bytes) (maxL := maxL) (ret := ret) ho hl hin hse hcode hy hK (by rw [hT]; exact hcB) hoB hclB hg (hsize.trans hml.symm) (argsL := As) (rest := rest) (fun sig h => hn.trans (hlen sig h)) hstack hW (by rw [hb]; exact hdg)
    (fun vm₁ hW₁ => ⟨hf.1, hf.2, hPc (T.setVm vm₁) hT hW₁⟩)
  dsimp only [Pt.U, Pt.locs, Pt.cells, Pt.slots] at X' e1 e2 h1 h2 h3 st
  subst h1; subst h2; subst h3
  exact ⟨v, (T.setVm vm₁).calling g' mk (Value.ref b :: As).toArray, t, U', L, hT, X', hL, e1, e2, hq, st⟩
section
variable {y : MethodName} {bytes cc : ByteArray} {maxL nL mc ms n index : Nat} {ret : Option FieldType} {ws : List Cond} {rm : Room} {Pc : Array Value → State → Prop} {Qc : Array Value → State → Outcome → State → Prop} {XC : String → State → State → Prop} {free : Addr → Prop} {Ts : List Cond} {own C : String} {b : Addr} {As rest : List Value} {g : JFrame}
theorem vx_runVX {hh : List (Nat × Nat × Nat × Nat)} (S : CallFix p m c cc nL s args Ts own) (hM : vx_Met l y ws rm Pc Qc XC mc ms free) (cw : vx_CVW R s args own C index y bytes maxL ret hh ws rm mc ms n) (hp : PreV s H C b Pc As)
    (hg : g.method = m) (hn : As.length = n) (hsize : g.locals.size = nL) (hstack : g.stack = As.reverse ++ .ref b :: rest) (hW : 2 * g.monitorRoom + (rest.map fun v => v.category).sum ≤ 8) (hdg : decode cc g.pc = .ok (.invokevirtual index, 3)) (hf : cells + mc ≤ R.cells ∧ slots + ms ≤ R.slots) :
    vx_Run p l e R s m args below meth c H locs cells slots mc ms g rest (Qc (Value.ref b :: As).toArray) XC free := by
  obtain ⟨⟨hrc, hrs, hfr, hlo, hws, hcw⟩, hcode, hini, hy, hlen, hl, hin, hse⟩ := cw
  have hK : vx_Back l R p e below s args y 3 8 (PreOf R mc ms Pc) (PostOf Qc mc ms free) (vx_Post XC mc ms free) := vx_backW (hh := hh) (bytes := bytes) (maxL := maxL) (ret := ret) hM hp.1 hrc hrs hfr hlo hws hcw (fun a' U hW => word_at hW (Or.inl (by first | rfl | simp [Cond.onTables, Cond.keeps, Cond.steady])) hini)
  obtain ⟨hx, hb, hml, ho, -⟩ := S
  obtain ⟨-, ⟨cellB, hcB, hoB, hclB⟩, hPc⟩ := hp
  intro T hT X
  rcases vx_callVX X hx (C := C) (hh := hh) (bytes := bytes) (maxL := maxL) (ret := ret) ho hl hin hse hcode hy hK (by rw [hT]; exact hcB) hoB hclB hg (hsize.trans hml.symm) (argsL := As) (rest := rest) (fun sig h => hn.trans (hlen sig h)) hstack hW (by rw [hb]; exact hdg)
    (fun vm₁ hW₁ => ⟨hf.1, hf.2, hPc (T.setVm vm₁) hT hW₁⟩) with ⟨v, vm₁, ⟨U', l2, c2, s2⟩, hW₁, X', ⟨g', mk, t, L, e1, e2, hq, h1, hL, h2, h3⟩, st⟩ | ⟨q, vm₁, ⟨U', l2, c2, s2⟩, hW₁, X', ⟨g', mk, t, L, E, ce, e1, e2, hq, hce, hcv, hcl, h1, hL, h2, h3⟩, st⟩
  · dsimp only [Pt.U, Pt.locs, Pt.cells, Pt.slots] at X' e1 e2 h1 h2 h3 st
    subst h1; subst h2; subst h3
    exact Or.inl ⟨v, (T.setVm vm₁).calling g' mk (Value.ref b :: As).toArray, t, U', L, hT, X', hL, e1, e2, hq, st⟩
  · dsimp only [Pt.U, Pt.locs, Pt.cells, Pt.slots] at X' e1 e2 h1 h2 h3 st hcl
    subst h1; subst h2; subst h3
    exact Or.inr ⟨q, (T.setVm vm₁).calling g' mk (Value.ref b :: As).toArray, t, U', L, E, ce, hT, X', hL, e1, e2, hq, hce, hcv, vx_cls hW₁ hcl, st⟩
theorem vx_runSX {hh : List (Nat × Nat × Nat × Nat)} (S : CallFix p m c cc nL s args Ts own) (hM : vx_Met l y ws rm Pc Qc XC mc ms free) (cw : vx_CSW R s args own index y bytes maxL ret hh ws rm mc ms n) (hp : PreS s H Pc As)
    (hg : g.method = m) (hn : As.length = n) (hsize : g.locals.size = nL) (hstack : g.stack = As.reverse ++ rest) (hW : 2 * g.monitorRoom + (rest.map fun v => v.category).sum ≤ 8) (hdg : decode cc g.pc = .ok (.invokestatic index, 3)) (hf : cells + mc ≤ R.cells ∧ slots + ms ≤ R.slots) :
    vx_Run p l e R s m args below meth c H locs cells slots mc ms g rest (Qc As.toArray) XC free := by
  obtain ⟨⟨hrc, hrs, hfr, hlo, hws, hcw⟩, hcode, hini, hy, hlen, hl, hstt⟩ := cw
  have hK : vx_Back l R p e below s args y 3 8 (PreOf R mc ms Pc) (PostOf Qc mc ms free) (vx_Post XC mc ms free) := vx_backW (hh := hh) (bytes := bytes) (maxL := maxL) (ret := ret) hM hp.1 hrc hrs hfr hlo hws hcw (fun a' U hW => word_at hW (Or.inl (by first | rfl | simp [Cond.onTables, Cond.keeps, Cond.steady])) hini)
  obtain ⟨hx, hb, hml, ho, -⟩ := S
  intro T hT X
  rcases vx_callSX X hx (hh := hh) (bytes := bytes) (maxL := maxL) (ret := ret) ho hl hstt hini hcode hy hK hg (hsize.trans hml.symm) (argsL := As) (rest := rest) (fun sig h => hn.trans (hlen sig h)) hstack hW (by rw [hb]; exact hdg)
    (fun vm₁ hW₁ => ⟨hf.1, hf.2, hp.2 (T.setVm vm₁) hT hW₁⟩) with ⟨v, vm₁, ⟨U', l2, c2, s2⟩, hW₁, X', ⟨g', mk, t, L, e1, e2, hq, h1, hL, h2, h3⟩, st⟩ | ⟨q, vm₁, ⟨U', l2, c2, s2⟩, hW₁, X', ⟨g', mk, t, L, E, ce, e1, e2, hq, hce, hcv, hcl, h1, hL, h2, h3⟩, st⟩
  · dsimp only [Pt.U, Pt.locs, Pt.cells, Pt.slots] at X' e1 e2 h1 h2 h3 st
    subst h1; subst h2; subst h3
    exact Or.inl ⟨v, (T.setVm vm₁).calling g' mk As.toArray, t, U', L, hT, X', hL, e1, e2, hq, st⟩
  · dsimp only [Pt.U, Pt.locs, Pt.cells, Pt.slots] at X' e1 e2 h1 h2 h3 st hcl
    subst h1; subst h2; subst h3
    exact Or.inr ⟨q, (T.setVm vm₁).calling g' mk As.toArray, t, U', L, E, ce, hT, X', hL, e1, e2, hq, hce, hcv, vx_cls hW₁ hcl, st⟩
end
end VXH
theorem vx_ofWH {l : Launch} {y : MethodName} {ws ws' : List Cond} {rm : Room} {Pc : Array Value → State → Prop} {Qc : Array Value → State → Outcome → State → Prop} {XC : String → State → State → Prop} {mc ms : Nat} {free : Addr → Prop} {cc : ByteArray} {maxL : Nat} {ret : Option FieldType} {hh : List (Nat × Nat × Nat × Nat)}
    (hy : plainName y.cls = true) (hw : ws = Cond.codeWith y cc maxL ret hh :: ws')
    (body : ∀ p e s m args below meth c s₁, BodyLoose p l y (headSpec ws rm) cc maxL ret e s m args below meth c s₁ → c.maxLocals = maxL → Pc args s →
      W p l e (headSpec ws rm).room s m args below meth c s.heap [] 0 0 (vx_MQ below Qc XC args s mc ms free) (entryFrame m args maxL)) : vx_Met l y ws rm Pc Qc XC mc ms free := by
  refine MetFree.of_bodyS (code := cc) (maxLocals := maxL) (ret := ret) hy ?_ ?_
  · intro args s m h hn
    obtain ⟨m9, meth, c, hn9, h1, h2, h3, h4, -, h5, h6, -⟩ := Cond.codeWith_spec (atoms_spec (ws := ws) h _ (by rw [hw]; exact List.mem_cons_self))
    cases hn.symm.trans hn9
    exact ⟨meth, c, h1, h2, h3, h4, h5, h6⟩
  · intro p e s m args below meth c s₁ B hml hP _
    have hh0 : s₁.heap = s.heap := by rw [B.state]; rfl
    obtain ⟨t, a1, o, b1, b2, b3⟩ := body p e s m args below meth c s₁ B hml hP s₁ hh0 (Stand.of_body B)
    exact ⟨t, o, a1, b1, b2, b3⟩
/-! ===== END ===== -/
end
section
/-! ===== BEGIN printed: names, fields, word lists, decode rows ===== -/
def RX0 : String := "PurseWorld$Archive"
def TX0 : u_T := fun k => match k with
  | _ => ("PurseWorld$Archive", "rows", "Ljava/util/ArrayList;", true)
def tyX0 : Nat → FieldType := fun k => match k with
  | _ => .object "java/util/ArrayList"
abbrev wsX00 : List Cond := u_ws RX0 TX0 1
theorem nmX0 : ∀ a, a < 1 → ∀ b, b < 1 → a ≠ b → (TX0 a).2.1 ≠ (TX0 b).2.1 := by decide +kernel
theorem tyX0_ok : ∀ k, k < 1 → parseFieldDescriptor (TX0 k).2.2.1 = some (tyX0 k) := by decide +kernel
abbrev cX0_init : ByteArray := prog_2_method_1_code
def yX0_init : MethodName := ⟨RX0, "<init>", "()V"⟩
abbrev cX0_size : ByteArray := prog_2_method_2_code
def yX0_size : MethodName := ⟨RX0, "size", "()I"⟩
abbrev cX0_hadAmong : ByteArray := prog_2_method_3_code
def yX0_hadAmong : MethodName := ⟨RX0, "hadAmong", "(IILPurseWorld$Transfer;)Z"⟩
abbrev cX0_has : ByteArray := prog_2_method_4_code
def yX0_has : MethodName := ⟨RX0, "has", "(ILPurseWorld$Transfer;)Z"⟩
abbrev cX0_hasAnyOf : ByteArray := prog_2_method_5_code
def yX0_hasAnyOf : MethodName := ⟨RX0, "hasAnyOf", "(I)Z"⟩
abbrev cX0_hasRefunded : ByteArray := prog_2_method_6_code
def yX0_hasRefunded : MethodName := ⟨RX0, "hasRefunded", "(LPurseWorld$Transfer;)Z"⟩
abbrev cX0_markRefunded : ByteArray := prog_2_method_7_code
def yX0_markRefunded : MethodName := ⟨RX0, "markRefunded", "(LPurseWorld$Transfer;)V"⟩
abbrev cX0_takeRecord : ByteArray := prog_2_method_8_code
def yX0_takeRecord : MethodName := ⟨RX0, "takeRecord", "(ILPurseWorld$Transfer;)Z"⟩
def RX1 : String := "PurseWorld$Entry"
def TX1 : u_T := fun k => match k with
  | 0 => ("PurseWorld$Entry", "teller", "I", true)
  | 1 => ("PurseWorld$Entry", "terms", "LPurseWorld$Transfer;", true)
  | _ => ("PurseWorld$Entry", "refunded", "Z", false)
def tyX1 : Nat → FieldType := fun k => match k with
  | 0 => .int
  | 1 => .object "PurseWorld$Transfer"
  | _ => .boolean
abbrev wsX10 : List Cond := u_ws RX1 TX1 3
theorem nmX1 : ∀ a, a < 3 → ∀ b, b < 3 → a ≠ b → (TX1 a).2.1 ≠ (TX1 b).2.1 := by decide +kernel
theorem tyX1_ok : ∀ k, k < 3 → parseFieldDescriptor (TX1 k).2.2.1 = some (tyX1 k) := by decide +kernel
abbrev cX1_init : ByteArray := prog_3_method_1_code
def yX1_init : MethodName := ⟨RX1, "<init>", "(ILPurseWorld$Transfer;)V"⟩
def RX2 : String := "PurseWorld$Message"
def TX2 : u_T := fun k => match k with
  | 0 => ("PurseWorld$Message", "kind", "I", true)
  | 1 => ("PurseWorld$Message", "to", "I", true)
  | 2 => ("PurseWorld$Message", "terms", "LPurseWorld$Transfer;", true)
  | 3 => ("PurseWorld$Message", "teller", "I", true)
  | _ => ("PurseWorld$Message", "archived", "I", true)
def tyX2 : Nat → FieldType := fun k => match k with
  | 0 => .int
  | 1 => .int
  | 2 => .object "PurseWorld$Transfer"
  | 3 => .int
  | _ => .int
abbrev wsX20 : List Cond := u_ws RX2 TX2 5
theorem nmX2 : ∀ a, a < 5 → ∀ b, b < 5 → a ≠ b → (TX2 a).2.1 ≠ (TX2 b).2.1 := by decide +kernel
theorem tyX2_ok : ∀ k, k < 5 → parseFieldDescriptor (TX2 k).2.2.1 = some (tyX2 k) := by decide +kernel
abbrev cX2_init : ByteArray := prog_4_method_1_code
def yX2_init : MethodName := ⟨RX2, "<init>", "(IILPurseWorld$Transfer;II)V"⟩
def RX3 : String := "PurseWorld$Purse"
def TX3 : u_T := fun k => match k with
  | 0 => ("PurseWorld$Purse", "number", "I", true)
  | 1 => ("PurseWorld$Purse", "nothing", "LPurseWorld$Transfer;", true)
  | 2 => ("PurseWorld$Purse", "kept", "Ljava/util/ArrayList;", true)
  | 3 => ("PurseWorld$Purse", "balance", "I", false)
  | 4 => ("PurseWorld$Purse", "serial", "I", false)
  | 5 => ("PurseWorld$Purse", "state", "I", false)
  | _ => ("PurseWorld$Purse", "current", "LPurseWorld$Transfer;", false)
def tyX3 : Nat → FieldType := fun k => match k with
  | 0 => .int
  | 1 => .object "PurseWorld$Transfer"
  | 2 => .object "java/util/ArrayList"
  | 3 => .int
  | 4 => .int
  | 5 => .int
  | _ => .object "PurseWorld$Transfer"
abbrev wsX30 : List Cond := u_ws RX3 TX3 7
theorem nmX3 : ∀ a, a < 7 → ∀ b, b < 7 → a ≠ b → (TX3 a).2.1 ≠ (TX3 b).2.1 := by decide +kernel
theorem tyX3_ok : ∀ k, k < 7 → parseFieldDescriptor (TX3 k).2.2.1 = some (tyX3 k) := by decide +kernel
abbrev cX3_init : ByteArray := prog_5_method_1_code
def yX3_init : MethodName := ⟨RX3, "<init>", "(IILPurseWorld$Transfer;)V"⟩
abbrev cX3_logIsFull : ByteArray := prog_5_method_2_code
def yX3_logIsFull : MethodName := ⟨RX3, "logIsFull", "()Z"⟩
abbrev cX3_does : ByteArray := prog_5_method_3_code
def yX3_does : MethodName := ⟨RX3, "does", "(ILPurseWorld$Transfer;)Z"⟩
abbrev cX3_hasKept : ByteArray := prog_5_method_4_code
def yX3_hasKept : MethodName := ⟨RX3, "hasKept", "(LPurseWorld$Transfer;)Z"⟩
abbrev cX3_start : ByteArray := prog_5_method_5_code
def yX3_start : MethodName := ⟨RX3, "start", "(ILPurseWorld$Transfer;)V"⟩
abbrev cX3_rest : ByteArray := prog_5_method_6_code
def yX3_rest : MethodName := ⟨RX3, "rest", "()V"⟩
abbrev cX3_end : ByteArray := prog_5_method_7_code
def yX3_end : MethodName := ⟨RX3, "end", "()V"⟩
def RX4 : String := "PurseWorld$Transfer"
def TX4 : u_T := fun k => match k with
  | 0 => ("PurseWorld$Transfer", "payer", "I", true)
  | 1 => ("PurseWorld$Transfer", "payerSerial", "I", true)
  | 2 => ("PurseWorld$Transfer", "payee", "I", true)
  | 3 => ("PurseWorld$Transfer", "payeeSerial", "I", true)
  | _ => ("PurseWorld$Transfer", "amount", "I", true)
def tyX4 : Nat → FieldType := fun k => match k with
  | 0 => .int
  | 1 => .int
  | 2 => .int
  | 3 => .int
  | _ => .int
abbrev wsX40 : List Cond := u_ws RX4 TX4 5
theorem nmX4 : ∀ a, a < 5 → ∀ b, b < 5 → a ≠ b → (TX4 a).2.1 ≠ (TX4 b).2.1 := by decide +kernel
theorem tyX4_ok : ∀ k, k < 5 → parseFieldDescriptor (TX4 k).2.2.1 = some (tyX4 k) := by decide +kernel
abbrev cX4_init : ByteArray := prog_6_method_1_code
def yX4_init : MethodName := ⟨RX4, "<init>", "(IIIII)V"⟩
abbrev cX4_same : ByteArray := prog_6_method_2_code
def yX4_same : MethodName := ⟨RX4, "same", "(LPurseWorld$Transfer;)Z"⟩
def RX5 : String := "PurseWorld"
def TX5 : u_T := fun k => match k with
  | 0 => ("PurseWorld", "nothing", "LPurseWorld$Transfer;", true)
  | 1 => ("PurseWorld", "owners", "Ljava/util/ArrayList;", true)
  | 2 => ("PurseWorld", "sent", "Ljava/util/ArrayList;", true)
  | _ => ("PurseWorld", "archive", "LPurseWorld$Archive;", true)
def tyX5 : Nat → FieldType := fun k => match k with
  | 0 => .object "PurseWorld$Transfer"
  | 1 => .object "java/util/ArrayList"
  | 2 => .object "java/util/ArrayList"
  | _ => .object "PurseWorld$Archive"
abbrev wsX50 : List Cond := u_ws RX5 TX5 4
theorem nmX5 : ∀ a, a < 4 → ∀ b, b < 4 → a ≠ b → (TX5 a).2.1 ≠ (TX5 b).2.1 := by decide +kernel
theorem tyX5_ok : ∀ k, k < 4 → parseFieldDescriptor (TX5 k).2.2.1 = some (tyX5 k) := by decide +kernel
abbrev cX5_init : ByteArray := prog_1_method_1_code
def yX5_init : MethodName := ⟨RX5, "<init>", "()V"⟩
abbrev cX5_purse : ByteArray := prog_1_method_2_code
def yX5_purse : MethodName := ⟨RX5, "purse", "(I)I"⟩
abbrev cX5_begin : ByteArray := prog_1_method_3_code
def yX5_begin : MethodName := ⟨RX5, "begin", "(III)I"⟩
abbrev cX5_deliver : ByteArray := prog_1_method_4_code
def yX5_deliver : MethodName := ⟨RX5, "deliver", "(I)Z"⟩
abbrev cX5_abort : ByteArray := prog_1_method_5_code
def yX5_abort : MethodName := ⟨RX5, "abort", "(I)I"⟩
abbrev cX5_readLog : ByteArray := prog_1_method_6_code
def yX5_readLog : MethodName := ⟨RX5, "readLog", "(I)I"⟩
abbrev cX5_authorise : ByteArray := prog_1_method_7_code
def yX5_authorise : MethodName := ⟨RX5, "authorise", "(I)I"⟩
abbrev cX5_refund : ByteArray := prog_1_method_8_code
def yX5_refund : MethodName := ⟨RX5, "refund", "(I)I"⟩
abbrev cX5_told : ByteArray := prog_1_method_9_code
def yX5_told : MethodName := ⟨RX5, "told", "(II)I"⟩
abbrev cX5_transfer : ByteArray := prog_1_method_10_code
def yX5_transfer : MethodName := ⟨RX5, "transfer", "(II)I"⟩
abbrev cX5_log : ByteArray := prog_1_method_11_code
def yX5_log : MethodName := ⟨RX5, "log", "(III)I"⟩
abbrev cX5_messages : ByteArray := prog_1_method_12_code
def yX5_messages : MethodName := ⟨RX5, "messages", "()I"⟩
abbrev cX5_message : ByteArray := prog_1_method_13_code
def yX5_message : MethodName := ⟨RX5, "message", "(II)I"⟩
abbrev cX5_entries : ByteArray := prog_1_method_14_code
def yX5_entries : MethodName := ⟨RX5, "entries", "()I"⟩
abbrev cX5_entry : ByteArray := prog_1_method_15_code
def yX5_entry : MethodName := ⟨RX5, "entry", "(II)I"⟩
abbrev cX5_balances : ByteArray := prog_1_method_16_code
def yX5_balances : MethodName := ⟨RX5, "balances", "()J"⟩
abbrev cX5_pending : ByteArray := prog_1_method_17_code
def yX5_pending : MethodName := ⟨RX5, "pending", "()J"⟩
abbrev cX5_purses : ByteArray := prog_1_method_18_code
def yX5_purses : MethodName := ⟨RX5, "purses", "()I"⟩
abbrev cX5_purseAt : ByteArray := prog_1_method_19_code
def yX5_purseAt : MethodName := ⟨RX5, "purseAt", "(I)LPurseWorld$Purse;"⟩
abbrev cX5_messageAt : ByteArray := prog_1_method_20_code
def yX5_messageAt : MethodName := ⟨RX5, "messageAt", "(I)LPurseWorld$Message;"⟩
abbrev cX5_entryAt : ByteArray := prog_1_method_21_code
def yX5_entryAt : MethodName := ⟨RX5, "entryAt", "(I)LPurseWorld$Entry;"⟩
abbrev cX5_partOf : ByteArray := prog_1_method_22_code
def yX5_partOf : MethodName := ⟨RX5, "partOf", "(LPurseWorld$Transfer;I)I"⟩
abbrev cX5_needRoomFor : ByteArray := prog_1_method_23_code
def yX5_needRoomFor : MethodName := ⟨RX5, "needRoomFor", "(I)V"⟩
abbrev cX5_send : ByteArray := prog_1_method_24_code
def yX5_send : MethodName := ⟨RX5, "send", "(IILPurseWorld$Transfer;)I"⟩
abbrev cX5_mayBeAnswered : ByteArray := prog_1_method_25_code
def yX5_mayBeAnswered : MethodName := ⟨RX5, "mayBeAnswered", "(LPurseWorld$Message;)Z"⟩
abbrev cX5_takePay : ByteArray := prog_1_method_26_code
def yX5_takePay : MethodName := ⟨RX5, "takePay", "(LPurseWorld$Message;)Z"⟩
abbrev cX5_takeEarn : ByteArray := prog_1_method_27_code
def yX5_takeEarn : MethodName := ⟨RX5, "takeEarn", "(LPurseWorld$Message;)Z"⟩
abbrev cX5_takeAsk : ByteArray := prog_1_method_28_code
def yX5_takeAsk : MethodName := ⟨RX5, "takeAsk", "(LPurseWorld$Message;)Z"⟩
abbrev cX5_takeValue : ByteArray := prog_1_method_29_code
def yX5_takeValue : MethodName := ⟨RX5, "takeValue", "(LPurseWorld$Message;)Z"⟩
abbrev cX5_takeThanks : ByteArray := prog_1_method_30_code
def yX5_takeThanks : MethodName := ⟨RX5, "takeThanks", "(LPurseWorld$Message;)Z"⟩
abbrev cX5_takeClear : ByteArray := prog_1_method_31_code
def yX5_takeClear : MethodName := ⟨RX5, "takeClear", "(LPurseWorld$Message;)Z"⟩
abbrev cX5_pendingOfPayer : ByteArray := prog_1_method_32_code
def yX5_pendingOfPayer : MethodName := ⟨RX5, "pendingOfPayer", "(LPurseWorld$Purse;)J"⟩
abbrev cX5_amountIfPayeeWaits : ByteArray := prog_1_method_33_code
def yX5_amountIfPayeeWaits : MethodName := ⟨RX5, "amountIfPayeeWaits", "(LPurseWorld$Transfer;)J"⟩
def RX6 : String := "PurseWorldModel"
def TX6 : u_T := fun k => match k with
  | 0 => ("PurseWorldModel", "code", "I", false)
  | 1 => ("PurseWorldModel", "purses", "I", false)
  | 2 => ("PurseWorldModel", "balances", "[I", true)
  | 3 => ("PurseWorldModel", "serials", "[I", true)
  | 4 => ("PurseWorldModel", "states", "[I", true)
  | 5 => ("PurseWorldModel", "logSize", "[I", true)
  | 6 => ("PurseWorldModel", "messages", "I", false)
  | 7 => ("PurseWorldModel", "kinds", "[I", true)
  | 8 => ("PurseWorldModel", "targets", "[I", true)
  | 9 => ("PurseWorldModel", "of", "[I", true)
  | 10 => ("PurseWorldModel", "entries", "I", false)
  | 11 => ("PurseWorldModel", "tellers", "[I", true)
  | 12 => ("PurseWorldModel", "refunded", "[Z", true)
  | _ => ("PurseWorldModel", "transfers", "[I", true)
def tyX6 : Nat → FieldType := fun k => match k with
  | 0 => .int
  | 1 => .int
  | 2 => .array .int
  | 3 => .array .int
  | 4 => .array .int
  | 5 => .array .int
  | 6 => .int
  | 7 => .array .int
  | 8 => .array .int
  | 9 => .array .int
  | 10 => .int
  | 11 => .array .int
  | 12 => .array .boolean
  | _ => .array .int
abbrev wsX60 : List Cond := u_ws RX6 TX6 14
theorem nmX6 : ∀ a, a < 14 → ∀ b, b < 14 → a ≠ b → (TX6 a).2.1 ≠ (TX6 b).2.1 := by decide +kernel
theorem tyX6_ok : ∀ k, k < 14 → parseFieldDescriptor (TX6 k).2.2.1 = some (tyX6 k) := by decide +kernel
abbrev cX6_init : ByteArray := prog_8_method_1_code
def yX6_init : MethodName := ⟨RX6, "<init>", "()V"⟩
abbrev cX6_thrown : ByteArray := prog_8_method_2_code
def yX6_thrown : MethodName := ⟨RX6, "thrown", "()I"⟩
abbrev cX6_in : ByteArray := prog_8_method_3_code
def yX6_in : MethodName := ⟨RX6, "in", "(III)Z"⟩
abbrev cX6_isPurse : ByteArray := prog_8_method_4_code
def yX6_isPurse : MethodName := ⟨RX6, "isPurse", "(I)Z"⟩
abbrev cX6_part : ByteArray := prog_8_method_5_code
def yX6_part : MethodName := ⟨RX6, "part", "(II)I"⟩
abbrev cX6_copy : ByteArray := prog_8_method_6_code
def yX6_copy : MethodName := ⟨RX6, "copy", "(II)V"⟩
abbrev cX6_lay : ByteArray := prog_8_method_7_code
def yX6_lay : MethodName := ⟨RX6, "lay", "(IIIIII)V"⟩
abbrev cX6_same : ByteArray := prog_8_method_8_code
def yX6_same : MethodName := ⟨RX6, "same", "(II)Z"⟩
abbrev cX6_isInLog : ByteArray := prog_8_method_9_code
def yX6_isInLog : MethodName := ⟨RX6, "isInLog", "(II)Z"⟩
abbrev cX6_isKept : ByteArray := prog_8_method_10_code
def yX6_isKept : MethodName := ⟨RX6, "isKept", "(III)Z"⟩
abbrev cX6_isRefunded : ByteArray := prog_8_method_11_code
def yX6_isRefunded : MethodName := ⟨RX6, "isRefunded", "(I)Z"⟩
abbrev cX6_send : ByteArray := prog_8_method_12_code
def yX6_send : MethodName := ⟨RX6, "send", "(III)V"⟩
abbrev cX6_endIt : ByteArray := prog_8_method_13_code
def yX6_endIt : MethodName := ⟨RX6, "endIt", "(I)V"⟩
abbrev cX6_waits : ByteArray := prog_8_method_14_code
def yX6_waits : MethodName := ⟨RX6, "waits", "(III)Z"⟩
abbrev cX6_takesBegin : ByteArray := prog_8_method_15_code
def yX6_takesBegin : MethodName := ⟨RX6, "takesBegin", "(IIZ)Z"⟩
abbrev cX6_takesOther : ByteArray := prog_8_method_16_code
def yX6_takesOther : MethodName := ⟨RX6, "takesOther", "(III)Z"⟩
abbrev cX6_takesRecord : ByteArray := prog_8_method_17_code
def yX6_takesRecord : MethodName := ⟨RX6, "takesRecord", "(I)Z"⟩
abbrev cX6_takesClearing : ByteArray := prog_8_method_18_code
def yX6_takesClearing : MethodName := ⟨RX6, "takesClearing", "(II)Z"⟩
abbrev cX6_purse : ByteArray := prog_8_method_19_code
def yX6_purse : MethodName := ⟨RX6, "purse", "(I)I"⟩
abbrev cX6_begin : ByteArray := prog_8_method_20_code
def yX6_begin : MethodName := ⟨RX6, "begin", "(III)I"⟩
abbrev cX6_deliver : ByteArray := prog_8_method_21_code
def yX6_deliver : MethodName := ⟨RX6, "deliver", "(I)Z"⟩
abbrev cX6_abort : ByteArray := prog_8_method_22_code
def yX6_abort : MethodName := ⟨RX6, "abort", "(I)I"⟩
abbrev cX6_readLog : ByteArray := prog_8_method_23_code
def yX6_readLog : MethodName := ⟨RX6, "readLog", "(I)I"⟩
abbrev cX6_authorise : ByteArray := prog_8_method_24_code
def yX6_authorise : MethodName := ⟨RX6, "authorise", "(I)I"⟩
abbrev cX6_refund : ByteArray := prog_8_method_25_code
def yX6_refund : MethodName := ⟨RX6, "refund", "(I)I"⟩
abbrev cX6_told : ByteArray := prog_8_method_26_code
def yX6_told : MethodName := ⟨RX6, "told", "(II)I"⟩
abbrev cX6_transfer : ByteArray := prog_8_method_27_code
def yX6_transfer : MethodName := ⟨RX6, "transfer", "(II)I"⟩
abbrev cX6_log : ByteArray := prog_8_method_28_code
def yX6_log : MethodName := ⟨RX6, "log", "(III)I"⟩
abbrev cX6_messages : ByteArray := prog_8_method_29_code
def yX6_messages : MethodName := ⟨RX6, "messages", "()I"⟩
abbrev cX6_message : ByteArray := prog_8_method_30_code
def yX6_message : MethodName := ⟨RX6, "message", "(II)I"⟩
abbrev cX6_entries : ByteArray := prog_8_method_31_code
def yX6_entries : MethodName := ⟨RX6, "entries", "()I"⟩
abbrev cX6_entry : ByteArray := prog_8_method_32_code
def yX6_entry : MethodName := ⟨RX6, "entry", "(II)I"⟩
abbrev cX6_balances : ByteArray := prog_8_method_33_code
def yX6_balances : MethodName := ⟨RX6, "balances", "()J"⟩
abbrev cX6_holds : ByteArray := prog_8_method_34_code
def yX6_holds : MethodName := ⟨RX6, "holds", "(II)Z"⟩
abbrev cX6_amountOf : ByteArray := prog_8_method_35_code
def yX6_amountOf : MethodName := ⟨RX6, "amountOf", "(II)J"⟩
abbrev cX6_pending : ByteArray := prog_8_method_36_code
def yX6_pending : MethodName := ⟨RX6, "pending", "()J"⟩
abbrev cX6_purses : ByteArray := prog_8_method_37_code
def yX6_purses : MethodName := ⟨RX6, "purses", "()I"⟩
def RJx145de : String := "java/io/Serializable"
def TJx145de : u_T := fun k => match k with
  | _ => ("", "", "", false)
def tyJx145de : Nat → FieldType := fun k => match k with
  | _ => .int
abbrev wsJx145de0 : List Cond := u_ws RJx145de TJx145de 0
theorem nmJx145de : ∀ a, a < 0 → ∀ b, b < 0 → a ≠ b → (TJx145de a).2.1 ≠ (TJx145de b).2.1 := by decide +kernel
theorem tyJx145de_ok : ∀ k, k < 0 → parseFieldDescriptor (TJx145de k).2.2.1 = some (tyJx145de k) := by decide +kernel
def RJx8e188 : String := "java/lang/Cloneable"
def TJx8e188 : u_T := fun k => match k with
  | _ => ("", "", "", false)
def tyJx8e188 : Nat → FieldType := fun k => match k with
  | _ => .int
abbrev wsJx8e1880 : List Cond := u_ws RJx8e188 TJx8e188 0
theorem nmJx8e188 : ∀ a, a < 0 → ∀ b, b < 0 → a ≠ b → (TJx8e188 a).2.1 ≠ (TJx8e188 b).2.1 := by decide +kernel
theorem tyJx8e188_ok : ∀ k, k < 0 → parseFieldDescriptor (TJx8e188 k).2.2.1 = some (tyJx8e188 k) := by decide +kernel
def RJxab1ab : String := "java/lang/Iterable"
def TJxab1ab : u_T := fun k => match k with
  | _ => ("", "", "", false)
def tyJxab1ab : Nat → FieldType := fun k => match k with
  | _ => .int
abbrev wsJxab1ab0 : List Cond := u_ws RJxab1ab TJxab1ab 0
theorem nmJxab1ab : ∀ a, a < 0 → ∀ b, b < 0 → a ≠ b → (TJxab1ab a).2.1 ≠ (TJxab1ab b).2.1 := by decide +kernel
theorem tyJxab1ab_ok : ∀ k, k < 0 → parseFieldDescriptor (TJxab1ab k).2.2.1 = some (tyJxab1ab k) := by decide +kernel
def RJ9 : String := "java/lang/Math"
def TJ9 : u_T := fun k => match k with
  | _ => ("", "", "", false)
def tyJ9 : Nat → FieldType := fun k => match k with
  | _ => .int
abbrev wsJ90 : List Cond := u_ws RJ9 TJ9 0
theorem nmJ9 : ∀ a, a < 0 → ∀ b, b < 0 → a ≠ b → (TJ9 a).2.1 ≠ (TJ9 b).2.1 := by decide +kernel
theorem tyJ9_ok : ∀ k, k < 0 → parseFieldDescriptor (TJ9 k).2.2.1 = some (tyJ9 k) := by decide +kernel
abbrev cJ9_max_7cf53 : ByteArray := prog_16_method_65_code
def yJ9_max_7cf53 : MethodName := ⟨RJ9, "max", "(II)I"⟩
abbrev cJ9_min_7cf53 : ByteArray := prog_16_method_69_code
def yJ9_min_7cf53 : MethodName := ⟨RJ9, "min", "(II)I"⟩
def RJ0 : String := "java/lang/String"
def TJ0 : u_T := fun k => match k with
  | _ => ("", "", "", false)
def tyJ0 : Nat → FieldType := fun k => match k with
  | _ => .int
abbrev wsJ00 : List Cond := u_ws RJ0 TJ0 0
theorem nmJ0 : ∀ a, a < 0 → ∀ b, b < 0 → a ≠ b → (TJ0 a).2.1 ≠ (TJ0 b).2.1 := by decide +kernel
theorem tyJ0_ok : ∀ k, k < 0 → parseFieldDescriptor (TJ0 k).2.2.1 = some (tyJ0 k) := by decide +kernel
def RJ10 : String := "java/lang/System"
def TJ10 : u_T := fun k => match k with
  | _ => ("", "", "", false)
def tyJ10 : Nat → FieldType := fun k => match k with
  | _ => .int
abbrev wsJ100 : List Cond := u_ws RJ10 TJ10 0
theorem nmJ10 : ∀ a, a < 0 → ∀ b, b < 0 → a ≠ b → (TJ10 a).2.1 ≠ (TJ10 b).2.1 := by decide +kernel
theorem tyJ10_ok : ∀ k, k < 0 → parseFieldDescriptor (TJ10 k).2.2.1 = some (tyJ10 k) := by decide +kernel
def RJxa1e45 : String := "java/util/AbstractCollection"
def TJxa1e45 : u_T := fun k => match k with
  | _ => ("", "", "", false)
def tyJxa1e45 : Nat → FieldType := fun k => match k with
  | _ => .int
abbrev wsJxa1e450 : List Cond := u_ws RJxa1e45 TJxa1e45 0
theorem nmJxa1e45 : ∀ a, a < 0 → ∀ b, b < 0 → a ≠ b → (TJxa1e45 a).2.1 ≠ (TJxa1e45 b).2.1 := by decide +kernel
theorem tyJxa1e45_ok : ∀ k, k < 0 → parseFieldDescriptor (TJxa1e45 k).2.2.1 = some (tyJxa1e45 k) := by decide +kernel
abbrev cJxa1e45_init_da8c8 : ByteArray := prog_22_method_1_code
def yJxa1e45_init_da8c8 : MethodName := ⟨RJxa1e45, "<init>", "()V"⟩
def RJxc12de : String := "java/util/AbstractList"
def TJxc12de : u_T := fun k => match k with
  | _ => ("", "", "", false)
def tyJxc12de : Nat → FieldType := fun k => match k with
  | _ => .int
abbrev wsJxc12de0 : List Cond := u_ws RJxc12de TJxc12de 0
theorem nmJxc12de : ∀ a, a < 0 → ∀ b, b < 0 → a ≠ b → (TJxc12de a).2.1 ≠ (TJxc12de b).2.1 := by decide +kernel
theorem tyJxc12de_ok : ∀ k, k < 0 → parseFieldDescriptor (TJxc12de k).2.2.1 = some (tyJxc12de k) := by decide +kernel
abbrev cJxc12de_init_da8c8 : ByteArray := prog_23_method_1_code
def yJxc12de_init_da8c8 : MethodName := ⟨RJxc12de, "<init>", "()V"⟩
def RJx4a65c : String := "java/util/ArrayList"
def TJx4a65c : u_T := fun k => match k with
  | 0 => ("java/util/AbstractList", "modCount", "I", false)
  | 1 => ("java/util/ArrayList", "elementData", "[Ljava/lang/Object;", false)
  | _ => ("java/util/ArrayList", "size", "I", false)
def tyJx4a65c : Nat → FieldType := fun k => match k with
  | 0 => .int
  | 1 => .array (.object "java/lang/Object")
  | _ => .int
abbrev wsJx4a65c0 : List Cond := u_ws RJx4a65c TJx4a65c 3
theorem nmJx4a65c : ∀ a, a < 3 → ∀ b, b < 3 → a ≠ b → (TJx4a65c a).2.1 ≠ (TJx4a65c b).2.1 := by decide +kernel
theorem tyJx4a65c_ok : ∀ k, k < 3 → parseFieldDescriptor (TJx4a65c k).2.2.1 = some (tyJx4a65c k) := by decide +kernel
abbrev cJx4a65c_init_da8c8 : ByteArray := prog_24_method_2_code
def yJx4a65c_init_da8c8 : MethodName := ⟨RJx4a65c, "<init>", "()V"⟩
abbrev cJx4a65c_grow_92f84 : ByteArray := prog_24_method_6_code
def yJx4a65c_grow_92f84 : MethodName := ⟨RJx4a65c, "grow", "(I)[Ljava/lang/Object;"⟩
abbrev cJx4a65c_grow_d5877 : ByteArray := prog_24_method_7_code
def yJx4a65c_grow_d5877 : MethodName := ⟨RJx4a65c, "grow", "()[Ljava/lang/Object;"⟩
abbrev cJx4a65c_size_8abf5 : ByteArray := prog_24_method_8_code
def yJx4a65c_size_8abf5 : MethodName := ⟨RJx4a65c, "size", "()I"⟩
abbrev cJx4a65c_isEmpty_aae02 : ByteArray := prog_24_method_9_code
def yJx4a65c_isEmpty_aae02 : MethodName := ⟨RJx4a65c, "isEmpty", "()Z"⟩
abbrev cJx4a65c_elementData_915e3 : ByteArray := prog_24_method_18_code
def yJx4a65c_elementData_915e3 : MethodName := ⟨RJx4a65c, "elementData", "(I)Ljava/lang/Object;"⟩
abbrev cJx4a65c_get_915e3 : ByteArray := prog_24_method_20_code
def yJx4a65c_get_915e3 : MethodName := ⟨RJx4a65c, "get", "(I)Ljava/lang/Object;"⟩
abbrev cJx4a65c_add_72be8 : ByteArray := prog_24_method_24_code
def yJx4a65c_add_72be8 : MethodName := ⟨RJx4a65c, "add", "(Ljava/lang/Object;[Ljava/lang/Object;I)V"⟩
abbrev cJx4a65c_add_9ea2d : ByteArray := prog_24_method_25_code
def yJx4a65c_add_9ea2d : MethodName := ⟨RJx4a65c, "add", "(Ljava/lang/Object;)Z"⟩
abbrev cJx4a65c_clear_da8c8 : ByteArray := prog_24_method_40_code
def yJx4a65c_clear_da8c8 : MethodName := ⟨RJx4a65c, "clear", "()V"⟩
def RJ7 : String := "java/util/Arrays"
def TJ7 : u_T := fun k => match k with
  | _ => ("", "", "", false)
def tyJ7 : Nat → FieldType := fun k => match k with
  | _ => .int
abbrev wsJ70 : List Cond := u_ws RJ7 TJ7 0
theorem nmJ7 : ∀ a, a < 0 → ∀ b, b < 0 → a ≠ b → (TJ7 a).2.1 ≠ (TJ7 b).2.1 := by decide +kernel
theorem tyJ7_ok : ∀ k, k < 0 → parseFieldDescriptor (TJ7 k).2.2.1 = some (tyJ7 k) := by decide +kernel
abbrev cJ7_copyOf_1904c : ByteArray := prog_25_method_119_code
def yJ7_copyOf_1904c : MethodName := ⟨RJ7, "copyOf", "([Ljava/lang/Object;I)[Ljava/lang/Object;"⟩
abbrev cJ7_copyOf_6403c : ByteArray := prog_25_method_120_code
def yJ7_copyOf_6403c : MethodName := ⟨RJ7, "copyOf", "([Ljava/lang/Object;ILjava/lang/Class;)[Ljava/lang/Object;"⟩
def RJx5ef63 : String := "java/util/Collection"
def TJx5ef63 : u_T := fun k => match k with
  | _ => ("", "", "", false)
def tyJx5ef63 : Nat → FieldType := fun k => match k with
  | _ => .int
abbrev wsJx5ef630 : List Cond := u_ws RJx5ef63 TJx5ef63 0
theorem nmJx5ef63 : ∀ a, a < 0 → ∀ b, b < 0 → a ≠ b → (TJx5ef63 a).2.1 ≠ (TJx5ef63 b).2.1 := by decide +kernel
theorem tyJx5ef63_ok : ∀ k, k < 0 → parseFieldDescriptor (TJx5ef63 k).2.2.1 = some (tyJx5ef63 k) := by decide +kernel
def RJxbd725 : String := "java/util/List"
def TJxbd725 : u_T := fun k => match k with
  | _ => ("", "", "", false)
def tyJxbd725 : Nat → FieldType := fun k => match k with
  | _ => .int
abbrev wsJxbd7250 : List Cond := u_ws RJxbd725 TJxbd725 0
theorem nmJxbd725 : ∀ a, a < 0 → ∀ b, b < 0 → a ≠ b → (TJxbd725 a).2.1 ≠ (TJxbd725 b).2.1 := by decide +kernel
theorem tyJxbd725_ok : ∀ k, k < 0 → parseFieldDescriptor (TJxbd725 k).2.2.1 = some (tyJxbd725 k) := by decide +kernel
def RJ15 : String := "java/util/Objects"
def TJ15 : u_T := fun k => match k with
  | _ => ("", "", "", false)
def tyJ15 : Nat → FieldType := fun k => match k with
  | _ => .int
abbrev wsJ150 : List Cond := u_ws RJ15 TJ15 0
theorem nmJ15 : ∀ a, a < 0 → ∀ b, b < 0 → a ≠ b → (TJ15 a).2.1 ≠ (TJ15 b).2.1 := by decide +kernel
theorem tyJ15_ok : ∀ k, k < 0 → parseFieldDescriptor (TJ15 k).2.2.1 = some (tyJ15 k) := by decide +kernel
abbrev cJ15_checkIndex_7cf53 : ByteArray := prog_28_method_17_code
def yJ15_checkIndex_7cf53 : MethodName := ⟨RJ15, "checkIndex", "(II)I"⟩
def RJxf0a74 : String := "java/util/RandomAccess"
def TJxf0a74 : u_T := fun k => match k with
  | _ => ("", "", "", false)
def tyJxf0a74 : Nat → FieldType := fun k => match k with
  | _ => .int
abbrev wsJxf0a740 : List Cond := u_ws RJxf0a74 TJxf0a74 0
theorem nmJxf0a74 : ∀ a, a < 0 → ∀ b, b < 0 → a ≠ b → (TJxf0a74 a).2.1 ≠ (TJxf0a74 b).2.1 := by decide +kernel
theorem tyJxf0a74_ok : ∀ k, k < 0 → parseFieldDescriptor (TJxf0a74 k).2.2.1 = some (tyJxf0a74 k) := by decide +kernel
def RJxa66e6 : String := "java/util/SequencedCollection"
def TJxa66e6 : u_T := fun k => match k with
  | _ => ("", "", "", false)
def tyJxa66e6 : Nat → FieldType := fun k => match k with
  | _ => .int
abbrev wsJxa66e60 : List Cond := u_ws RJxa66e6 TJxa66e6 0
theorem nmJxa66e6 : ∀ a, a < 0 → ∀ b, b < 0 → a ≠ b → (TJxa66e6 a).2.1 ≠ (TJxa66e6 b).2.1 := by decide +kernel
theorem tyJxa66e6_ok : ∀ k, k < 0 → parseFieldDescriptor (TJxa66e6 k).2.2.1 = some (tyJxa66e6 k) := by decide +kernel
def RJ8 : String := "jdk/internal/util/ArraysSupport"
def TJ8 : u_T := fun k => match k with
  | _ => ("", "", "", false)
def tyJ8 : Nat → FieldType := fun k => match k with
  | _ => .int
abbrev wsJ80 : List Cond := u_ws RJ8 TJ8 0
theorem nmJ8 : ∀ a, a < 0 → ∀ b, b < 0 → a ≠ b → (TJ8 a).2.1 ≠ (TJ8 b).2.1 := by decide +kernel
theorem tyJ8_ok : ∀ k, k < 0 → parseFieldDescriptor (TJ8 k).2.2.1 = some (tyJ8 k) := by decide +kernel
abbrev cJ8_newLength_cabcc : ByteArray := prog_31_method_27_code
def yJ8_newLength_cabcc : MethodName := ⟨RJ8, "newLength", "(III)I"⟩
abbrev cJ8_hugeLength_7cf53 : ByteArray := prog_31_method_28_code
def yJ8_hugeLength_7cf53 : MethodName := ⟨RJ8, "hugeLength", "(II)I"⟩
def RJ3 : String := "jdk/internal/util/Preconditions"
def TJ3 : u_T := fun k => match k with
  | _ => ("", "", "", false)
def tyJ3 : Nat → FieldType := fun k => match k with
  | _ => .int
abbrev wsJ30 : List Cond := u_ws RJ3 TJ3 0
theorem nmJ3 : ∀ a, a < 0 → ∀ b, b < 0 → a ≠ b → (TJ3 a).2.1 ≠ (TJ3 b).2.1 := by decide +kernel
theorem tyJ3_ok : ∀ k, k < 0 → parseFieldDescriptor (TJ3 k).2.2.1 = some (tyJ3 k) := by decide +kernel
abbrev cJ3_checkIndex_8e157 : ByteArray := prog_32_method_11_code
def yJ3_checkIndex_8e157 : MethodName := ⟨RJ3, "checkIndex", "(IILjava/util/function/BiFunction;)I"⟩
def RL : String := "PurseWorldLaw"
abbrev cL_purse : ByteArray := method_3_code
def yL_purse : MethodName := ⟨RL, "purse", "(LPurseWorld;I[J)I"⟩
abbrev cL_begin : ByteArray := method_4_code
def yL_begin : MethodName := ⟨RL, "begin", "(LPurseWorld;III[J)I"⟩
abbrev cL_deliver : ByteArray := method_5_code
def yL_deliver : MethodName := ⟨RL, "deliver", "(LPurseWorld;I[J)I"⟩
abbrev cL_abort : ByteArray := method_6_code
def yL_abort : MethodName := ⟨RL, "abort", "(LPurseWorld;I[J)I"⟩
abbrev cL_readLog : ByteArray := method_7_code
def yL_readLog : MethodName := ⟨RL, "readLog", "(LPurseWorld;I[J)I"⟩
abbrev cL_authorise : ByteArray := method_8_code
def yL_authorise : MethodName := ⟨RL, "authorise", "(LPurseWorld;I[J)I"⟩
abbrev cL_refund : ByteArray := method_9_code
def yL_refund : MethodName := ⟨RL, "refund", "(LPurseWorld;I[J)I"⟩
abbrev cL_told : ByteArray := method_10_code
def yL_told : MethodName := ⟨RL, "told", "(LPurseWorld;II[J)I"⟩
abbrev cL_transfer : ByteArray := method_11_code
def yL_transfer : MethodName := ⟨RL, "transfer", "(LPurseWorld;II[J)I"⟩
abbrev cL_log : ByteArray := method_12_code
def yL_log : MethodName := ⟨RL, "log", "(LPurseWorld;III[J)I"⟩
abbrev cL_message : ByteArray := method_13_code
def yL_message : MethodName := ⟨RL, "message", "(LPurseWorld;II[J)I"⟩
abbrev cL_entry : ByteArray := method_14_code
def yL_entry : MethodName := ⟨RL, "entry", "(LPurseWorld;II[J)I"⟩
abbrev cL_law : ByteArray := code
def yL_law : MethodName := ⟨RL, "law", "([I)Z"⟩
def wsJxa1e45_init_da8c8 : List Cond := .code yJxa1e45_init_da8c8 cJxa1e45_init_da8c8 1 none :: ([.methodLink RJxa1e45 1 objectInit, .instanceMethod objectInit, .code objectInit ⟨#[0xb1]⟩ 1 none])
def wsJxc12de_init_da8c8 : List Cond := .code yJxc12de_init_da8c8 cJxc12de_init_da8c8 1 none :: ([.fieldLink RJxc12de 7 "java/util/AbstractList" "modCount" "I", .methodLink RJxc12de 1 yJxa1e45_init_da8c8, .instanceMethod yJxa1e45_init_da8c8, .initialized RJxa1e45, .code yJxa1e45_init_da8c8 cJxa1e45_init_da8c8 1 none, .methodLink RJxa1e45 1 objectInit, .instanceMethod objectInit, .code objectInit ⟨#[0xb1]⟩ 1 none] ++ wsJx4a65c0)
def wsJx4a65c_init_da8c8 : List Cond := .code yJx4a65c_init_da8c8 cJx4a65c_init_da8c8 1 none :: ([.fieldLink RJx4a65c 39 "java/util/ArrayList" "DEFAULTCAPACITY_EMPTY_ELEMENTDATA" "[Ljava/lang/Object;", .fieldLink RJx4a65c 9 "java/util/ArrayList" "elementData" "[Ljava/lang/Object;", .methodLink RJx4a65c 1 yJxc12de_init_da8c8, .instanceMethod yJxc12de_init_da8c8, .initialized RJxc12de, .code yJxc12de_init_da8c8 cJxc12de_init_da8c8 1 none, .fieldLink RJxc12de 7 "java/util/AbstractList" "modCount" "I", .methodLink RJxc12de 1 yJxa1e45_init_da8c8, .instanceMethod yJxa1e45_init_da8c8, .initialized RJxa1e45, .code yJxa1e45_init_da8c8 cJxa1e45_init_da8c8 1 none, .methodLink RJxa1e45 1 objectInit, .instanceMethod objectInit, .code objectInit ⟨#[0xb1]⟩ 1 none] ++ wsJx4a65c0)
def wsX0_init : List Cond := .code yX0_init cX0_init 1 none :: ([.methodLink RX0 1 objectInit, .instanceMethod objectInit, .code objectInit ⟨#[0xb1]⟩ 1 none, .classLink RX0 7 RJx4a65c, .instantiable RJx4a65c 3, .initialized RJx4a65c, .fieldLink RX0 10 "PurseWorld$Archive" "rows" "Ljava/util/ArrayList;", .methodLink RX0 9 yJx4a65c_init_da8c8, .instanceMethod yJx4a65c_init_da8c8, .code yJx4a65c_init_da8c8 cJx4a65c_init_da8c8 1 none, .fieldLink RJx4a65c 39 "java/util/ArrayList" "DEFAULTCAPACITY_EMPTY_ELEMENTDATA" "[Ljava/lang/Object;", .fieldLink RJx4a65c 9 "java/util/ArrayList" "elementData" "[Ljava/lang/Object;", .methodLink RJx4a65c 1 yJxc12de_init_da8c8, .instanceMethod yJxc12de_init_da8c8, .initialized RJxc12de, .code yJxc12de_init_da8c8 cJxc12de_init_da8c8 1 none, .fieldLink RJxc12de 7 "java/util/AbstractList" "modCount" "I", .methodLink RJxc12de 1 yJxa1e45_init_da8c8, .instanceMethod yJxa1e45_init_da8c8, .initialized RJxa1e45, .code yJxa1e45_init_da8c8 cJxa1e45_init_da8c8 1 none, .methodLink RJxa1e45 1 objectInit] ++ wsJx4a65c0 ++ wsX00)
def wsJx4a65c_size_8abf5 : List Cond := .code yJx4a65c_size_8abf5 cJx4a65c_size_8abf5 1 (some .int) :: ([.fieldLink RJx4a65c 48 "java/util/ArrayList" "size" "I"] ++ wsJx4a65c0)
def wsX0_size : List Cond := .code yX0_size cX0_size 1 (some .int) :: ([.fieldLink RX0 10 "PurseWorld$Archive" "rows" "Ljava/util/ArrayList;", .methodLink RX0 16 yJx4a65c_size_8abf5, .instanceMethod yJx4a65c_size_8abf5, .selects RJx4a65c yJx4a65c_size_8abf5 yJx4a65c_size_8abf5, .initialized RJx4a65c, .code yJx4a65c_size_8abf5 cJx4a65c_size_8abf5 1 (some .int), .fieldLink RJx4a65c 48 "java/util/ArrayList" "size" "I"] ++ wsX00 ++ wsJx4a65c0)
def wsJ3_checkIndex_8e157 : List Cond := .code yJ3_checkIndex_8e157 cJ3_checkIndex_8e157 3 (some .int) :: ([])
def wsJ15_checkIndex_7cf53 : List Cond := .code yJ15_checkIndex_7cf53 cJ15_checkIndex_7cf53 2 (some .int) :: ([.methodLink RJ15 105 yJ3_checkIndex_8e157, .static yJ3_checkIndex_8e157, .initialized RJ3, .code yJ3_checkIndex_8e157 cJ3_checkIndex_8e157 3 (some .int)])
def wsJx4a65c_elementData_915e3 : List Cond := .code yJx4a65c_elementData_915e3 cJx4a65c_elementData_915e3 2 (some (.object "java/lang/Object")) :: ([.fieldLink RJx4a65c 9 "java/util/ArrayList" "elementData" "[Ljava/lang/Object;"] ++ wsJx4a65c0)
def wsJx4a65c_get_915e3 : List Cond := .code yJx4a65c_get_915e3 cJx4a65c_get_915e3 2 (some (.object "java/lang/Object")) :: ([.fieldLink RJx4a65c 48 "java/util/ArrayList" "size" "I", .methodLink RJx4a65c 118 yJ15_checkIndex_7cf53, .static yJ15_checkIndex_7cf53, .initialized RJ15, .code yJ15_checkIndex_7cf53 cJ15_checkIndex_7cf53 2 (some .int), .methodLink RJ15 105 yJ3_checkIndex_8e157, .static yJ3_checkIndex_8e157, .initialized RJ3, .code yJ3_checkIndex_8e157 cJ3_checkIndex_8e157 3 (some .int), .methodLink RJx4a65c 123 yJx4a65c_elementData_915e3, .instanceMethod yJx4a65c_elementData_915e3, .selects RJx4a65c yJx4a65c_elementData_915e3 yJx4a65c_elementData_915e3, .initialized RJx4a65c, .code yJx4a65c_elementData_915e3 cJx4a65c_elementData_915e3 2 (some (.object "java/lang/Object")), .fieldLink RJx4a65c 9 "java/util/ArrayList" "elementData" "[Ljava/lang/Object;"] ++ wsJx4a65c0)
def wsX4_same : List Cond := .code yX4_same cX4_same 2 (some .boolean) :: ([.fieldLink RX4 7 "PurseWorld$Transfer" "payer" "I", .fieldLink RX4 13 "PurseWorld$Transfer" "payerSerial" "I", .fieldLink RX4 16 "PurseWorld$Transfer" "payee" "I", .fieldLink RX4 19 "PurseWorld$Transfer" "payeeSerial" "I", .fieldLink RX4 22 "PurseWorld$Transfer" "amount" "I"] ++ wsX40)
def wsX0_hadAmong_r1 : List Cond := [Cond.fieldLink RX0 10 "PurseWorld$Archive" "rows" "Ljava/util/ArrayList;", Cond.classLink RX0 24 "PurseWorld$Entry", Cond.fieldLink RX0 26 "PurseWorld$Entry" "teller" "I", Cond.fieldLink RX0 30 "PurseWorld$Entry" "terms" "LPurseWorld$Transfer;", Cond.methodLink RX0 16 yJx4a65c_size_8abf5, Cond.instanceMethod yJx4a65c_size_8abf5, Cond.selects RJx4a65c yJx4a65c_size_8abf5 yJx4a65c_size_8abf5, Cond.initialized RJx4a65c, Cond.code yJx4a65c_size_8abf5 cJx4a65c_size_8abf5 1 (some .int), Cond.fieldLink RJx4a65c 48 "java/util/ArrayList" "size" "I", Cond.methodLink RX0 20 yJx4a65c_get_915e3, Cond.instanceMethod yJx4a65c_get_915e3, Cond.selects RJx4a65c yJx4a65c_get_915e3 yJx4a65c_get_915e3, Cond.code yJx4a65c_get_915e3 cJx4a65c_get_915e3 2 (some (.object "java/lang/Object")), Cond.methodLink RJx4a65c 118 yJ15_checkIndex_7cf53, Cond.static yJ15_checkIndex_7cf53, Cond.initialized RJ15, Cond.code yJ15_checkIndex_7cf53 cJ15_checkIndex_7cf53 2 (some .int), Cond.methodLink RJ15 105 yJ3_checkIndex_8e157, Cond.static yJ3_checkIndex_8e157, Cond.initialized RJ3, Cond.code yJ3_checkIndex_8e157 cJ3_checkIndex_8e157 3 (some .int), Cond.methodLink RJx4a65c 123 yJx4a65c_elementData_915e3, Cond.instanceMethod yJx4a65c_elementData_915e3]
def wsX0_hadAmong_r2 : List Cond := [Cond.selects RJx4a65c yJx4a65c_elementData_915e3 yJx4a65c_elementData_915e3, Cond.code yJx4a65c_elementData_915e3 cJx4a65c_elementData_915e3 2 (some (.object "java/lang/Object")), Cond.fieldLink RJx4a65c 9 "java/util/ArrayList" "elementData" "[Ljava/lang/Object;", Cond.methodLink RX0 34 yX4_same, Cond.instanceMethod yX4_same, Cond.selects RX4 yX4_same yX4_same, Cond.initialized RX4, Cond.code yX4_same cX4_same 2 (some .boolean), Cond.fieldLink RX4 7 "PurseWorld$Transfer" "payer" "I", Cond.fieldLink RX4 13 "PurseWorld$Transfer" "payerSerial" "I", Cond.fieldLink RX4 16 "PurseWorld$Transfer" "payee" "I", Cond.fieldLink RX4 19 "PurseWorld$Transfer" "payeeSerial" "I", Cond.fieldLink RX4 22 "PurseWorld$Transfer" "amount" "I"]
def wsX0_hadAmong : List Cond := .code yX0_hadAmong cX0_hadAmong 6 (some .boolean) :: ((wsX0_hadAmong_r1 ++ wsX0_hadAmong_r2) ++ wsX00 ++ wsX10 ++ wsJx4a65c0 ++ wsX40)
def wsX0_has_r1 : List Cond := [Cond.fieldLink RX0 10 "PurseWorld$Archive" "rows" "Ljava/util/ArrayList;", Cond.methodLink RX0 16 yJx4a65c_size_8abf5, Cond.instanceMethod yJx4a65c_size_8abf5, Cond.selects RJx4a65c yJx4a65c_size_8abf5 yJx4a65c_size_8abf5, Cond.initialized RJx4a65c, Cond.code yJx4a65c_size_8abf5 cJx4a65c_size_8abf5 1 (some .int), Cond.fieldLink RJx4a65c 48 "java/util/ArrayList" "size" "I", Cond.methodLink RX0 40 yX0_hadAmong, Cond.instanceMethod yX0_hadAmong, Cond.selects RX0 yX0_hadAmong yX0_hadAmong, Cond.initialized RX0, Cond.code yX0_hadAmong cX0_hadAmong 6 (some .boolean), Cond.classLink RX0 24 "PurseWorld$Entry", Cond.fieldLink RX0 26 "PurseWorld$Entry" "teller" "I", Cond.fieldLink RX0 30 "PurseWorld$Entry" "terms" "LPurseWorld$Transfer;", Cond.methodLink RX0 20 yJx4a65c_get_915e3, Cond.instanceMethod yJx4a65c_get_915e3, Cond.selects RJx4a65c yJx4a65c_get_915e3 yJx4a65c_get_915e3, Cond.code yJx4a65c_get_915e3 cJx4a65c_get_915e3 2 (some (.object "java/lang/Object")), Cond.methodLink RJx4a65c 118 yJ15_checkIndex_7cf53, Cond.static yJ15_checkIndex_7cf53, Cond.initialized RJ15, Cond.code yJ15_checkIndex_7cf53 cJ15_checkIndex_7cf53 2 (some .int), Cond.methodLink RJ15 105 yJ3_checkIndex_8e157]
def wsX0_has_r2 : List Cond := [Cond.static yJ3_checkIndex_8e157, Cond.initialized RJ3, Cond.code yJ3_checkIndex_8e157 cJ3_checkIndex_8e157 3 (some .int), Cond.methodLink RJx4a65c 123 yJx4a65c_elementData_915e3, Cond.instanceMethod yJx4a65c_elementData_915e3, Cond.selects RJx4a65c yJx4a65c_elementData_915e3 yJx4a65c_elementData_915e3, Cond.code yJx4a65c_elementData_915e3 cJx4a65c_elementData_915e3 2 (some (.object "java/lang/Object")), Cond.fieldLink RJx4a65c 9 "java/util/ArrayList" "elementData" "[Ljava/lang/Object;", Cond.methodLink RX0 34 yX4_same, Cond.instanceMethod yX4_same, Cond.selects RX4 yX4_same yX4_same, Cond.initialized RX4, Cond.code yX4_same cX4_same 2 (some .boolean), Cond.fieldLink RX4 7 "PurseWorld$Transfer" "payer" "I", Cond.fieldLink RX4 13 "PurseWorld$Transfer" "payerSerial" "I", Cond.fieldLink RX4 16 "PurseWorld$Transfer" "payee" "I", Cond.fieldLink RX4 19 "PurseWorld$Transfer" "payeeSerial" "I", Cond.fieldLink RX4 22 "PurseWorld$Transfer" "amount" "I"]
def wsX0_has : List Cond := .code yX0_has cX0_has 3 (some .boolean) :: ((wsX0_has_r1 ++ wsX0_has_r2) ++ wsX00 ++ wsJx4a65c0 ++ wsX10 ++ wsX40)
def wsX0_hasAnyOf_r1 : List Cond := [Cond.fieldLink RX0 10 "PurseWorld$Archive" "rows" "Ljava/util/ArrayList;", Cond.classLink RX0 24 "PurseWorld$Entry", Cond.fieldLink RX0 26 "PurseWorld$Entry" "teller" "I", Cond.methodLink RX0 16 yJx4a65c_size_8abf5, Cond.instanceMethod yJx4a65c_size_8abf5, Cond.selects RJx4a65c yJx4a65c_size_8abf5 yJx4a65c_size_8abf5, Cond.initialized RJx4a65c, Cond.code yJx4a65c_size_8abf5 cJx4a65c_size_8abf5 1 (some .int), Cond.fieldLink RJx4a65c 48 "java/util/ArrayList" "size" "I", Cond.methodLink RX0 20 yJx4a65c_get_915e3, Cond.instanceMethod yJx4a65c_get_915e3, Cond.selects RJx4a65c yJx4a65c_get_915e3 yJx4a65c_get_915e3, Cond.code yJx4a65c_get_915e3 cJx4a65c_get_915e3 2 (some (.object "java/lang/Object")), Cond.methodLink RJx4a65c 118 yJ15_checkIndex_7cf53, Cond.static yJ15_checkIndex_7cf53, Cond.initialized RJ15, Cond.code yJ15_checkIndex_7cf53 cJ15_checkIndex_7cf53 2 (some .int), Cond.methodLink RJ15 105 yJ3_checkIndex_8e157, Cond.static yJ3_checkIndex_8e157, Cond.initialized RJ3, Cond.code yJ3_checkIndex_8e157 cJ3_checkIndex_8e157 3 (some .int), Cond.methodLink RJx4a65c 123 yJx4a65c_elementData_915e3, Cond.instanceMethod yJx4a65c_elementData_915e3, Cond.selects RJx4a65c yJx4a65c_elementData_915e3 yJx4a65c_elementData_915e3]
def wsX0_hasAnyOf_r2 : List Cond := [Cond.code yJx4a65c_elementData_915e3 cJx4a65c_elementData_915e3 2 (some (.object "java/lang/Object")), Cond.fieldLink RJx4a65c 9 "java/util/ArrayList" "elementData" "[Ljava/lang/Object;"]
def wsX0_hasAnyOf : List Cond := .code yX0_hasAnyOf cX0_hasAnyOf 3 (some .boolean) :: ((wsX0_hasAnyOf_r1 ++ wsX0_hasAnyOf_r2) ++ wsX00 ++ wsX10 ++ wsJx4a65c0)
def wsX0_hasRefunded_r1 : List Cond := [Cond.fieldLink RX0 10 "PurseWorld$Archive" "rows" "Ljava/util/ArrayList;", Cond.classLink RX0 24 "PurseWorld$Entry", Cond.fieldLink RX0 44 "PurseWorld$Entry" "refunded" "Z", Cond.fieldLink RX0 30 "PurseWorld$Entry" "terms" "LPurseWorld$Transfer;", Cond.methodLink RX0 16 yJx4a65c_size_8abf5, Cond.instanceMethod yJx4a65c_size_8abf5, Cond.selects RJx4a65c yJx4a65c_size_8abf5 yJx4a65c_size_8abf5, Cond.initialized RJx4a65c, Cond.code yJx4a65c_size_8abf5 cJx4a65c_size_8abf5 1 (some .int), Cond.fieldLink RJx4a65c 48 "java/util/ArrayList" "size" "I", Cond.methodLink RX0 20 yJx4a65c_get_915e3, Cond.instanceMethod yJx4a65c_get_915e3, Cond.selects RJx4a65c yJx4a65c_get_915e3 yJx4a65c_get_915e3, Cond.code yJx4a65c_get_915e3 cJx4a65c_get_915e3 2 (some (.object "java/lang/Object")), Cond.methodLink RJx4a65c 118 yJ15_checkIndex_7cf53, Cond.static yJ15_checkIndex_7cf53, Cond.initialized RJ15, Cond.code yJ15_checkIndex_7cf53 cJ15_checkIndex_7cf53 2 (some .int), Cond.methodLink RJ15 105 yJ3_checkIndex_8e157, Cond.static yJ3_checkIndex_8e157, Cond.initialized RJ3, Cond.code yJ3_checkIndex_8e157 cJ3_checkIndex_8e157 3 (some .int), Cond.methodLink RJx4a65c 123 yJx4a65c_elementData_915e3, Cond.instanceMethod yJx4a65c_elementData_915e3]
def wsX0_hasRefunded_r2 : List Cond := [Cond.selects RJx4a65c yJx4a65c_elementData_915e3 yJx4a65c_elementData_915e3, Cond.code yJx4a65c_elementData_915e3 cJx4a65c_elementData_915e3 2 (some (.object "java/lang/Object")), Cond.fieldLink RJx4a65c 9 "java/util/ArrayList" "elementData" "[Ljava/lang/Object;", Cond.methodLink RX0 34 yX4_same, Cond.instanceMethod yX4_same, Cond.selects RX4 yX4_same yX4_same, Cond.initialized RX4, Cond.code yX4_same cX4_same 2 (some .boolean), Cond.fieldLink RX4 7 "PurseWorld$Transfer" "payer" "I", Cond.fieldLink RX4 13 "PurseWorld$Transfer" "payerSerial" "I", Cond.fieldLink RX4 16 "PurseWorld$Transfer" "payee" "I", Cond.fieldLink RX4 19 "PurseWorld$Transfer" "payeeSerial" "I", Cond.fieldLink RX4 22 "PurseWorld$Transfer" "amount" "I"]
def wsX0_hasRefunded : List Cond := .code yX0_hasRefunded cX0_hasRefunded 4 (some .boolean) :: ((wsX0_hasRefunded_r1 ++ wsX0_hasRefunded_r2) ++ wsX00 ++ wsX10 ++ wsJx4a65c0 ++ wsX40)
def wsX0_markRefunded_r1 : List Cond := [Cond.fieldLink RX0 10 "PurseWorld$Archive" "rows" "Ljava/util/ArrayList;", Cond.classLink RX0 24 "PurseWorld$Entry", Cond.fieldLink RX0 30 "PurseWorld$Entry" "terms" "LPurseWorld$Transfer;", Cond.fieldLink RX0 44 "PurseWorld$Entry" "refunded" "Z", Cond.methodLink RX0 16 yJx4a65c_size_8abf5, Cond.instanceMethod yJx4a65c_size_8abf5, Cond.selects RJx4a65c yJx4a65c_size_8abf5 yJx4a65c_size_8abf5, Cond.initialized RJx4a65c, Cond.code yJx4a65c_size_8abf5 cJx4a65c_size_8abf5 1 (some .int), Cond.fieldLink RJx4a65c 48 "java/util/ArrayList" "size" "I", Cond.methodLink RX0 20 yJx4a65c_get_915e3, Cond.instanceMethod yJx4a65c_get_915e3, Cond.selects RJx4a65c yJx4a65c_get_915e3 yJx4a65c_get_915e3, Cond.code yJx4a65c_get_915e3 cJx4a65c_get_915e3 2 (some (.object "java/lang/Object")), Cond.methodLink RJx4a65c 118 yJ15_checkIndex_7cf53, Cond.static yJ15_checkIndex_7cf53, Cond.initialized RJ15, Cond.code yJ15_checkIndex_7cf53 cJ15_checkIndex_7cf53 2 (some .int), Cond.methodLink RJ15 105 yJ3_checkIndex_8e157, Cond.static yJ3_checkIndex_8e157, Cond.initialized RJ3, Cond.code yJ3_checkIndex_8e157 cJ3_checkIndex_8e157 3 (some .int), Cond.methodLink RJx4a65c 123 yJx4a65c_elementData_915e3, Cond.instanceMethod yJx4a65c_elementData_915e3]
def wsX0_markRefunded_r2 : List Cond := [Cond.selects RJx4a65c yJx4a65c_elementData_915e3 yJx4a65c_elementData_915e3, Cond.code yJx4a65c_elementData_915e3 cJx4a65c_elementData_915e3 2 (some (.object "java/lang/Object")), Cond.fieldLink RJx4a65c 9 "java/util/ArrayList" "elementData" "[Ljava/lang/Object;", Cond.methodLink RX0 34 yX4_same, Cond.instanceMethod yX4_same, Cond.selects RX4 yX4_same yX4_same, Cond.initialized RX4, Cond.code yX4_same cX4_same 2 (some .boolean), Cond.fieldLink RX4 7 "PurseWorld$Transfer" "payer" "I", Cond.fieldLink RX4 13 "PurseWorld$Transfer" "payerSerial" "I", Cond.fieldLink RX4 16 "PurseWorld$Transfer" "payee" "I", Cond.fieldLink RX4 19 "PurseWorld$Transfer" "payeeSerial" "I", Cond.fieldLink RX4 22 "PurseWorld$Transfer" "amount" "I"]
def wsX0_markRefunded : List Cond := .code yX0_markRefunded cX0_markRefunded 4 none :: ((wsX0_markRefunded_r1 ++ wsX0_markRefunded_r2) ++ wsX00 ++ wsX10 ++ wsJx4a65c0 ++ wsX40)
def wsX1_init : List Cond := .code yX1_init cX1_init 3 none :: ([.methodLink RX1 1 objectInit, .instanceMethod objectInit, .code objectInit ⟨#[0xb1]⟩ 1 none, .fieldLink RX1 7 "PurseWorld$Entry" "teller" "I", .fieldLink RX1 13 "PurseWorld$Entry" "terms" "LPurseWorld$Transfer;"] ++ wsX10)
def wsJ8_hugeLength_7cf53 : List Cond := .code yJ8_hugeLength_7cf53 cJ8_hugeLength_7cf53 3 (some .int) :: ([.constant RJ8 200 (2147483639)])
def wsJ8_newLength_cabcc : List Cond := .code yJ8_newLength_cabcc cJ8_newLength_cabcc 4 (some .int) :: ([.methodLink RJ8 194 Lib.Math.max.name, .static Lib.Math.max.name, .initialized "java/lang/Math", .code Lib.Math.max.name Lib.Math.max.code 2 (some .int), .constant RJ8 200 (2147483639), .methodLink RJ8 201 yJ8_hugeLength_7cf53, .static yJ8_hugeLength_7cf53, .initialized RJ8, .code yJ8_hugeLength_7cf53 cJ8_hugeLength_7cf53 3 (some .int)])
def wsJ7_copyOf_6403c : List Cond := .code yJ7_copyOf_6403c cJ7_copyOf_6403c 4 (some (.array (.object "java/lang/Object"))) :: ([.classLink RJ7 110 "[Ljava/lang/Object;", .classLink RJ7 2 "java/lang/Object", .methodLink RJ7 304 Lib.Math.min.name, .static Lib.Math.min.name, .initialized "java/lang/Math", .code Lib.Math.min.name Lib.Math.min.code 2 (some .int), .methodLink RJ7 150 arraycopyName, .native arraycopyName, .static arraycopyName, .initialized "java/lang/System"])
def wsJ7_copyOf_1904c : List Cond := .code yJ7_copyOf_1904c cJ7_copyOf_1904c 2 (some (.array (.object "java/lang/Object"))) :: ([.methodLink RJ7 86 ⟨"java/lang/Object", "getClass", "()Ljava/lang/Class;"⟩, .selects "[Ljava/lang/Object;" ⟨"java/lang/Object", "getClass", "()Ljava/lang/Class;"⟩ ⟨"java/lang/Object", "getClass", "()Ljava/lang/Class;"⟩, .instanceMethod ⟨"java/lang/Object", "getClass", "()Ljava/lang/Class;"⟩, .native ⟨"java/lang/Object", "getClass", "()Ljava/lang/Class;"⟩, .methodLink RJ7 300 yJ7_copyOf_6403c, .static yJ7_copyOf_6403c, .initialized RJ7, .code yJ7_copyOf_6403c cJ7_copyOf_6403c 4 (some (.array (.object "java/lang/Object"))), .classLink RJ7 110 "[Ljava/lang/Object;", .classLink RJ7 2 "java/lang/Object", .methodLink RJ7 304 Lib.Math.min.name, .static Lib.Math.min.name, .initialized "java/lang/Math", .code Lib.Math.min.name Lib.Math.min.code 2 (some .int), .methodLink RJ7 150 arraycopyName, .native arraycopyName, .static arraycopyName, .initialized "java/lang/System"])
def wsJx4a65c_grow_92f84_r1 : List Cond := [Cond.fieldLink RJx4a65c 9 "java/util/ArrayList" "elementData" "[Ljava/lang/Object;", Cond.fieldLink RJx4a65c 39 "java/util/ArrayList" "DEFAULTCAPACITY_EMPTY_ELEMENTDATA" "[Ljava/lang/Object;", Cond.methodLink RJx4a65c 79 Lib.Math.max.name, Cond.static Lib.Math.max.name, Cond.initialized "java/lang/Math", Cond.code Lib.Math.max.name Lib.Math.max.code 2 (some .int), Cond.classLink RJx4a65c 7 "java/lang/Object", Cond.methodLink RJx4a65c 73 yJ8_newLength_cabcc, Cond.static yJ8_newLength_cabcc, Cond.initialized RJ8, Cond.code yJ8_newLength_cabcc cJ8_newLength_cabcc 4 (some .int), Cond.methodLink RJ8 194 Lib.Math.max.name, Cond.constant RJ8 200 (2147483639), Cond.methodLink RJ8 201 yJ8_hugeLength_7cf53, Cond.static yJ8_hugeLength_7cf53, Cond.code yJ8_hugeLength_7cf53 cJ8_hugeLength_7cf53 3 (some .int), Cond.methodLink RJx4a65c 66 yJ7_copyOf_1904c, Cond.static yJ7_copyOf_1904c, Cond.initialized RJ7, Cond.code yJ7_copyOf_1904c cJ7_copyOf_1904c 2 (some (.array (.object "java/lang/Object"))), Cond.methodLink RJ7 86 ⟨"java/lang/Object", "getClass", "()Ljava/lang/Class;"⟩, Cond.selects "[Ljava/lang/Object;" ⟨"java/lang/Object", "getClass", "()Ljava/lang/Class;"⟩ ⟨"java/lang/Object", "getClass", "()Ljava/lang/Class;"⟩, Cond.instanceMethod ⟨"java/lang/Object", "getClass", "()Ljava/lang/Class;"⟩, Cond.native ⟨"java/lang/Object", "getClass", "()Ljava/lang/Class;"⟩]
def wsJx4a65c_grow_92f84_r2 : List Cond := [Cond.methodLink RJ7 300 yJ7_copyOf_6403c, Cond.static yJ7_copyOf_6403c, Cond.code yJ7_copyOf_6403c cJ7_copyOf_6403c 4 (some (.array (.object "java/lang/Object"))), Cond.classLink RJ7 110 "[Ljava/lang/Object;", Cond.classLink RJ7 2 "java/lang/Object", Cond.methodLink RJ7 304 Lib.Math.min.name, Cond.static Lib.Math.min.name, Cond.code Lib.Math.min.name Lib.Math.min.code 2 (some .int), Cond.methodLink RJ7 150 arraycopyName, Cond.native arraycopyName, Cond.static arraycopyName, Cond.initialized "java/lang/System"]
def wsJx4a65c_grow_92f84 : List Cond := .code yJx4a65c_grow_92f84 cJx4a65c_grow_92f84 4 (some (.array (.object "java/lang/Object"))) :: ((wsJx4a65c_grow_92f84_r1 ++ wsJx4a65c_grow_92f84_r2) ++ wsJx4a65c0)
def wsJx4a65c_grow_d5877_r1 : List Cond := [Cond.fieldLink RJx4a65c 48 "java/util/ArrayList" "size" "I", Cond.methodLink RJx4a65c 69 yJx4a65c_grow_92f84, Cond.instanceMethod yJx4a65c_grow_92f84, Cond.selects RJx4a65c yJx4a65c_grow_92f84 yJx4a65c_grow_92f84, Cond.initialized RJx4a65c, Cond.code yJx4a65c_grow_92f84 cJx4a65c_grow_92f84 4 (some (.array (.object "java/lang/Object"))), Cond.fieldLink RJx4a65c 9 "java/util/ArrayList" "elementData" "[Ljava/lang/Object;", Cond.fieldLink RJx4a65c 39 "java/util/ArrayList" "DEFAULTCAPACITY_EMPTY_ELEMENTDATA" "[Ljava/lang/Object;", Cond.methodLink RJx4a65c 79 Lib.Math.max.name, Cond.static Lib.Math.max.name, Cond.initialized "java/lang/Math", Cond.code Lib.Math.max.name Lib.Math.max.code 2 (some .int), Cond.classLink RJx4a65c 7 "java/lang/Object", Cond.methodLink RJx4a65c 73 yJ8_newLength_cabcc, Cond.static yJ8_newLength_cabcc, Cond.initialized RJ8, Cond.code yJ8_newLength_cabcc cJ8_newLength_cabcc 4 (some .int), Cond.methodLink RJ8 194 Lib.Math.max.name, Cond.constant RJ8 200 (2147483639), Cond.methodLink RJ8 201 yJ8_hugeLength_7cf53, Cond.static yJ8_hugeLength_7cf53, Cond.code yJ8_hugeLength_7cf53 cJ8_hugeLength_7cf53 3 (some .int), Cond.methodLink RJx4a65c 66 yJ7_copyOf_1904c, Cond.static yJ7_copyOf_1904c]
def wsJx4a65c_grow_d5877_r2 : List Cond := [Cond.initialized RJ7, Cond.code yJ7_copyOf_1904c cJ7_copyOf_1904c 2 (some (.array (.object "java/lang/Object"))), Cond.methodLink RJ7 86 ⟨"java/lang/Object", "getClass", "()Ljava/lang/Class;"⟩, Cond.selects "[Ljava/lang/Object;" ⟨"java/lang/Object", "getClass", "()Ljava/lang/Class;"⟩ ⟨"java/lang/Object", "getClass", "()Ljava/lang/Class;"⟩, Cond.instanceMethod ⟨"java/lang/Object", "getClass", "()Ljava/lang/Class;"⟩, Cond.native ⟨"java/lang/Object", "getClass", "()Ljava/lang/Class;"⟩, Cond.methodLink RJ7 300 yJ7_copyOf_6403c, Cond.static yJ7_copyOf_6403c, Cond.code yJ7_copyOf_6403c cJ7_copyOf_6403c 4 (some (.array (.object "java/lang/Object"))), Cond.classLink RJ7 110 "[Ljava/lang/Object;", Cond.classLink RJ7 2 "java/lang/Object", Cond.methodLink RJ7 304 Lib.Math.min.name, Cond.static Lib.Math.min.name, Cond.code Lib.Math.min.name Lib.Math.min.code 2 (some .int), Cond.methodLink RJ7 150 arraycopyName, Cond.native arraycopyName, Cond.static arraycopyName, Cond.initialized "java/lang/System"]
def wsJx4a65c_grow_d5877 : List Cond := .code yJx4a65c_grow_d5877 cJx4a65c_grow_d5877 1 (some (.array (.object "java/lang/Object"))) :: ((wsJx4a65c_grow_d5877_r1 ++ wsJx4a65c_grow_d5877_r2) ++ wsJx4a65c0)
def wsJx4a65c_add_72be8_r1 : List Cond := [Cond.fieldLink RJx4a65c 48 "java/util/ArrayList" "size" "I", Cond.methodLink RJx4a65c 129 yJx4a65c_grow_d5877, Cond.instanceMethod yJx4a65c_grow_d5877, Cond.selects RJx4a65c yJx4a65c_grow_d5877 yJx4a65c_grow_d5877, Cond.initialized RJx4a65c, Cond.code yJx4a65c_grow_d5877 cJx4a65c_grow_d5877 1 (some (.array (.object "java/lang/Object"))), Cond.methodLink RJx4a65c 69 yJx4a65c_grow_92f84, Cond.instanceMethod yJx4a65c_grow_92f84, Cond.selects RJx4a65c yJx4a65c_grow_92f84 yJx4a65c_grow_92f84, Cond.code yJx4a65c_grow_92f84 cJx4a65c_grow_92f84 4 (some (.array (.object "java/lang/Object"))), Cond.fieldLink RJx4a65c 9 "java/util/ArrayList" "elementData" "[Ljava/lang/Object;", Cond.fieldLink RJx4a65c 39 "java/util/ArrayList" "DEFAULTCAPACITY_EMPTY_ELEMENTDATA" "[Ljava/lang/Object;", Cond.methodLink RJx4a65c 79 Lib.Math.max.name, Cond.static Lib.Math.max.name, Cond.initialized "java/lang/Math", Cond.code Lib.Math.max.name Lib.Math.max.code 2 (some .int), Cond.classLink RJx4a65c 7 "java/lang/Object", Cond.methodLink RJx4a65c 73 yJ8_newLength_cabcc, Cond.static yJ8_newLength_cabcc, Cond.initialized RJ8, Cond.code yJ8_newLength_cabcc cJ8_newLength_cabcc 4 (some .int), Cond.methodLink RJ8 194 Lib.Math.max.name, Cond.constant RJ8 200 (2147483639), Cond.methodLink RJ8 201 yJ8_hugeLength_7cf53]
def wsJx4a65c_add_72be8_r2 : List Cond := [Cond.static yJ8_hugeLength_7cf53, Cond.code yJ8_hugeLength_7cf53 cJ8_hugeLength_7cf53 3 (some .int), Cond.methodLink RJx4a65c 66 yJ7_copyOf_1904c, Cond.static yJ7_copyOf_1904c, Cond.initialized RJ7, Cond.code yJ7_copyOf_1904c cJ7_copyOf_1904c 2 (some (.array (.object "java/lang/Object"))), Cond.methodLink RJ7 86 ⟨"java/lang/Object", "getClass", "()Ljava/lang/Class;"⟩, Cond.selects "[Ljava/lang/Object;" ⟨"java/lang/Object", "getClass", "()Ljava/lang/Class;"⟩ ⟨"java/lang/Object", "getClass", "()Ljava/lang/Class;"⟩, Cond.instanceMethod ⟨"java/lang/Object", "getClass", "()Ljava/lang/Class;"⟩, Cond.native ⟨"java/lang/Object", "getClass", "()Ljava/lang/Class;"⟩, Cond.methodLink RJ7 300 yJ7_copyOf_6403c, Cond.static yJ7_copyOf_6403c, Cond.code yJ7_copyOf_6403c cJ7_copyOf_6403c 4 (some (.array (.object "java/lang/Object"))), Cond.classLink RJ7 110 "[Ljava/lang/Object;", Cond.classLink RJ7 2 "java/lang/Object", Cond.methodLink RJ7 304 Lib.Math.min.name, Cond.static Lib.Math.min.name, Cond.code Lib.Math.min.name Lib.Math.min.code 2 (some .int), Cond.methodLink RJ7 150 arraycopyName, Cond.native arraycopyName, Cond.static arraycopyName, Cond.initialized "java/lang/System"]
def wsJx4a65c_add_72be8 : List Cond := .code yJx4a65c_add_72be8 cJx4a65c_add_72be8 4 none :: ((wsJx4a65c_add_72be8_r1 ++ wsJx4a65c_add_72be8_r2) ++ wsJx4a65c0)
def wsJx4a65c_add_9ea2d_r1 : List Cond := [Cond.fieldLink RJx4a65c 63 "java/util/ArrayList" "modCount" "I", Cond.sameField "java/util/ArrayList" "java/util/AbstractList" "modCount" "I", Cond.fieldLink RJx4a65c 9 "java/util/ArrayList" "elementData" "[Ljava/lang/Object;", Cond.fieldLink RJx4a65c 48 "java/util/ArrayList" "size" "I", Cond.methodLink RJx4a65c 131 yJx4a65c_add_72be8, Cond.instanceMethod yJx4a65c_add_72be8, Cond.selects RJx4a65c yJx4a65c_add_72be8 yJx4a65c_add_72be8, Cond.initialized RJx4a65c, Cond.code yJx4a65c_add_72be8 cJx4a65c_add_72be8 4 none, Cond.methodLink RJx4a65c 129 yJx4a65c_grow_d5877, Cond.instanceMethod yJx4a65c_grow_d5877, Cond.selects RJx4a65c yJx4a65c_grow_d5877 yJx4a65c_grow_d5877, Cond.code yJx4a65c_grow_d5877 cJx4a65c_grow_d5877 1 (some (.array (.object "java/lang/Object"))), Cond.methodLink RJx4a65c 69 yJx4a65c_grow_92f84, Cond.instanceMethod yJx4a65c_grow_92f84, Cond.selects RJx4a65c yJx4a65c_grow_92f84 yJx4a65c_grow_92f84, Cond.code yJx4a65c_grow_92f84 cJx4a65c_grow_92f84 4 (some (.array (.object "java/lang/Object"))), Cond.fieldLink RJx4a65c 39 "java/util/ArrayList" "DEFAULTCAPACITY_EMPTY_ELEMENTDATA" "[Ljava/lang/Object;", Cond.methodLink RJx4a65c 79 Lib.Math.max.name, Cond.static Lib.Math.max.name, Cond.initialized "java/lang/Math", Cond.code Lib.Math.max.name Lib.Math.max.code 2 (some .int), Cond.classLink RJx4a65c 7 "java/lang/Object", Cond.methodLink RJx4a65c 73 yJ8_newLength_cabcc]
def wsJx4a65c_add_9ea2d_r2 : List Cond := [Cond.static yJ8_newLength_cabcc, Cond.initialized RJ8, Cond.code yJ8_newLength_cabcc cJ8_newLength_cabcc 4 (some .int), Cond.methodLink RJ8 194 Lib.Math.max.name, Cond.constant RJ8 200 (2147483639), Cond.methodLink RJ8 201 yJ8_hugeLength_7cf53, Cond.static yJ8_hugeLength_7cf53, Cond.code yJ8_hugeLength_7cf53 cJ8_hugeLength_7cf53 3 (some .int), Cond.methodLink RJx4a65c 66 yJ7_copyOf_1904c, Cond.static yJ7_copyOf_1904c, Cond.initialized RJ7, Cond.code yJ7_copyOf_1904c cJ7_copyOf_1904c 2 (some (.array (.object "java/lang/Object"))), Cond.methodLink RJ7 86 ⟨"java/lang/Object", "getClass", "()Ljava/lang/Class;"⟩, Cond.selects "[Ljava/lang/Object;" ⟨"java/lang/Object", "getClass", "()Ljava/lang/Class;"⟩ ⟨"java/lang/Object", "getClass", "()Ljava/lang/Class;"⟩, Cond.instanceMethod ⟨"java/lang/Object", "getClass", "()Ljava/lang/Class;"⟩, Cond.native ⟨"java/lang/Object", "getClass", "()Ljava/lang/Class;"⟩, Cond.methodLink RJ7 300 yJ7_copyOf_6403c, Cond.static yJ7_copyOf_6403c, Cond.code yJ7_copyOf_6403c cJ7_copyOf_6403c 4 (some (.array (.object "java/lang/Object"))), Cond.classLink RJ7 110 "[Ljava/lang/Object;", Cond.classLink RJ7 2 "java/lang/Object", Cond.methodLink RJ7 304 Lib.Math.min.name, Cond.static Lib.Math.min.name, Cond.code Lib.Math.min.name Lib.Math.min.code 2 (some .int)]
def wsJx4a65c_add_9ea2d_r3 : List Cond := [Cond.methodLink RJ7 150 arraycopyName, Cond.native arraycopyName, Cond.static arraycopyName, Cond.initialized "java/lang/System"]
def wsJx4a65c_add_9ea2d : List Cond := .code yJx4a65c_add_9ea2d cJx4a65c_add_9ea2d 2 (some .boolean) :: ((wsJx4a65c_add_9ea2d_r1 ++ (wsJx4a65c_add_9ea2d_r2 ++ wsJx4a65c_add_9ea2d_r3)) ++ wsJx4a65c0)
def wsX0_takeRecord_r1 : List Cond := [Cond.fieldLink RX0 10 "PurseWorld$Archive" "rows" "Ljava/util/ArrayList;", Cond.classLink RX0 24 RX1, Cond.instantiable RX1 3, Cond.initialized RX1, Cond.methodLink RX0 48 yX0_has, Cond.instanceMethod yX0_has, Cond.selects RX0 yX0_has yX0_has, Cond.initialized RX0, Cond.code yX0_has cX0_has 3 (some .boolean), Cond.methodLink RX0 16 yJx4a65c_size_8abf5, Cond.instanceMethod yJx4a65c_size_8abf5, Cond.selects RJx4a65c yJx4a65c_size_8abf5 yJx4a65c_size_8abf5, Cond.initialized RJx4a65c, Cond.code yJx4a65c_size_8abf5 cJx4a65c_size_8abf5 1 (some .int), Cond.fieldLink RJx4a65c 48 "java/util/ArrayList" "size" "I", Cond.methodLink RX0 40 yX0_hadAmong, Cond.instanceMethod yX0_hadAmong, Cond.selects RX0 yX0_hadAmong yX0_hadAmong, Cond.code yX0_hadAmong cX0_hadAmong 6 (some .boolean), Cond.classLink RX0 24 "PurseWorld$Entry", Cond.fieldLink RX0 26 "PurseWorld$Entry" "teller" "I", Cond.fieldLink RX0 30 "PurseWorld$Entry" "terms" "LPurseWorld$Transfer;", Cond.methodLink RX0 20 yJx4a65c_get_915e3, Cond.instanceMethod yJx4a65c_get_915e3]
def wsX0_takeRecord_r2 : List Cond := [Cond.selects RJx4a65c yJx4a65c_get_915e3 yJx4a65c_get_915e3, Cond.code yJx4a65c_get_915e3 cJx4a65c_get_915e3 2 (some (.object "java/lang/Object")), Cond.methodLink RJx4a65c 118 yJ15_checkIndex_7cf53, Cond.static yJ15_checkIndex_7cf53, Cond.initialized RJ15, Cond.code yJ15_checkIndex_7cf53 cJ15_checkIndex_7cf53 2 (some .int), Cond.methodLink RJ15 105 yJ3_checkIndex_8e157, Cond.static yJ3_checkIndex_8e157, Cond.initialized RJ3, Cond.code yJ3_checkIndex_8e157 cJ3_checkIndex_8e157 3 (some .int), Cond.methodLink RJx4a65c 123 yJx4a65c_elementData_915e3, Cond.instanceMethod yJx4a65c_elementData_915e3, Cond.selects RJx4a65c yJx4a65c_elementData_915e3 yJx4a65c_elementData_915e3, Cond.code yJx4a65c_elementData_915e3 cJx4a65c_elementData_915e3 2 (some (.object "java/lang/Object")), Cond.fieldLink RJx4a65c 9 "java/util/ArrayList" "elementData" "[Ljava/lang/Object;", Cond.methodLink RX0 34 yX4_same, Cond.instanceMethod yX4_same, Cond.selects RX4 yX4_same yX4_same, Cond.initialized RX4, Cond.code yX4_same cX4_same 2 (some .boolean), Cond.fieldLink RX4 7 "PurseWorld$Transfer" "payer" "I", Cond.fieldLink RX4 13 "PurseWorld$Transfer" "payerSerial" "I", Cond.fieldLink RX4 16 "PurseWorld$Transfer" "payee" "I", Cond.fieldLink RX4 19 "PurseWorld$Transfer" "payeeSerial" "I"]
def wsX0_takeRecord_r3 : List Cond := [Cond.fieldLink RX4 22 "PurseWorld$Transfer" "amount" "I", Cond.methodLink RX0 52 yX1_init, Cond.instanceMethod yX1_init, Cond.code yX1_init cX1_init 3 none, Cond.methodLink RX1 1 objectInit, Cond.instanceMethod objectInit, Cond.code objectInit ⟨#[0xb1]⟩ 1 none, Cond.fieldLink RX1 7 "PurseWorld$Entry" "teller" "I", Cond.fieldLink RX1 13 "PurseWorld$Entry" "terms" "LPurseWorld$Transfer;", Cond.methodLink RX0 55 yJx4a65c_add_9ea2d, Cond.instanceMethod yJx4a65c_add_9ea2d, Cond.selects RJx4a65c yJx4a65c_add_9ea2d yJx4a65c_add_9ea2d, Cond.code yJx4a65c_add_9ea2d cJx4a65c_add_9ea2d 2 (some .boolean), Cond.fieldLink RJx4a65c 63 "java/util/ArrayList" "modCount" "I", Cond.sameField "java/util/ArrayList" "java/util/AbstractList" "modCount" "I", Cond.methodLink RJx4a65c 131 yJx4a65c_add_72be8, Cond.instanceMethod yJx4a65c_add_72be8, Cond.selects RJx4a65c yJx4a65c_add_72be8 yJx4a65c_add_72be8, Cond.code yJx4a65c_add_72be8 cJx4a65c_add_72be8 4 none, Cond.methodLink RJx4a65c 129 yJx4a65c_grow_d5877, Cond.instanceMethod yJx4a65c_grow_d5877, Cond.selects RJx4a65c yJx4a65c_grow_d5877 yJx4a65c_grow_d5877, Cond.code yJx4a65c_grow_d5877 cJx4a65c_grow_d5877 1 (some (.array (.object "java/lang/Object"))), Cond.methodLink RJx4a65c 69 yJx4a65c_grow_92f84]
def wsX0_takeRecord_r4 : List Cond := [Cond.instanceMethod yJx4a65c_grow_92f84, Cond.selects RJx4a65c yJx4a65c_grow_92f84 yJx4a65c_grow_92f84, Cond.code yJx4a65c_grow_92f84 cJx4a65c_grow_92f84 4 (some (.array (.object "java/lang/Object"))), Cond.fieldLink RJx4a65c 39 "java/util/ArrayList" "DEFAULTCAPACITY_EMPTY_ELEMENTDATA" "[Ljava/lang/Object;", Cond.methodLink RJx4a65c 79 Lib.Math.max.name, Cond.static Lib.Math.max.name, Cond.initialized "java/lang/Math", Cond.code Lib.Math.max.name Lib.Math.max.code 2 (some .int), Cond.classLink RJx4a65c 7 "java/lang/Object", Cond.methodLink RJx4a65c 73 yJ8_newLength_cabcc, Cond.static yJ8_newLength_cabcc, Cond.initialized RJ8, Cond.code yJ8_newLength_cabcc cJ8_newLength_cabcc 4 (some .int), Cond.methodLink RJ8 194 Lib.Math.max.name, Cond.constant RJ8 200 (2147483639), Cond.methodLink RJ8 201 yJ8_hugeLength_7cf53, Cond.static yJ8_hugeLength_7cf53, Cond.code yJ8_hugeLength_7cf53 cJ8_hugeLength_7cf53 3 (some .int), Cond.methodLink RJx4a65c 66 yJ7_copyOf_1904c, Cond.static yJ7_copyOf_1904c, Cond.initialized RJ7, Cond.code yJ7_copyOf_1904c cJ7_copyOf_1904c 2 (some (.array (.object "java/lang/Object"))), Cond.methodLink RJ7 86 ⟨"java/lang/Object", "getClass", "()Ljava/lang/Class;"⟩, Cond.selects "[Ljava/lang/Object;" ⟨"java/lang/Object", "getClass", "()Ljava/lang/Class;"⟩ ⟨"java/lang/Object", "getClass", "()Ljava/lang/Class;"⟩]
def wsX0_takeRecord_r5 : List Cond := [Cond.instanceMethod ⟨"java/lang/Object", "getClass", "()Ljava/lang/Class;"⟩, Cond.native ⟨"java/lang/Object", "getClass", "()Ljava/lang/Class;"⟩, Cond.methodLink RJ7 300 yJ7_copyOf_6403c, Cond.static yJ7_copyOf_6403c, Cond.code yJ7_copyOf_6403c cJ7_copyOf_6403c 4 (some (.array (.object "java/lang/Object"))), Cond.classLink RJ7 110 "[Ljava/lang/Object;", Cond.classLink RJ7 2 "java/lang/Object", Cond.methodLink RJ7 304 Lib.Math.min.name, Cond.static Lib.Math.min.name, Cond.code Lib.Math.min.name Lib.Math.min.code 2 (some .int), Cond.methodLink RJ7 150 arraycopyName, Cond.native arraycopyName, Cond.static arraycopyName, Cond.initialized "java/lang/System"]
def wsX0_takeRecord : List Cond := .code yX0_takeRecord cX0_takeRecord 3 (some .boolean) :: ((wsX0_takeRecord_r1 ++ (wsX0_takeRecord_r2 ++ (wsX0_takeRecord_r3 ++ (wsX0_takeRecord_r4 ++ wsX0_takeRecord_r5)))) ++ wsX00 ++ wsX10 ++ wsJx4a65c0 ++ wsX40)
def wsX2_init : List Cond := .code yX2_init cX2_init 6 none :: ([.methodLink RX2 1 objectInit, .instanceMethod objectInit, .code objectInit ⟨#[0xb1]⟩ 1 none, .fieldLink RX2 7 "PurseWorld$Message" "kind" "I", .fieldLink RX2 13 "PurseWorld$Message" "to" "I", .fieldLink RX2 16 "PurseWorld$Message" "terms" "LPurseWorld$Transfer;", .fieldLink RX2 20 "PurseWorld$Message" "teller" "I", .fieldLink RX2 23 "PurseWorld$Message" "archived" "I"] ++ wsX20)
def wsX3_init_r1 : List Cond := [Cond.methodLink RX3 3 objectInit, Cond.instanceMethod objectInit, Cond.code objectInit ⟨#[0xb1]⟩ 1 none, Cond.fieldLink RX3 9 "PurseWorld$Purse" "number" "I", Cond.fieldLink RX3 15 "PurseWorld$Purse" "balance" "I", Cond.fieldLink RX3 18 "PurseWorld$Purse" "nothing" "LPurseWorld$Transfer;", Cond.classLink RX3 22 RJx4a65c, Cond.instantiable RJx4a65c 3, Cond.initialized RJx4a65c, Cond.fieldLink RX3 25 "PurseWorld$Purse" "kept" "Ljava/util/ArrayList;", Cond.fieldLink RX3 29 "PurseWorld$Purse" "serial" "I", Cond.fieldLink RX3 32 "PurseWorld$Purse" "state" "I", Cond.fieldLink RX3 35 "PurseWorld$Purse" "current" "LPurseWorld$Transfer;", Cond.methodLink RX3 24 yJx4a65c_init_da8c8, Cond.instanceMethod yJx4a65c_init_da8c8, Cond.code yJx4a65c_init_da8c8 cJx4a65c_init_da8c8 1 none, Cond.fieldLink RJx4a65c 39 "java/util/ArrayList" "DEFAULTCAPACITY_EMPTY_ELEMENTDATA" "[Ljava/lang/Object;", Cond.fieldLink RJx4a65c 9 "java/util/ArrayList" "elementData" "[Ljava/lang/Object;", Cond.methodLink RJx4a65c 1 yJxc12de_init_da8c8, Cond.instanceMethod yJxc12de_init_da8c8, Cond.initialized RJxc12de, Cond.code yJxc12de_init_da8c8 cJxc12de_init_da8c8 1 none, Cond.fieldLink RJxc12de 7 "java/util/AbstractList" "modCount" "I", Cond.methodLink RJxc12de 1 yJxa1e45_init_da8c8]
def wsX3_init_r2 : List Cond := [Cond.instanceMethod yJxa1e45_init_da8c8, Cond.initialized RJxa1e45, Cond.code yJxa1e45_init_da8c8 cJxa1e45_init_da8c8 1 none, Cond.methodLink RJxa1e45 1 objectInit]
def wsX3_init : List Cond := .code yX3_init cX3_init 4 none :: ((wsX3_init_r1 ++ wsX3_init_r2) ++ wsX30 ++ wsJx4a65c0)
def wsX3_logIsFull : List Cond := .code yX3_logIsFull cX3_logIsFull 1 (some .boolean) :: ([.fieldLink RX3 25 "PurseWorld$Purse" "kept" "Ljava/util/ArrayList;", .methodLink RX3 38 yJx4a65c_size_8abf5, .instanceMethod yJx4a65c_size_8abf5, .selects RJx4a65c yJx4a65c_size_8abf5 yJx4a65c_size_8abf5, .initialized RJx4a65c, .code yJx4a65c_size_8abf5 cJx4a65c_size_8abf5 1 (some .int), .fieldLink RJx4a65c 48 "java/util/ArrayList" "size" "I"] ++ wsX30 ++ wsJx4a65c0)
def wsX3_does : List Cond := .code yX3_does cX3_does 3 (some .boolean) :: ([.fieldLink RX3 32 "PurseWorld$Purse" "state" "I", .fieldLink RX3 35 "PurseWorld$Purse" "current" "LPurseWorld$Transfer;", .methodLink RX3 42 yX4_same, .instanceMethod yX4_same, .selects RX4 yX4_same yX4_same, .initialized RX4, .code yX4_same cX4_same 2 (some .boolean), .fieldLink RX4 7 "PurseWorld$Transfer" "payer" "I", .fieldLink RX4 13 "PurseWorld$Transfer" "payerSerial" "I", .fieldLink RX4 16 "PurseWorld$Transfer" "payee" "I", .fieldLink RX4 19 "PurseWorld$Transfer" "payeeSerial" "I", .fieldLink RX4 22 "PurseWorld$Transfer" "amount" "I"] ++ wsX30 ++ wsX40)
def wsX3_hasKept_r1 : List Cond := [Cond.fieldLink RX3 25 "PurseWorld$Purse" "kept" "Ljava/util/ArrayList;", Cond.classLink RX3 43 "PurseWorld$Transfer", Cond.methodLink RX3 38 yJx4a65c_size_8abf5, Cond.instanceMethod yJx4a65c_size_8abf5, Cond.selects RJx4a65c yJx4a65c_size_8abf5 yJx4a65c_size_8abf5, Cond.initialized RJx4a65c, Cond.code yJx4a65c_size_8abf5 cJx4a65c_size_8abf5 1 (some .int), Cond.fieldLink RJx4a65c 48 "java/util/ArrayList" "size" "I", Cond.methodLink RX3 48 yJx4a65c_get_915e3, Cond.instanceMethod yJx4a65c_get_915e3, Cond.selects RJx4a65c yJx4a65c_get_915e3 yJx4a65c_get_915e3, Cond.code yJx4a65c_get_915e3 cJx4a65c_get_915e3 2 (some (.object "java/lang/Object")), Cond.methodLink RJx4a65c 118 yJ15_checkIndex_7cf53, Cond.static yJ15_checkIndex_7cf53, Cond.initialized RJ15, Cond.code yJ15_checkIndex_7cf53 cJ15_checkIndex_7cf53 2 (some .int), Cond.methodLink RJ15 105 yJ3_checkIndex_8e157, Cond.static yJ3_checkIndex_8e157, Cond.initialized RJ3, Cond.code yJ3_checkIndex_8e157 cJ3_checkIndex_8e157 3 (some .int), Cond.methodLink RJx4a65c 123 yJx4a65c_elementData_915e3, Cond.instanceMethod yJx4a65c_elementData_915e3, Cond.selects RJx4a65c yJx4a65c_elementData_915e3 yJx4a65c_elementData_915e3, Cond.code yJx4a65c_elementData_915e3 cJx4a65c_elementData_915e3 2 (some (.object "java/lang/Object"))]
def wsX3_hasKept_r2 : List Cond := [Cond.fieldLink RJx4a65c 9 "java/util/ArrayList" "elementData" "[Ljava/lang/Object;", Cond.methodLink RX3 42 yX4_same, Cond.instanceMethod yX4_same, Cond.selects RX4 yX4_same yX4_same, Cond.initialized RX4, Cond.code yX4_same cX4_same 2 (some .boolean), Cond.fieldLink RX4 7 "PurseWorld$Transfer" "payer" "I", Cond.fieldLink RX4 13 "PurseWorld$Transfer" "payerSerial" "I", Cond.fieldLink RX4 16 "PurseWorld$Transfer" "payee" "I", Cond.fieldLink RX4 19 "PurseWorld$Transfer" "payeeSerial" "I", Cond.fieldLink RX4 22 "PurseWorld$Transfer" "amount" "I"]
def wsX3_hasKept : List Cond := .code yX3_hasKept cX3_hasKept 3 (some .boolean) :: ((wsX3_hasKept_r1 ++ wsX3_hasKept_r2) ++ wsX30 ++ wsJx4a65c0 ++ wsX40)
def wsX3_start : List Cond := .code yX3_start cX3_start 3 none :: ([.fieldLink RX3 32 "PurseWorld$Purse" "state" "I", .fieldLink RX3 35 "PurseWorld$Purse" "current" "LPurseWorld$Transfer;", .fieldLink RX3 29 "PurseWorld$Purse" "serial" "I"] ++ wsX30)
def wsX3_rest : List Cond := .code yX3_rest cX3_rest 1 none :: ([.fieldLink RX3 32 "PurseWorld$Purse" "state" "I", .fieldLink RX3 18 "PurseWorld$Purse" "nothing" "LPurseWorld$Transfer;", .fieldLink RX3 35 "PurseWorld$Purse" "current" "LPurseWorld$Transfer;"] ++ wsX30)
def wsX3_end_r1 : List Cond := [Cond.fieldLink RX3 32 "PurseWorld$Purse" "state" "I", Cond.fieldLink RX3 25 "PurseWorld$Purse" "kept" "Ljava/util/ArrayList;", Cond.fieldLink RX3 35 "PurseWorld$Purse" "current" "LPurseWorld$Transfer;", Cond.fieldLink RX3 29 "PurseWorld$Purse" "serial" "I", Cond.methodLink RX3 52 yJx4a65c_add_9ea2d, Cond.instanceMethod yJx4a65c_add_9ea2d, Cond.selects RJx4a65c yJx4a65c_add_9ea2d yJx4a65c_add_9ea2d, Cond.initialized RJx4a65c, Cond.code yJx4a65c_add_9ea2d cJx4a65c_add_9ea2d 2 (some .boolean), Cond.fieldLink RJx4a65c 63 "java/util/ArrayList" "modCount" "I", Cond.sameField "java/util/ArrayList" "java/util/AbstractList" "modCount" "I", Cond.fieldLink RJx4a65c 9 "java/util/ArrayList" "elementData" "[Ljava/lang/Object;", Cond.fieldLink RJx4a65c 48 "java/util/ArrayList" "size" "I", Cond.methodLink RJx4a65c 131 yJx4a65c_add_72be8, Cond.instanceMethod yJx4a65c_add_72be8, Cond.selects RJx4a65c yJx4a65c_add_72be8 yJx4a65c_add_72be8, Cond.code yJx4a65c_add_72be8 cJx4a65c_add_72be8 4 none, Cond.methodLink RJx4a65c 129 yJx4a65c_grow_d5877, Cond.instanceMethod yJx4a65c_grow_d5877, Cond.selects RJx4a65c yJx4a65c_grow_d5877 yJx4a65c_grow_d5877, Cond.code yJx4a65c_grow_d5877 cJx4a65c_grow_d5877 1 (some (.array (.object "java/lang/Object"))), Cond.methodLink RJx4a65c 69 yJx4a65c_grow_92f84, Cond.instanceMethod yJx4a65c_grow_92f84, Cond.selects RJx4a65c yJx4a65c_grow_92f84 yJx4a65c_grow_92f84]
def wsX3_end_r2 : List Cond := [Cond.code yJx4a65c_grow_92f84 cJx4a65c_grow_92f84 4 (some (.array (.object "java/lang/Object"))), Cond.fieldLink RJx4a65c 39 "java/util/ArrayList" "DEFAULTCAPACITY_EMPTY_ELEMENTDATA" "[Ljava/lang/Object;", Cond.methodLink RJx4a65c 79 Lib.Math.max.name, Cond.static Lib.Math.max.name, Cond.initialized "java/lang/Math", Cond.code Lib.Math.max.name Lib.Math.max.code 2 (some .int), Cond.classLink RJx4a65c 7 "java/lang/Object", Cond.methodLink RJx4a65c 73 yJ8_newLength_cabcc, Cond.static yJ8_newLength_cabcc, Cond.initialized RJ8, Cond.code yJ8_newLength_cabcc cJ8_newLength_cabcc 4 (some .int), Cond.methodLink RJ8 194 Lib.Math.max.name, Cond.constant RJ8 200 (2147483639), Cond.methodLink RJ8 201 yJ8_hugeLength_7cf53, Cond.static yJ8_hugeLength_7cf53, Cond.code yJ8_hugeLength_7cf53 cJ8_hugeLength_7cf53 3 (some .int), Cond.methodLink RJx4a65c 66 yJ7_copyOf_1904c, Cond.static yJ7_copyOf_1904c, Cond.initialized RJ7, Cond.code yJ7_copyOf_1904c cJ7_copyOf_1904c 2 (some (.array (.object "java/lang/Object"))), Cond.methodLink RJ7 86 ⟨"java/lang/Object", "getClass", "()Ljava/lang/Class;"⟩, Cond.selects "[Ljava/lang/Object;" ⟨"java/lang/Object", "getClass", "()Ljava/lang/Class;"⟩ ⟨"java/lang/Object", "getClass", "()Ljava/lang/Class;"⟩, Cond.instanceMethod ⟨"java/lang/Object", "getClass", "()Ljava/lang/Class;"⟩, Cond.native ⟨"java/lang/Object", "getClass", "()Ljava/lang/Class;"⟩]
def wsX3_end_r3 : List Cond := [Cond.methodLink RJ7 300 yJ7_copyOf_6403c, Cond.static yJ7_copyOf_6403c, Cond.code yJ7_copyOf_6403c cJ7_copyOf_6403c 4 (some (.array (.object "java/lang/Object"))), Cond.classLink RJ7 110 "[Ljava/lang/Object;", Cond.classLink RJ7 2 "java/lang/Object", Cond.methodLink RJ7 304 Lib.Math.min.name, Cond.static Lib.Math.min.name, Cond.code Lib.Math.min.name Lib.Math.min.code 2 (some .int), Cond.methodLink RJ7 150 arraycopyName, Cond.native arraycopyName, Cond.static arraycopyName, Cond.initialized "java/lang/System", Cond.methodLink RX3 56 yX3_rest, Cond.instanceMethod yX3_rest, Cond.selects RX3 yX3_rest yX3_rest, Cond.initialized RX3, Cond.code yX3_rest cX3_rest 1 none, Cond.fieldLink RX3 18 "PurseWorld$Purse" "nothing" "LPurseWorld$Transfer;"]
def wsX3_end : List Cond := .code yX3_end cX3_end 1 none :: ((wsX3_end_r1 ++ (wsX3_end_r2 ++ wsX3_end_r3)) ++ wsX30 ++ wsJx4a65c0)
def wsX4_init : List Cond := .code yX4_init cX4_init 6 none :: ([.methodLink RX4 1 objectInit, .instanceMethod objectInit, .code objectInit ⟨#[0xb1]⟩ 1 none, .fieldLink RX4 7 "PurseWorld$Transfer" "payer" "I", .fieldLink RX4 13 "PurseWorld$Transfer" "payerSerial" "I", .fieldLink RX4 16 "PurseWorld$Transfer" "payee" "I", .fieldLink RX4 19 "PurseWorld$Transfer" "payeeSerial" "I", .fieldLink RX4 22 "PurseWorld$Transfer" "amount" "I"] ++ wsX40)
def wsX5_init_r1 : List Cond := [Cond.methodLink RX5 1 objectInit, Cond.instanceMethod objectInit, Cond.code objectInit ⟨#[0xb1]⟩ 1 none, Cond.classLink RX5 7 RX4, Cond.instantiable RX4 5, Cond.initialized RX4, Cond.fieldLink RX5 14 "PurseWorld" "nothing" "LPurseWorld$Transfer;", Cond.classLink RX5 18 RJx4a65c, Cond.instantiable RJx4a65c 3, Cond.initialized RJx4a65c, Cond.fieldLink RX5 21 "PurseWorld" "owners" "Ljava/util/ArrayList;", Cond.fieldLink RX5 25 "PurseWorld" "sent" "Ljava/util/ArrayList;", Cond.classLink RX5 28 RX0, Cond.instantiable RX0 1, Cond.initialized RX0, Cond.fieldLink RX5 31 "PurseWorld" "archive" "LPurseWorld$Archive;", Cond.methodLink RX5 11 yX4_init, Cond.instanceMethod yX4_init, Cond.code yX4_init cX4_init 6 none, Cond.methodLink RX4 1 objectInit, Cond.fieldLink RX4 7 "PurseWorld$Transfer" "payer" "I", Cond.fieldLink RX4 13 "PurseWorld$Transfer" "payerSerial" "I", Cond.fieldLink RX4 16 "PurseWorld$Transfer" "payee" "I", Cond.fieldLink RX4 19 "PurseWorld$Transfer" "payeeSerial" "I"]
def wsX5_init_r2 : List Cond := [Cond.fieldLink RX4 22 "PurseWorld$Transfer" "amount" "I", Cond.methodLink RX5 20 yJx4a65c_init_da8c8, Cond.instanceMethod yJx4a65c_init_da8c8, Cond.code yJx4a65c_init_da8c8 cJx4a65c_init_da8c8 1 none, Cond.fieldLink RJx4a65c 39 "java/util/ArrayList" "DEFAULTCAPACITY_EMPTY_ELEMENTDATA" "[Ljava/lang/Object;", Cond.fieldLink RJx4a65c 9 "java/util/ArrayList" "elementData" "[Ljava/lang/Object;", Cond.methodLink RJx4a65c 1 yJxc12de_init_da8c8, Cond.instanceMethod yJxc12de_init_da8c8, Cond.initialized RJxc12de, Cond.code yJxc12de_init_da8c8 cJxc12de_init_da8c8 1 none, Cond.fieldLink RJxc12de 7 "java/util/AbstractList" "modCount" "I", Cond.methodLink RJxc12de 1 yJxa1e45_init_da8c8, Cond.instanceMethod yJxa1e45_init_da8c8, Cond.initialized RJxa1e45, Cond.code yJxa1e45_init_da8c8 cJxa1e45_init_da8c8 1 none, Cond.methodLink RJxa1e45 1 objectInit, Cond.methodLink RX5 30 yX0_init, Cond.instanceMethod yX0_init, Cond.code yX0_init cX0_init 1 none, Cond.methodLink RX0 1 objectInit, Cond.classLink RX0 7 RJx4a65c, Cond.fieldLink RX0 10 "PurseWorld$Archive" "rows" "Ljava/util/ArrayList;", Cond.methodLink RX0 9 yJx4a65c_init_da8c8]
def wsX5_init : List Cond := .code yX5_init cX5_init 1 none :: ((wsX5_init_r1 ++ wsX5_init_r2) ++ wsX40 ++ wsX50 ++ wsJx4a65c0 ++ wsX00)
def wsX5_purse_r1 : List Cond := [Cond.classLink RX5 36 "java/lang/IllegalArgumentException", Cond.initialized "java/lang/IllegalArgumentException", Cond.classLink RX5 47 "java/lang/UnsupportedOperationException", Cond.initialized "java/lang/UnsupportedOperationException", Cond.constant RX5 35 (1000000000), Cond.fieldLink RX5 21 "PurseWorld" "owners" "Ljava/util/ArrayList;", Cond.classLink RX5 52 RX3, Cond.instantiable RX3 7, Cond.initialized RX3, Cond.fieldLink RX5 14 "PurseWorld" "nothing" "LPurseWorld$Transfer;", Cond.methodLink RX5 43 yJx4a65c_size_8abf5, Cond.instanceMethod yJx4a65c_size_8abf5, Cond.selects RJx4a65c yJx4a65c_size_8abf5 yJx4a65c_size_8abf5, Cond.initialized RJx4a65c, Cond.code yJx4a65c_size_8abf5 cJx4a65c_size_8abf5 1 (some .int), Cond.fieldLink RJx4a65c 48 "java/util/ArrayList" "size" "I", Cond.methodLink RX5 54 yX3_init, Cond.instanceMethod yX3_init, Cond.code yX3_init cX3_init 4 none, Cond.methodLink RX3 3 objectInit, Cond.instanceMethod objectInit, Cond.code objectInit ⟨#[0xb1]⟩ 1 none, Cond.fieldLink RX3 9 "PurseWorld$Purse" "number" "I", Cond.fieldLink RX3 15 "PurseWorld$Purse" "balance" "I"]
def wsX5_purse_r2 : List Cond := [Cond.fieldLink RX3 18 "PurseWorld$Purse" "nothing" "LPurseWorld$Transfer;", Cond.classLink RX3 22 RJx4a65c, Cond.instantiable RJx4a65c 3, Cond.fieldLink RX3 25 "PurseWorld$Purse" "kept" "Ljava/util/ArrayList;", Cond.fieldLink RX3 29 "PurseWorld$Purse" "serial" "I", Cond.fieldLink RX3 32 "PurseWorld$Purse" "state" "I", Cond.fieldLink RX3 35 "PurseWorld$Purse" "current" "LPurseWorld$Transfer;", Cond.methodLink RX3 24 yJx4a65c_init_da8c8, Cond.instanceMethod yJx4a65c_init_da8c8, Cond.code yJx4a65c_init_da8c8 cJx4a65c_init_da8c8 1 none, Cond.fieldLink RJx4a65c 39 "java/util/ArrayList" "DEFAULTCAPACITY_EMPTY_ELEMENTDATA" "[Ljava/lang/Object;", Cond.fieldLink RJx4a65c 9 "java/util/ArrayList" "elementData" "[Ljava/lang/Object;", Cond.methodLink RJx4a65c 1 yJxc12de_init_da8c8, Cond.instanceMethod yJxc12de_init_da8c8, Cond.initialized RJxc12de, Cond.code yJxc12de_init_da8c8 cJxc12de_init_da8c8 1 none, Cond.fieldLink RJxc12de 7 "java/util/AbstractList" "modCount" "I", Cond.methodLink RJxc12de 1 yJxa1e45_init_da8c8, Cond.instanceMethod yJxa1e45_init_da8c8, Cond.initialized RJxa1e45, Cond.code yJxa1e45_init_da8c8 cJxa1e45_init_da8c8 1 none, Cond.methodLink RJxa1e45 1 objectInit, Cond.methodLink RX5 57 yJx4a65c_add_9ea2d, Cond.instanceMethod yJx4a65c_add_9ea2d]
def wsX5_purse_r3 : List Cond := [Cond.selects RJx4a65c yJx4a65c_add_9ea2d yJx4a65c_add_9ea2d, Cond.code yJx4a65c_add_9ea2d cJx4a65c_add_9ea2d 2 (some .boolean), Cond.fieldLink RJx4a65c 63 "java/util/ArrayList" "modCount" "I", Cond.sameField "java/util/ArrayList" "java/util/AbstractList" "modCount" "I", Cond.methodLink RJx4a65c 131 yJx4a65c_add_72be8, Cond.instanceMethod yJx4a65c_add_72be8, Cond.selects RJx4a65c yJx4a65c_add_72be8 yJx4a65c_add_72be8, Cond.code yJx4a65c_add_72be8 cJx4a65c_add_72be8 4 none, Cond.methodLink RJx4a65c 129 yJx4a65c_grow_d5877, Cond.instanceMethod yJx4a65c_grow_d5877, Cond.selects RJx4a65c yJx4a65c_grow_d5877 yJx4a65c_grow_d5877, Cond.code yJx4a65c_grow_d5877 cJx4a65c_grow_d5877 1 (some (.array (.object "java/lang/Object"))), Cond.methodLink RJx4a65c 69 yJx4a65c_grow_92f84, Cond.instanceMethod yJx4a65c_grow_92f84, Cond.selects RJx4a65c yJx4a65c_grow_92f84 yJx4a65c_grow_92f84, Cond.code yJx4a65c_grow_92f84 cJx4a65c_grow_92f84 4 (some (.array (.object "java/lang/Object"))), Cond.methodLink RJx4a65c 79 Lib.Math.max.name, Cond.static Lib.Math.max.name, Cond.initialized "java/lang/Math", Cond.code Lib.Math.max.name Lib.Math.max.code 2 (some .int), Cond.classLink RJx4a65c 7 "java/lang/Object", Cond.methodLink RJx4a65c 73 yJ8_newLength_cabcc, Cond.static yJ8_newLength_cabcc, Cond.initialized RJ8]
def wsX5_purse_r4 : List Cond := [Cond.code yJ8_newLength_cabcc cJ8_newLength_cabcc 4 (some .int), Cond.methodLink RJ8 194 Lib.Math.max.name, Cond.constant RJ8 200 (2147483639), Cond.methodLink RJ8 201 yJ8_hugeLength_7cf53, Cond.static yJ8_hugeLength_7cf53, Cond.code yJ8_hugeLength_7cf53 cJ8_hugeLength_7cf53 3 (some .int), Cond.methodLink RJx4a65c 66 yJ7_copyOf_1904c, Cond.static yJ7_copyOf_1904c, Cond.initialized RJ7, Cond.code yJ7_copyOf_1904c cJ7_copyOf_1904c 2 (some (.array (.object "java/lang/Object"))), Cond.methodLink RJ7 86 ⟨"java/lang/Object", "getClass", "()Ljava/lang/Class;"⟩, Cond.selects "[Ljava/lang/Object;" ⟨"java/lang/Object", "getClass", "()Ljava/lang/Class;"⟩ ⟨"java/lang/Object", "getClass", "()Ljava/lang/Class;"⟩, Cond.instanceMethod ⟨"java/lang/Object", "getClass", "()Ljava/lang/Class;"⟩, Cond.native ⟨"java/lang/Object", "getClass", "()Ljava/lang/Class;"⟩, Cond.methodLink RJ7 300 yJ7_copyOf_6403c, Cond.static yJ7_copyOf_6403c, Cond.code yJ7_copyOf_6403c cJ7_copyOf_6403c 4 (some (.array (.object "java/lang/Object"))), Cond.classLink RJ7 110 "[Ljava/lang/Object;", Cond.classLink RJ7 2 "java/lang/Object", Cond.methodLink RJ7 304 Lib.Math.min.name, Cond.static Lib.Math.min.name, Cond.code Lib.Math.min.name Lib.Math.min.code 2 (some .int), Cond.methodLink RJ7 150 arraycopyName, Cond.native arraycopyName]
def wsX5_purse_r5 : List Cond := [Cond.static arraycopyName, Cond.initialized "java/lang/System"]
def wsX5_purse : List Cond := .code yX5_purse cX5_purse 3 (some .int) :: ((wsX5_purse_r1 ++ (wsX5_purse_r2 ++ (wsX5_purse_r3 ++ (wsX5_purse_r4 ++ wsX5_purse_r5)))) ++ wsX50 ++ wsX30 ++ wsJx4a65c0 ++ (vx_atS RX5 40 "java/lang/IllegalArgumentException" ["java/lang/RuntimeException", "java/lang/Exception"]).filter goodWord ++ (vx_atS RX5 51 "java/lang/UnsupportedOperationException" ["java/lang/RuntimeException", "java/lang/Exception"]).filter goodWord)
def wsX5_purseAt_r1 : List Cond := [Cond.classLink RX5 194 "java/lang/IndexOutOfBoundsException", Cond.initialized "java/lang/IndexOutOfBoundsException", Cond.fieldLink RX5 21 "PurseWorld" "owners" "Ljava/util/ArrayList;", Cond.classLink RX5 52 "PurseWorld$Purse", Cond.methodLink RX5 43 yJx4a65c_size_8abf5, Cond.instanceMethod yJx4a65c_size_8abf5, Cond.selects RJx4a65c yJx4a65c_size_8abf5 yJx4a65c_size_8abf5, Cond.initialized RJx4a65c, Cond.code yJx4a65c_size_8abf5 cJx4a65c_size_8abf5 1 (some .int), Cond.fieldLink RJx4a65c 48 "java/util/ArrayList" "size" "I", Cond.methodLink RX5 137 yJx4a65c_get_915e3, Cond.instanceMethod yJx4a65c_get_915e3, Cond.selects RJx4a65c yJx4a65c_get_915e3 yJx4a65c_get_915e3, Cond.code yJx4a65c_get_915e3 cJx4a65c_get_915e3 2 (some (.object "java/lang/Object")), Cond.methodLink RJx4a65c 118 yJ15_checkIndex_7cf53, Cond.static yJ15_checkIndex_7cf53, Cond.initialized RJ15, Cond.code yJ15_checkIndex_7cf53 cJ15_checkIndex_7cf53 2 (some .int), Cond.methodLink RJ15 105 yJ3_checkIndex_8e157, Cond.static yJ3_checkIndex_8e157, Cond.initialized RJ3, Cond.code yJ3_checkIndex_8e157 cJ3_checkIndex_8e157 3 (some .int), Cond.methodLink RJx4a65c 123 yJx4a65c_elementData_915e3, Cond.instanceMethod yJx4a65c_elementData_915e3]
def wsX5_purseAt_r2 : List Cond := [Cond.selects RJx4a65c yJx4a65c_elementData_915e3 yJx4a65c_elementData_915e3, Cond.code yJx4a65c_elementData_915e3 cJx4a65c_elementData_915e3 2 (some (.object "java/lang/Object")), Cond.fieldLink RJx4a65c 9 "java/util/ArrayList" "elementData" "[Ljava/lang/Object;"]
def wsX5_purseAt : List Cond := .code yX5_purseAt cX5_purseAt 2 (some (.object "PurseWorld$Purse")) :: ((wsX5_purseAt_r1 ++ wsX5_purseAt_r2) ++ wsX50 ++ wsJx4a65c0 ++ (vx_atS RX5 198 "java/lang/IndexOutOfBoundsException" ["java/lang/RuntimeException", "java/lang/Exception"]).filter goodWord)
def wsX5_needRoomFor : List Cond := .code yX5_needRoomFor cX5_needRoomFor 2 none :: ([.classLink RX5 47 "java/lang/UnsupportedOperationException", .initialized "java/lang/UnsupportedOperationException", .fieldLink RX5 25 "PurseWorld" "sent" "Ljava/util/ArrayList;", .methodLink RX5 43 yJx4a65c_size_8abf5, .instanceMethod yJx4a65c_size_8abf5, .selects RJx4a65c yJx4a65c_size_8abf5 yJx4a65c_size_8abf5, .initialized RJx4a65c, .code yJx4a65c_size_8abf5 cJx4a65c_size_8abf5 1 (some .int), .fieldLink RJx4a65c 48 "java/util/ArrayList" "size" "I"] ++ wsX50 ++ wsJx4a65c0 ++ (vx_atS RX5 51 "java/lang/UnsupportedOperationException" ["java/lang/RuntimeException", "java/lang/Exception"]).filter goodWord)
def wsX5_send_r1 : List Cond := [Cond.fieldLink RX5 25 "PurseWorld" "sent" "Ljava/util/ArrayList;", Cond.classLink RX5 91 RX2, Cond.instantiable RX2 5, Cond.initialized RX2, Cond.methodLink RX5 43 yJx4a65c_size_8abf5, Cond.instanceMethod yJx4a65c_size_8abf5, Cond.selects RJx4a65c yJx4a65c_size_8abf5 yJx4a65c_size_8abf5, Cond.initialized RJx4a65c, Cond.code yJx4a65c_size_8abf5 cJx4a65c_size_8abf5 1 (some .int), Cond.fieldLink RJx4a65c 48 "java/util/ArrayList" "size" "I", Cond.methodLink RX5 141 yX2_init, Cond.instanceMethod yX2_init, Cond.code yX2_init cX2_init 6 none, Cond.methodLink RX2 1 objectInit, Cond.instanceMethod objectInit, Cond.code objectInit ⟨#[0xb1]⟩ 1 none, Cond.fieldLink RX2 7 "PurseWorld$Message" "kind" "I", Cond.fieldLink RX2 13 "PurseWorld$Message" "to" "I", Cond.fieldLink RX2 16 "PurseWorld$Message" "terms" "LPurseWorld$Transfer;", Cond.fieldLink RX2 20 "PurseWorld$Message" "teller" "I", Cond.fieldLink RX2 23 "PurseWorld$Message" "archived" "I", Cond.methodLink RX5 57 yJx4a65c_add_9ea2d, Cond.instanceMethod yJx4a65c_add_9ea2d, Cond.selects RJx4a65c yJx4a65c_add_9ea2d yJx4a65c_add_9ea2d]
def wsX5_send_r2 : List Cond := [Cond.code yJx4a65c_add_9ea2d cJx4a65c_add_9ea2d 2 (some .boolean), Cond.fieldLink RJx4a65c 63 "java/util/ArrayList" "modCount" "I", Cond.sameField "java/util/ArrayList" "java/util/AbstractList" "modCount" "I", Cond.fieldLink RJx4a65c 9 "java/util/ArrayList" "elementData" "[Ljava/lang/Object;", Cond.methodLink RJx4a65c 131 yJx4a65c_add_72be8, Cond.instanceMethod yJx4a65c_add_72be8, Cond.selects RJx4a65c yJx4a65c_add_72be8 yJx4a65c_add_72be8, Cond.code yJx4a65c_add_72be8 cJx4a65c_add_72be8 4 none, Cond.methodLink RJx4a65c 129 yJx4a65c_grow_d5877, Cond.instanceMethod yJx4a65c_grow_d5877, Cond.selects RJx4a65c yJx4a65c_grow_d5877 yJx4a65c_grow_d5877, Cond.code yJx4a65c_grow_d5877 cJx4a65c_grow_d5877 1 (some (.array (.object "java/lang/Object"))), Cond.methodLink RJx4a65c 69 yJx4a65c_grow_92f84, Cond.instanceMethod yJx4a65c_grow_92f84, Cond.selects RJx4a65c yJx4a65c_grow_92f84 yJx4a65c_grow_92f84, Cond.code yJx4a65c_grow_92f84 cJx4a65c_grow_92f84 4 (some (.array (.object "java/lang/Object"))), Cond.fieldLink RJx4a65c 39 "java/util/ArrayList" "DEFAULTCAPACITY_EMPTY_ELEMENTDATA" "[Ljava/lang/Object;", Cond.methodLink RJx4a65c 79 Lib.Math.max.name, Cond.static Lib.Math.max.name, Cond.initialized "java/lang/Math", Cond.code Lib.Math.max.name Lib.Math.max.code 2 (some .int), Cond.classLink RJx4a65c 7 "java/lang/Object", Cond.methodLink RJx4a65c 73 yJ8_newLength_cabcc, Cond.static yJ8_newLength_cabcc]
def wsX5_send_r3 : List Cond := [Cond.initialized RJ8, Cond.code yJ8_newLength_cabcc cJ8_newLength_cabcc 4 (some .int), Cond.methodLink RJ8 194 Lib.Math.max.name, Cond.constant RJ8 200 (2147483639), Cond.methodLink RJ8 201 yJ8_hugeLength_7cf53, Cond.static yJ8_hugeLength_7cf53, Cond.code yJ8_hugeLength_7cf53 cJ8_hugeLength_7cf53 3 (some .int), Cond.methodLink RJx4a65c 66 yJ7_copyOf_1904c, Cond.static yJ7_copyOf_1904c, Cond.initialized RJ7, Cond.code yJ7_copyOf_1904c cJ7_copyOf_1904c 2 (some (.array (.object "java/lang/Object"))), Cond.methodLink RJ7 86 ⟨"java/lang/Object", "getClass", "()Ljava/lang/Class;"⟩, Cond.selects "[Ljava/lang/Object;" ⟨"java/lang/Object", "getClass", "()Ljava/lang/Class;"⟩ ⟨"java/lang/Object", "getClass", "()Ljava/lang/Class;"⟩, Cond.instanceMethod ⟨"java/lang/Object", "getClass", "()Ljava/lang/Class;"⟩, Cond.native ⟨"java/lang/Object", "getClass", "()Ljava/lang/Class;"⟩, Cond.methodLink RJ7 300 yJ7_copyOf_6403c, Cond.static yJ7_copyOf_6403c, Cond.code yJ7_copyOf_6403c cJ7_copyOf_6403c 4 (some (.array (.object "java/lang/Object"))), Cond.classLink RJ7 110 "[Ljava/lang/Object;", Cond.classLink RJ7 2 "java/lang/Object", Cond.methodLink RJ7 304 Lib.Math.min.name, Cond.static Lib.Math.min.name, Cond.code Lib.Math.min.name Lib.Math.min.code 2 (some .int), Cond.methodLink RJ7 150 arraycopyName]
def wsX5_send_r4 : List Cond := [Cond.native arraycopyName, Cond.static arraycopyName, Cond.initialized "java/lang/System"]
def wsX5_send : List Cond := .code yX5_send cX5_send 5 (some .int) :: ((wsX5_send_r1 ++ (wsX5_send_r2 ++ (wsX5_send_r3 ++ wsX5_send_r4))) ++ wsX50 ++ wsX20 ++ wsJx4a65c0)
def wsX5_begin_r1 : List Cond := [Cond.classLink RX5 36 "java/lang/IllegalArgumentException", Cond.initialized "java/lang/IllegalArgumentException", Cond.constant RX5 67 (1000000), Cond.classLink RX5 7 RX4, Cond.instantiable RX4 5, Cond.initialized RX4, Cond.fieldLink RX5 74 "PurseWorld$Purse" "serial" "I", Cond.methodLink RX5 61 yX5_purseAt, Cond.instanceMethod yX5_purseAt, Cond.selects RX5 yX5_purseAt yX5_purseAt, Cond.initialized RX5, Cond.code yX5_purseAt cX5_purseAt 2 (some (.object "PurseWorld$Purse")), Cond.classLink RX5 194 "java/lang/IndexOutOfBoundsException", Cond.initialized "java/lang/IndexOutOfBoundsException", Cond.fieldLink RX5 21 "PurseWorld" "owners" "Ljava/util/ArrayList;", Cond.classLink RX5 52 "PurseWorld$Purse", Cond.methodLink RX5 43 yJx4a65c_size_8abf5, Cond.instanceMethod yJx4a65c_size_8abf5, Cond.selects RJx4a65c yJx4a65c_size_8abf5 yJx4a65c_size_8abf5, Cond.initialized RJx4a65c, Cond.code yJx4a65c_size_8abf5 cJx4a65c_size_8abf5 1 (some .int), Cond.fieldLink RJx4a65c 48 "java/util/ArrayList" "size" "I", Cond.methodLink RX5 137 yJx4a65c_get_915e3, Cond.instanceMethod yJx4a65c_get_915e3]
def wsX5_begin_r2 : List Cond := [Cond.selects RJx4a65c yJx4a65c_get_915e3 yJx4a65c_get_915e3, Cond.code yJx4a65c_get_915e3 cJx4a65c_get_915e3 2 (some (.object "java/lang/Object")), Cond.methodLink RJx4a65c 118 yJ15_checkIndex_7cf53, Cond.static yJ15_checkIndex_7cf53, Cond.initialized RJ15, Cond.code yJ15_checkIndex_7cf53 cJ15_checkIndex_7cf53 2 (some .int), Cond.methodLink RJ15 105 yJ3_checkIndex_8e157, Cond.static yJ3_checkIndex_8e157, Cond.initialized RJ3, Cond.code yJ3_checkIndex_8e157 cJ3_checkIndex_8e157 3 (some .int), Cond.methodLink RJx4a65c 123 yJx4a65c_elementData_915e3, Cond.instanceMethod yJx4a65c_elementData_915e3, Cond.selects RJx4a65c yJx4a65c_elementData_915e3 yJx4a65c_elementData_915e3, Cond.code yJx4a65c_elementData_915e3 cJx4a65c_elementData_915e3 2 (some (.object "java/lang/Object")), Cond.fieldLink RJx4a65c 9 "java/util/ArrayList" "elementData" "[Ljava/lang/Object;", Cond.methodLink RX5 70 yX5_needRoomFor, Cond.instanceMethod yX5_needRoomFor, Cond.selects RX5 yX5_needRoomFor yX5_needRoomFor, Cond.code yX5_needRoomFor cX5_needRoomFor 2 none, Cond.classLink RX5 47 "java/lang/UnsupportedOperationException", Cond.initialized "java/lang/UnsupportedOperationException", Cond.fieldLink RX5 25 "PurseWorld" "sent" "Ljava/util/ArrayList;", Cond.methodLink RX5 11 yX4_init, Cond.instanceMethod yX4_init]
def wsX5_begin_r3 : List Cond := [Cond.code yX4_init cX4_init 6 none, Cond.methodLink RX4 1 objectInit, Cond.instanceMethod objectInit, Cond.code objectInit ⟨#[0xb1]⟩ 1 none, Cond.fieldLink RX4 7 "PurseWorld$Transfer" "payer" "I", Cond.fieldLink RX4 13 "PurseWorld$Transfer" "payerSerial" "I", Cond.fieldLink RX4 16 "PurseWorld$Transfer" "payee" "I", Cond.fieldLink RX4 19 "PurseWorld$Transfer" "payeeSerial" "I", Cond.fieldLink RX4 22 "PurseWorld$Transfer" "amount" "I", Cond.methodLink RX5 78 yX5_send, Cond.instanceMethod yX5_send, Cond.selects RX5 yX5_send yX5_send, Cond.code yX5_send cX5_send 5 (some .int), Cond.classLink RX5 91 RX2, Cond.instantiable RX2 5, Cond.initialized RX2, Cond.methodLink RX5 141 yX2_init, Cond.instanceMethod yX2_init, Cond.code yX2_init cX2_init 6 none, Cond.methodLink RX2 1 objectInit, Cond.fieldLink RX2 7 "PurseWorld$Message" "kind" "I", Cond.fieldLink RX2 13 "PurseWorld$Message" "to" "I", Cond.fieldLink RX2 16 "PurseWorld$Message" "terms" "LPurseWorld$Transfer;", Cond.fieldLink RX2 20 "PurseWorld$Message" "teller" "I"]
def wsX5_begin_r4 : List Cond := [Cond.fieldLink RX2 23 "PurseWorld$Message" "archived" "I", Cond.methodLink RX5 57 yJx4a65c_add_9ea2d, Cond.instanceMethod yJx4a65c_add_9ea2d, Cond.selects RJx4a65c yJx4a65c_add_9ea2d yJx4a65c_add_9ea2d, Cond.code yJx4a65c_add_9ea2d cJx4a65c_add_9ea2d 2 (some .boolean), Cond.fieldLink RJx4a65c 63 "java/util/ArrayList" "modCount" "I", Cond.sameField "java/util/ArrayList" "java/util/AbstractList" "modCount" "I", Cond.methodLink RJx4a65c 131 yJx4a65c_add_72be8, Cond.instanceMethod yJx4a65c_add_72be8, Cond.selects RJx4a65c yJx4a65c_add_72be8 yJx4a65c_add_72be8, Cond.code yJx4a65c_add_72be8 cJx4a65c_add_72be8 4 none, Cond.methodLink RJx4a65c 129 yJx4a65c_grow_d5877, Cond.instanceMethod yJx4a65c_grow_d5877, Cond.selects RJx4a65c yJx4a65c_grow_d5877 yJx4a65c_grow_d5877, Cond.code yJx4a65c_grow_d5877 cJx4a65c_grow_d5877 1 (some (.array (.object "java/lang/Object"))), Cond.methodLink RJx4a65c 69 yJx4a65c_grow_92f84, Cond.instanceMethod yJx4a65c_grow_92f84, Cond.selects RJx4a65c yJx4a65c_grow_92f84 yJx4a65c_grow_92f84, Cond.code yJx4a65c_grow_92f84 cJx4a65c_grow_92f84 4 (some (.array (.object "java/lang/Object"))), Cond.fieldLink RJx4a65c 39 "java/util/ArrayList" "DEFAULTCAPACITY_EMPTY_ELEMENTDATA" "[Ljava/lang/Object;", Cond.methodLink RJx4a65c 79 Lib.Math.max.name, Cond.static Lib.Math.max.name, Cond.initialized "java/lang/Math", Cond.code Lib.Math.max.name Lib.Math.max.code 2 (some .int)]
def wsX5_begin_r5 : List Cond := [Cond.classLink RJx4a65c 7 "java/lang/Object", Cond.methodLink RJx4a65c 73 yJ8_newLength_cabcc, Cond.static yJ8_newLength_cabcc, Cond.initialized RJ8, Cond.code yJ8_newLength_cabcc cJ8_newLength_cabcc 4 (some .int), Cond.methodLink RJ8 194 Lib.Math.max.name, Cond.constant RJ8 200 (2147483639), Cond.methodLink RJ8 201 yJ8_hugeLength_7cf53, Cond.static yJ8_hugeLength_7cf53, Cond.code yJ8_hugeLength_7cf53 cJ8_hugeLength_7cf53 3 (some .int), Cond.methodLink RJx4a65c 66 yJ7_copyOf_1904c, Cond.static yJ7_copyOf_1904c, Cond.initialized RJ7, Cond.code yJ7_copyOf_1904c cJ7_copyOf_1904c 2 (some (.array (.object "java/lang/Object"))), Cond.methodLink RJ7 86 ⟨"java/lang/Object", "getClass", "()Ljava/lang/Class;"⟩, Cond.selects "[Ljava/lang/Object;" ⟨"java/lang/Object", "getClass", "()Ljava/lang/Class;"⟩ ⟨"java/lang/Object", "getClass", "()Ljava/lang/Class;"⟩, Cond.instanceMethod ⟨"java/lang/Object", "getClass", "()Ljava/lang/Class;"⟩, Cond.native ⟨"java/lang/Object", "getClass", "()Ljava/lang/Class;"⟩, Cond.methodLink RJ7 300 yJ7_copyOf_6403c, Cond.static yJ7_copyOf_6403c, Cond.code yJ7_copyOf_6403c cJ7_copyOf_6403c 4 (some (.array (.object "java/lang/Object"))), Cond.classLink RJ7 110 "[Ljava/lang/Object;", Cond.classLink RJ7 2 "java/lang/Object", Cond.methodLink RJ7 304 Lib.Math.min.name]
def wsX5_begin_r6 : List Cond := [Cond.static Lib.Math.min.name, Cond.code Lib.Math.min.name Lib.Math.min.code 2 (some .int), Cond.methodLink RJ7 150 arraycopyName, Cond.native arraycopyName, Cond.static arraycopyName, Cond.initialized "java/lang/System"]
def wsX5_begin : List Cond := .code yX5_begin cX5_begin 7 (some .int) :: ((wsX5_begin_r1 ++ (wsX5_begin_r2 ++ (wsX5_begin_r3 ++ (wsX5_begin_r4 ++ (wsX5_begin_r5 ++ wsX5_begin_r6))))) ++ wsX40 ++ wsX30 ++ wsX50 ++ wsJx4a65c0 ++ wsX20 ++ (vx_atS RX5 40 "java/lang/IllegalArgumentException" ["java/lang/RuntimeException", "java/lang/Exception"]).filter goodWord ++ (vx_atS RX5 198 "java/lang/IndexOutOfBoundsException" ["java/lang/RuntimeException", "java/lang/Exception"]).filter goodWord ++ (vx_atS RX5 51 "java/lang/UnsupportedOperationException" ["java/lang/RuntimeException", "java/lang/Exception"]).filter goodWord)
def wsX5_messageAt_r1 : List Cond := [Cond.classLink RX5 194 "java/lang/IndexOutOfBoundsException", Cond.initialized "java/lang/IndexOutOfBoundsException", Cond.fieldLink RX5 25 "PurseWorld" "sent" "Ljava/util/ArrayList;", Cond.classLink RX5 91 "PurseWorld$Message", Cond.methodLink RX5 43 yJx4a65c_size_8abf5, Cond.instanceMethod yJx4a65c_size_8abf5, Cond.selects RJx4a65c yJx4a65c_size_8abf5 yJx4a65c_size_8abf5, Cond.initialized RJx4a65c, Cond.code yJx4a65c_size_8abf5 cJx4a65c_size_8abf5 1 (some .int), Cond.fieldLink RJx4a65c 48 "java/util/ArrayList" "size" "I", Cond.methodLink RX5 137 yJx4a65c_get_915e3, Cond.instanceMethod yJx4a65c_get_915e3, Cond.selects RJx4a65c yJx4a65c_get_915e3 yJx4a65c_get_915e3, Cond.code yJx4a65c_get_915e3 cJx4a65c_get_915e3 2 (some (.object "java/lang/Object")), Cond.methodLink RJx4a65c 118 yJ15_checkIndex_7cf53, Cond.static yJ15_checkIndex_7cf53, Cond.initialized RJ15, Cond.code yJ15_checkIndex_7cf53 cJ15_checkIndex_7cf53 2 (some .int), Cond.methodLink RJ15 105 yJ3_checkIndex_8e157, Cond.static yJ3_checkIndex_8e157, Cond.initialized RJ3, Cond.code yJ3_checkIndex_8e157 cJ3_checkIndex_8e157 3 (some .int), Cond.methodLink RJx4a65c 123 yJx4a65c_elementData_915e3, Cond.instanceMethod yJx4a65c_elementData_915e3]
def wsX5_messageAt_r2 : List Cond := [Cond.selects RJx4a65c yJx4a65c_elementData_915e3 yJx4a65c_elementData_915e3, Cond.code yJx4a65c_elementData_915e3 cJx4a65c_elementData_915e3 2 (some (.object "java/lang/Object")), Cond.fieldLink RJx4a65c 9 "java/util/ArrayList" "elementData" "[Ljava/lang/Object;"]
def wsX5_messageAt : List Cond := .code yX5_messageAt cX5_messageAt 2 (some (.object "PurseWorld$Message")) :: ((wsX5_messageAt_r1 ++ wsX5_messageAt_r2) ++ wsX50 ++ wsJx4a65c0 ++ (vx_atS RX5 198 "java/lang/IndexOutOfBoundsException" ["java/lang/RuntimeException", "java/lang/Exception"]).filter goodWord)
def wsX5_mayBeAnswered_r1 : List Cond := [Cond.fieldLink RX5 90 "PurseWorld$Message" "kind" "I", Cond.fieldLink RX5 199 "PurseWorld$Message" "to" "I", Cond.fieldLink RX5 113 "PurseWorld$Message" "terms" "LPurseWorld$Transfer;", Cond.methodLink RX5 61 yX5_purseAt, Cond.instanceMethod yX5_purseAt, Cond.selects RX5 yX5_purseAt yX5_purseAt, Cond.initialized RX5, Cond.code yX5_purseAt cX5_purseAt 2 (some (.object "PurseWorld$Purse")), Cond.classLink RX5 194 "java/lang/IndexOutOfBoundsException", Cond.initialized "java/lang/IndexOutOfBoundsException", Cond.fieldLink RX5 21 "PurseWorld" "owners" "Ljava/util/ArrayList;", Cond.classLink RX5 52 "PurseWorld$Purse", Cond.methodLink RX5 43 yJx4a65c_size_8abf5, Cond.instanceMethod yJx4a65c_size_8abf5, Cond.selects RJx4a65c yJx4a65c_size_8abf5 yJx4a65c_size_8abf5, Cond.initialized RJx4a65c, Cond.code yJx4a65c_size_8abf5 cJx4a65c_size_8abf5 1 (some .int), Cond.fieldLink RJx4a65c 48 "java/util/ArrayList" "size" "I", Cond.methodLink RX5 137 yJx4a65c_get_915e3, Cond.instanceMethod yJx4a65c_get_915e3, Cond.selects RJx4a65c yJx4a65c_get_915e3 yJx4a65c_get_915e3, Cond.code yJx4a65c_get_915e3 cJx4a65c_get_915e3 2 (some (.object "java/lang/Object")), Cond.methodLink RJx4a65c 118 yJ15_checkIndex_7cf53, Cond.static yJ15_checkIndex_7cf53]
def wsX5_mayBeAnswered_r2 : List Cond := [Cond.initialized RJ15, Cond.code yJ15_checkIndex_7cf53 cJ15_checkIndex_7cf53 2 (some .int), Cond.methodLink RJ15 105 yJ3_checkIndex_8e157, Cond.static yJ3_checkIndex_8e157, Cond.initialized RJ3, Cond.code yJ3_checkIndex_8e157 cJ3_checkIndex_8e157 3 (some .int), Cond.methodLink RJx4a65c 123 yJx4a65c_elementData_915e3, Cond.instanceMethod yJx4a65c_elementData_915e3, Cond.selects RJx4a65c yJx4a65c_elementData_915e3 yJx4a65c_elementData_915e3, Cond.code yJx4a65c_elementData_915e3 cJx4a65c_elementData_915e3 2 (some (.object "java/lang/Object")), Cond.fieldLink RJx4a65c 9 "java/util/ArrayList" "elementData" "[Ljava/lang/Object;", Cond.methodLink RX5 230 yX3_does, Cond.instanceMethod yX3_does, Cond.selects RX3 yX3_does yX3_does, Cond.initialized RX3, Cond.code yX3_does cX3_does 3 (some .boolean), Cond.fieldLink RX3 32 "PurseWorld$Purse" "state" "I", Cond.fieldLink RX3 35 "PurseWorld$Purse" "current" "LPurseWorld$Transfer;", Cond.methodLink RX3 42 yX4_same, Cond.instanceMethod yX4_same, Cond.selects RX4 yX4_same yX4_same, Cond.initialized RX4, Cond.code yX4_same cX4_same 2 (some .boolean), Cond.fieldLink RX4 7 "PurseWorld$Transfer" "payer" "I"]
def wsX5_mayBeAnswered_r3 : List Cond := [Cond.fieldLink RX4 13 "PurseWorld$Transfer" "payerSerial" "I", Cond.fieldLink RX4 16 "PurseWorld$Transfer" "payee" "I", Cond.fieldLink RX4 19 "PurseWorld$Transfer" "payeeSerial" "I", Cond.fieldLink RX4 22 "PurseWorld$Transfer" "amount" "I"]
def wsX5_mayBeAnswered : List Cond := .code yX5_mayBeAnswered cX5_mayBeAnswered 2 (some .boolean) :: ((wsX5_mayBeAnswered_r1 ++ (wsX5_mayBeAnswered_r2 ++ wsX5_mayBeAnswered_r3)) ++ wsX20 ++ wsX50 ++ wsJx4a65c0 ++ wsX30 ++ wsX40 ++ (vx_atS RX5 198 "java/lang/IndexOutOfBoundsException" ["java/lang/RuntimeException", "java/lang/Exception"]).filter goodWord)
def wsX5_takePay_r1 : List Cond := [Cond.fieldLink RX5 199 "PurseWorld$Message" "to" "I", Cond.fieldLink RX5 113 "PurseWorld$Message" "terms" "LPurseWorld$Transfer;", Cond.fieldLink RX5 179 "PurseWorld$Purse" "balance" "I", Cond.fieldLink RX5 182 "PurseWorld$Transfer" "amount" "I", Cond.classLink RX5 7 RX4, Cond.instantiable RX4 5, Cond.initialized RX4, Cond.fieldLink RX5 237 "PurseWorld$Purse" "number" "I", Cond.fieldLink RX5 74 "PurseWorld$Purse" "serial" "I", Cond.fieldLink RX5 164 "PurseWorld$Transfer" "payee" "I", Cond.fieldLink RX5 223 "PurseWorld$Transfer" "payeeSerial" "I", Cond.methodLink RX5 61 yX5_purseAt, Cond.instanceMethod yX5_purseAt, Cond.selects RX5 yX5_purseAt yX5_purseAt, Cond.initialized RX5, Cond.code yX5_purseAt cX5_purseAt 2 (some (.object "PurseWorld$Purse")), Cond.classLink RX5 194 "java/lang/IndexOutOfBoundsException", Cond.initialized "java/lang/IndexOutOfBoundsException", Cond.fieldLink RX5 21 "PurseWorld" "owners" "Ljava/util/ArrayList;", Cond.classLink RX5 52 "PurseWorld$Purse", Cond.methodLink RX5 43 yJx4a65c_size_8abf5, Cond.instanceMethod yJx4a65c_size_8abf5, Cond.selects RJx4a65c yJx4a65c_size_8abf5 yJx4a65c_size_8abf5, Cond.initialized RJx4a65c]
def wsX5_takePay_r2 : List Cond := [Cond.code yJx4a65c_size_8abf5 cJx4a65c_size_8abf5 1 (some .int), Cond.fieldLink RJx4a65c 48 "java/util/ArrayList" "size" "I", Cond.methodLink RX5 137 yJx4a65c_get_915e3, Cond.instanceMethod yJx4a65c_get_915e3, Cond.selects RJx4a65c yJx4a65c_get_915e3 yJx4a65c_get_915e3, Cond.code yJx4a65c_get_915e3 cJx4a65c_get_915e3 2 (some (.object "java/lang/Object")), Cond.methodLink RJx4a65c 118 yJ15_checkIndex_7cf53, Cond.static yJ15_checkIndex_7cf53, Cond.initialized RJ15, Cond.code yJ15_checkIndex_7cf53 cJ15_checkIndex_7cf53 2 (some .int), Cond.methodLink RJ15 105 yJ3_checkIndex_8e157, Cond.static yJ3_checkIndex_8e157, Cond.initialized RJ3, Cond.code yJ3_checkIndex_8e157 cJ3_checkIndex_8e157 3 (some .int), Cond.methodLink RJx4a65c 123 yJx4a65c_elementData_915e3, Cond.instanceMethod yJx4a65c_elementData_915e3, Cond.selects RJx4a65c yJx4a65c_elementData_915e3 yJx4a65c_elementData_915e3, Cond.code yJx4a65c_elementData_915e3 cJx4a65c_elementData_915e3 2 (some (.object "java/lang/Object")), Cond.fieldLink RJx4a65c 9 "java/util/ArrayList" "elementData" "[Ljava/lang/Object;", Cond.methodLink RX5 126 yX3_end, Cond.instanceMethod yX3_end, Cond.selects RX3 yX3_end yX3_end, Cond.initialized RX3, Cond.code yX3_end cX3_end 1 none]
def wsX5_takePay_r3 : List Cond := [Cond.fieldLink RX3 32 "PurseWorld$Purse" "state" "I", Cond.fieldLink RX3 25 "PurseWorld$Purse" "kept" "Ljava/util/ArrayList;", Cond.fieldLink RX3 35 "PurseWorld$Purse" "current" "LPurseWorld$Transfer;", Cond.fieldLink RX3 29 "PurseWorld$Purse" "serial" "I", Cond.methodLink RX3 52 yJx4a65c_add_9ea2d, Cond.instanceMethod yJx4a65c_add_9ea2d, Cond.selects RJx4a65c yJx4a65c_add_9ea2d yJx4a65c_add_9ea2d, Cond.code yJx4a65c_add_9ea2d cJx4a65c_add_9ea2d 2 (some .boolean), Cond.fieldLink RJx4a65c 63 "java/util/ArrayList" "modCount" "I", Cond.sameField "java/util/ArrayList" "java/util/AbstractList" "modCount" "I", Cond.methodLink RJx4a65c 131 yJx4a65c_add_72be8, Cond.instanceMethod yJx4a65c_add_72be8, Cond.selects RJx4a65c yJx4a65c_add_72be8 yJx4a65c_add_72be8, Cond.code yJx4a65c_add_72be8 cJx4a65c_add_72be8 4 none, Cond.methodLink RJx4a65c 129 yJx4a65c_grow_d5877, Cond.instanceMethod yJx4a65c_grow_d5877, Cond.selects RJx4a65c yJx4a65c_grow_d5877 yJx4a65c_grow_d5877, Cond.code yJx4a65c_grow_d5877 cJx4a65c_grow_d5877 1 (some (.array (.object "java/lang/Object"))), Cond.methodLink RJx4a65c 69 yJx4a65c_grow_92f84, Cond.instanceMethod yJx4a65c_grow_92f84, Cond.selects RJx4a65c yJx4a65c_grow_92f84 yJx4a65c_grow_92f84, Cond.code yJx4a65c_grow_92f84 cJx4a65c_grow_92f84 4 (some (.array (.object "java/lang/Object"))), Cond.fieldLink RJx4a65c 39 "java/util/ArrayList" "DEFAULTCAPACITY_EMPTY_ELEMENTDATA" "[Ljava/lang/Object;", Cond.methodLink RJx4a65c 79 Lib.Math.max.name]
def wsX5_takePay_r4 : List Cond := [Cond.static Lib.Math.max.name, Cond.initialized "java/lang/Math", Cond.code Lib.Math.max.name Lib.Math.max.code 2 (some .int), Cond.classLink RJx4a65c 7 "java/lang/Object", Cond.methodLink RJx4a65c 73 yJ8_newLength_cabcc, Cond.static yJ8_newLength_cabcc, Cond.initialized RJ8, Cond.code yJ8_newLength_cabcc cJ8_newLength_cabcc 4 (some .int), Cond.methodLink RJ8 194 Lib.Math.max.name, Cond.constant RJ8 200 (2147483639), Cond.methodLink RJ8 201 yJ8_hugeLength_7cf53, Cond.static yJ8_hugeLength_7cf53, Cond.code yJ8_hugeLength_7cf53 cJ8_hugeLength_7cf53 3 (some .int), Cond.methodLink RJx4a65c 66 yJ7_copyOf_1904c, Cond.static yJ7_copyOf_1904c, Cond.initialized RJ7, Cond.code yJ7_copyOf_1904c cJ7_copyOf_1904c 2 (some (.array (.object "java/lang/Object"))), Cond.methodLink RJ7 86 ⟨"java/lang/Object", "getClass", "()Ljava/lang/Class;"⟩, Cond.selects "[Ljava/lang/Object;" ⟨"java/lang/Object", "getClass", "()Ljava/lang/Class;"⟩ ⟨"java/lang/Object", "getClass", "()Ljava/lang/Class;"⟩, Cond.instanceMethod ⟨"java/lang/Object", "getClass", "()Ljava/lang/Class;"⟩, Cond.native ⟨"java/lang/Object", "getClass", "()Ljava/lang/Class;"⟩, Cond.methodLink RJ7 300 yJ7_copyOf_6403c, Cond.static yJ7_copyOf_6403c, Cond.code yJ7_copyOf_6403c cJ7_copyOf_6403c 4 (some (.array (.object "java/lang/Object")))]
def wsX5_takePay_r5 : List Cond := [Cond.classLink RJ7 110 "[Ljava/lang/Object;", Cond.classLink RJ7 2 "java/lang/Object", Cond.methodLink RJ7 304 Lib.Math.min.name, Cond.static Lib.Math.min.name, Cond.code Lib.Math.min.name Lib.Math.min.code 2 (some .int), Cond.methodLink RJ7 150 arraycopyName, Cond.native arraycopyName, Cond.static arraycopyName, Cond.initialized "java/lang/System", Cond.methodLink RX3 56 yX3_rest, Cond.instanceMethod yX3_rest, Cond.selects RX3 yX3_rest yX3_rest, Cond.code yX3_rest cX3_rest 1 none, Cond.fieldLink RX3 18 "PurseWorld$Purse" "nothing" "LPurseWorld$Transfer;", Cond.methodLink RX5 233 yX3_logIsFull, Cond.instanceMethod yX3_logIsFull, Cond.selects RX3 yX3_logIsFull yX3_logIsFull, Cond.code yX3_logIsFull cX3_logIsFull 1 (some .boolean), Cond.methodLink RX3 38 yJx4a65c_size_8abf5, Cond.methodLink RX5 11 yX4_init, Cond.instanceMethod yX4_init, Cond.code yX4_init cX4_init 6 none, Cond.methodLink RX4 1 objectInit, Cond.instanceMethod objectInit]
def wsX5_takePay_r6 : List Cond := [Cond.code objectInit ⟨#[0xb1]⟩ 1 none, Cond.fieldLink RX4 7 "PurseWorld$Transfer" "payer" "I", Cond.fieldLink RX4 13 "PurseWorld$Transfer" "payerSerial" "I", Cond.fieldLink RX4 16 "PurseWorld$Transfer" "payee" "I", Cond.fieldLink RX4 19 "PurseWorld$Transfer" "payeeSerial" "I", Cond.fieldLink RX4 22 "PurseWorld$Transfer" "amount" "I", Cond.methodLink RX5 240 yX3_start, Cond.instanceMethod yX3_start, Cond.selects RX3 yX3_start yX3_start, Cond.code yX3_start cX3_start 3 none]
def wsX5_takePay : List Cond := .code yX5_takePay cX5_takePay 4 (some .boolean) :: ((wsX5_takePay_r1 ++ (wsX5_takePay_r2 ++ (wsX5_takePay_r3 ++ (wsX5_takePay_r4 ++ (wsX5_takePay_r5 ++ wsX5_takePay_r6))))) ++ wsX20 ++ wsX30 ++ wsX40 ++ wsX50 ++ wsJx4a65c0 ++ (vx_atS RX5 198 "java/lang/IndexOutOfBoundsException" ["java/lang/RuntimeException", "java/lang/Exception"]).filter goodWord)
def wsX5_takeEarn_r1 : List Cond := [Cond.fieldLink RX5 199 "PurseWorld$Message" "to" "I", Cond.fieldLink RX5 113 "PurseWorld$Message" "terms" "LPurseWorld$Transfer;", Cond.classLink RX5 7 RX4, Cond.instantiable RX4 5, Cond.initialized RX4, Cond.fieldLink RX5 158 "PurseWorld$Transfer" "payer" "I", Cond.fieldLink RX5 220 "PurseWorld$Transfer" "payerSerial" "I", Cond.fieldLink RX5 237 "PurseWorld$Purse" "number" "I", Cond.fieldLink RX5 74 "PurseWorld$Purse" "serial" "I", Cond.fieldLink RX5 182 "PurseWorld$Transfer" "amount" "I", Cond.fieldLink RX5 187 "PurseWorld$Purse" "current" "LPurseWorld$Transfer;", Cond.methodLink RX5 61 yX5_purseAt, Cond.instanceMethod yX5_purseAt, Cond.selects RX5 yX5_purseAt yX5_purseAt, Cond.initialized RX5, Cond.code yX5_purseAt cX5_purseAt 2 (some (.object "PurseWorld$Purse")), Cond.classLink RX5 194 "java/lang/IndexOutOfBoundsException", Cond.initialized "java/lang/IndexOutOfBoundsException", Cond.fieldLink RX5 21 "PurseWorld" "owners" "Ljava/util/ArrayList;", Cond.classLink RX5 52 "PurseWorld$Purse", Cond.methodLink RX5 43 yJx4a65c_size_8abf5, Cond.instanceMethod yJx4a65c_size_8abf5, Cond.selects RJx4a65c yJx4a65c_size_8abf5 yJx4a65c_size_8abf5, Cond.initialized RJx4a65c]
def wsX5_takeEarn_r2 : List Cond := [Cond.code yJx4a65c_size_8abf5 cJx4a65c_size_8abf5 1 (some .int), Cond.fieldLink RJx4a65c 48 "java/util/ArrayList" "size" "I", Cond.methodLink RX5 137 yJx4a65c_get_915e3, Cond.instanceMethod yJx4a65c_get_915e3, Cond.selects RJx4a65c yJx4a65c_get_915e3 yJx4a65c_get_915e3, Cond.code yJx4a65c_get_915e3 cJx4a65c_get_915e3 2 (some (.object "java/lang/Object")), Cond.methodLink RJx4a65c 118 yJ15_checkIndex_7cf53, Cond.static yJ15_checkIndex_7cf53, Cond.initialized RJ15, Cond.code yJ15_checkIndex_7cf53 cJ15_checkIndex_7cf53 2 (some .int), Cond.methodLink RJ15 105 yJ3_checkIndex_8e157, Cond.static yJ3_checkIndex_8e157, Cond.initialized RJ3, Cond.code yJ3_checkIndex_8e157 cJ3_checkIndex_8e157 3 (some .int), Cond.methodLink RJx4a65c 123 yJx4a65c_elementData_915e3, Cond.instanceMethod yJx4a65c_elementData_915e3, Cond.selects RJx4a65c yJx4a65c_elementData_915e3 yJx4a65c_elementData_915e3, Cond.code yJx4a65c_elementData_915e3 cJx4a65c_elementData_915e3 2 (some (.object "java/lang/Object")), Cond.fieldLink RJx4a65c 9 "java/util/ArrayList" "elementData" "[Ljava/lang/Object;", Cond.methodLink RX5 126 yX3_end, Cond.instanceMethod yX3_end, Cond.selects RX3 yX3_end yX3_end, Cond.initialized RX3, Cond.code yX3_end cX3_end 1 none]
def wsX5_takeEarn_r3 : List Cond := [Cond.fieldLink RX3 32 "PurseWorld$Purse" "state" "I", Cond.fieldLink RX3 25 "PurseWorld$Purse" "kept" "Ljava/util/ArrayList;", Cond.fieldLink RX3 35 "PurseWorld$Purse" "current" "LPurseWorld$Transfer;", Cond.fieldLink RX3 29 "PurseWorld$Purse" "serial" "I", Cond.methodLink RX3 52 yJx4a65c_add_9ea2d, Cond.instanceMethod yJx4a65c_add_9ea2d, Cond.selects RJx4a65c yJx4a65c_add_9ea2d yJx4a65c_add_9ea2d, Cond.code yJx4a65c_add_9ea2d cJx4a65c_add_9ea2d 2 (some .boolean), Cond.fieldLink RJx4a65c 63 "java/util/ArrayList" "modCount" "I", Cond.sameField "java/util/ArrayList" "java/util/AbstractList" "modCount" "I", Cond.methodLink RJx4a65c 131 yJx4a65c_add_72be8, Cond.instanceMethod yJx4a65c_add_72be8, Cond.selects RJx4a65c yJx4a65c_add_72be8 yJx4a65c_add_72be8, Cond.code yJx4a65c_add_72be8 cJx4a65c_add_72be8 4 none, Cond.methodLink RJx4a65c 129 yJx4a65c_grow_d5877, Cond.instanceMethod yJx4a65c_grow_d5877, Cond.selects RJx4a65c yJx4a65c_grow_d5877 yJx4a65c_grow_d5877, Cond.code yJx4a65c_grow_d5877 cJx4a65c_grow_d5877 1 (some (.array (.object "java/lang/Object"))), Cond.methodLink RJx4a65c 69 yJx4a65c_grow_92f84, Cond.instanceMethod yJx4a65c_grow_92f84, Cond.selects RJx4a65c yJx4a65c_grow_92f84 yJx4a65c_grow_92f84, Cond.code yJx4a65c_grow_92f84 cJx4a65c_grow_92f84 4 (some (.array (.object "java/lang/Object"))), Cond.fieldLink RJx4a65c 39 "java/util/ArrayList" "DEFAULTCAPACITY_EMPTY_ELEMENTDATA" "[Ljava/lang/Object;", Cond.methodLink RJx4a65c 79 Lib.Math.max.name]
def wsX5_takeEarn_r4 : List Cond := [Cond.static Lib.Math.max.name, Cond.initialized "java/lang/Math", Cond.code Lib.Math.max.name Lib.Math.max.code 2 (some .int), Cond.classLink RJx4a65c 7 "java/lang/Object", Cond.methodLink RJx4a65c 73 yJ8_newLength_cabcc, Cond.static yJ8_newLength_cabcc, Cond.initialized RJ8, Cond.code yJ8_newLength_cabcc cJ8_newLength_cabcc 4 (some .int), Cond.methodLink RJ8 194 Lib.Math.max.name, Cond.constant RJ8 200 (2147483639), Cond.methodLink RJ8 201 yJ8_hugeLength_7cf53, Cond.static yJ8_hugeLength_7cf53, Cond.code yJ8_hugeLength_7cf53 cJ8_hugeLength_7cf53 3 (some .int), Cond.methodLink RJx4a65c 66 yJ7_copyOf_1904c, Cond.static yJ7_copyOf_1904c, Cond.initialized RJ7, Cond.code yJ7_copyOf_1904c cJ7_copyOf_1904c 2 (some (.array (.object "java/lang/Object"))), Cond.methodLink RJ7 86 ⟨"java/lang/Object", "getClass", "()Ljava/lang/Class;"⟩, Cond.selects "[Ljava/lang/Object;" ⟨"java/lang/Object", "getClass", "()Ljava/lang/Class;"⟩ ⟨"java/lang/Object", "getClass", "()Ljava/lang/Class;"⟩, Cond.instanceMethod ⟨"java/lang/Object", "getClass", "()Ljava/lang/Class;"⟩, Cond.native ⟨"java/lang/Object", "getClass", "()Ljava/lang/Class;"⟩, Cond.methodLink RJ7 300 yJ7_copyOf_6403c, Cond.static yJ7_copyOf_6403c, Cond.code yJ7_copyOf_6403c cJ7_copyOf_6403c 4 (some (.array (.object "java/lang/Object")))]
def wsX5_takeEarn_r5 : List Cond := [Cond.classLink RJ7 110 "[Ljava/lang/Object;", Cond.classLink RJ7 2 "java/lang/Object", Cond.methodLink RJ7 304 Lib.Math.min.name, Cond.static Lib.Math.min.name, Cond.code Lib.Math.min.name Lib.Math.min.code 2 (some .int), Cond.methodLink RJ7 150 arraycopyName, Cond.native arraycopyName, Cond.static arraycopyName, Cond.initialized "java/lang/System", Cond.methodLink RX3 56 yX3_rest, Cond.instanceMethod yX3_rest, Cond.selects RX3 yX3_rest yX3_rest, Cond.code yX3_rest cX3_rest 1 none, Cond.fieldLink RX3 18 "PurseWorld$Purse" "nothing" "LPurseWorld$Transfer;", Cond.methodLink RX5 233 yX3_logIsFull, Cond.instanceMethod yX3_logIsFull, Cond.selects RX3 yX3_logIsFull yX3_logIsFull, Cond.code yX3_logIsFull cX3_logIsFull 1 (some .boolean), Cond.methodLink RX3 38 yJx4a65c_size_8abf5, Cond.methodLink RX5 11 yX4_init, Cond.instanceMethod yX4_init, Cond.code yX4_init cX4_init 6 none, Cond.methodLink RX4 1 objectInit, Cond.instanceMethod objectInit]
def wsX5_takeEarn_r6 : List Cond := [Cond.code objectInit ⟨#[0xb1]⟩ 1 none, Cond.fieldLink RX4 7 "PurseWorld$Transfer" "payer" "I", Cond.fieldLink RX4 13 "PurseWorld$Transfer" "payerSerial" "I", Cond.fieldLink RX4 16 "PurseWorld$Transfer" "payee" "I", Cond.fieldLink RX4 19 "PurseWorld$Transfer" "payeeSerial" "I", Cond.fieldLink RX4 22 "PurseWorld$Transfer" "amount" "I", Cond.methodLink RX5 240 yX3_start, Cond.instanceMethod yX3_start, Cond.selects RX3 yX3_start yX3_start, Cond.code yX3_start cX3_start 3 none, Cond.methodLink RX5 78 yX5_send, Cond.instanceMethod yX5_send, Cond.selects RX5 yX5_send yX5_send, Cond.code yX5_send cX5_send 5 (some .int), Cond.fieldLink RX5 25 "PurseWorld" "sent" "Ljava/util/ArrayList;", Cond.classLink RX5 91 RX2, Cond.instantiable RX2 5, Cond.initialized RX2, Cond.methodLink RX5 141 yX2_init, Cond.instanceMethod yX2_init, Cond.code yX2_init cX2_init 6 none, Cond.methodLink RX2 1 objectInit, Cond.fieldLink RX2 7 "PurseWorld$Message" "kind" "I", Cond.fieldLink RX2 13 "PurseWorld$Message" "to" "I"]
def wsX5_takeEarn_r7 : List Cond := [Cond.fieldLink RX2 16 "PurseWorld$Message" "terms" "LPurseWorld$Transfer;", Cond.fieldLink RX2 20 "PurseWorld$Message" "teller" "I", Cond.fieldLink RX2 23 "PurseWorld$Message" "archived" "I", Cond.methodLink RX5 57 yJx4a65c_add_9ea2d]
def wsX5_takeEarn : List Cond := .code yX5_takeEarn cX5_takeEarn 4 (some .boolean) :: ((wsX5_takeEarn_r1 ++ (wsX5_takeEarn_r2 ++ (wsX5_takeEarn_r3 ++ (wsX5_takeEarn_r4 ++ (wsX5_takeEarn_r5 ++ (wsX5_takeEarn_r6 ++ wsX5_takeEarn_r7)))))) ++ wsX20 ++ wsX40 ++ wsX30 ++ wsX50 ++ wsJx4a65c0 ++ (vx_atS RX5 198 "java/lang/IndexOutOfBoundsException" ["java/lang/RuntimeException", "java/lang/Exception"]).filter goodWord)
def wsX5_takeAsk_r1 : List Cond := [Cond.fieldLink RX5 199 "PurseWorld$Message" "to" "I", Cond.fieldLink RX5 113 "PurseWorld$Message" "terms" "LPurseWorld$Transfer;", Cond.fieldLink RX5 179 "PurseWorld$Purse" "balance" "I", Cond.fieldLink RX5 182 "PurseWorld$Transfer" "amount" "I", Cond.fieldLink RX5 123 "PurseWorld$Purse" "state" "I", Cond.fieldLink RX5 164 "PurseWorld$Transfer" "payee" "I", Cond.methodLink RX5 61 yX5_purseAt, Cond.instanceMethod yX5_purseAt, Cond.selects RX5 yX5_purseAt yX5_purseAt, Cond.initialized RX5, Cond.code yX5_purseAt cX5_purseAt 2 (some (.object "PurseWorld$Purse")), Cond.classLink RX5 194 "java/lang/IndexOutOfBoundsException", Cond.initialized "java/lang/IndexOutOfBoundsException", Cond.fieldLink RX5 21 "PurseWorld" "owners" "Ljava/util/ArrayList;", Cond.classLink RX5 52 "PurseWorld$Purse", Cond.methodLink RX5 43 yJx4a65c_size_8abf5, Cond.instanceMethod yJx4a65c_size_8abf5, Cond.selects RJx4a65c yJx4a65c_size_8abf5 yJx4a65c_size_8abf5, Cond.initialized RJx4a65c, Cond.code yJx4a65c_size_8abf5 cJx4a65c_size_8abf5 1 (some .int), Cond.fieldLink RJx4a65c 48 "java/util/ArrayList" "size" "I", Cond.methodLink RX5 137 yJx4a65c_get_915e3, Cond.instanceMethod yJx4a65c_get_915e3, Cond.selects RJx4a65c yJx4a65c_get_915e3 yJx4a65c_get_915e3]
def wsX5_takeAsk_r2 : List Cond := [Cond.code yJx4a65c_get_915e3 cJx4a65c_get_915e3 2 (some (.object "java/lang/Object")), Cond.methodLink RJx4a65c 118 yJ15_checkIndex_7cf53, Cond.static yJ15_checkIndex_7cf53, Cond.initialized RJ15, Cond.code yJ15_checkIndex_7cf53 cJ15_checkIndex_7cf53 2 (some .int), Cond.methodLink RJ15 105 yJ3_checkIndex_8e157, Cond.static yJ3_checkIndex_8e157, Cond.initialized RJ3, Cond.code yJ3_checkIndex_8e157 cJ3_checkIndex_8e157 3 (some .int), Cond.methodLink RJx4a65c 123 yJx4a65c_elementData_915e3, Cond.instanceMethod yJx4a65c_elementData_915e3, Cond.selects RJx4a65c yJx4a65c_elementData_915e3 yJx4a65c_elementData_915e3, Cond.code yJx4a65c_elementData_915e3 cJx4a65c_elementData_915e3 2 (some (.object "java/lang/Object")), Cond.fieldLink RJx4a65c 9 "java/util/ArrayList" "elementData" "[Ljava/lang/Object;", Cond.methodLink RX5 230 yX3_does, Cond.instanceMethod yX3_does, Cond.selects RX3 yX3_does yX3_does, Cond.initialized RX3, Cond.code yX3_does cX3_does 3 (some .boolean), Cond.fieldLink RX3 32 "PurseWorld$Purse" "state" "I", Cond.fieldLink RX3 35 "PurseWorld$Purse" "current" "LPurseWorld$Transfer;", Cond.methodLink RX3 42 yX4_same, Cond.instanceMethod yX4_same, Cond.selects RX4 yX4_same yX4_same]
def wsX5_takeAsk_r3 : List Cond := [Cond.initialized RX4, Cond.code yX4_same cX4_same 2 (some .boolean), Cond.fieldLink RX4 7 "PurseWorld$Transfer" "payer" "I", Cond.fieldLink RX4 13 "PurseWorld$Transfer" "payerSerial" "I", Cond.fieldLink RX4 16 "PurseWorld$Transfer" "payee" "I", Cond.fieldLink RX4 19 "PurseWorld$Transfer" "payeeSerial" "I", Cond.fieldLink RX4 22 "PurseWorld$Transfer" "amount" "I", Cond.methodLink RX5 78 yX5_send, Cond.instanceMethod yX5_send, Cond.selects RX5 yX5_send yX5_send, Cond.code yX5_send cX5_send 5 (some .int), Cond.fieldLink RX5 25 "PurseWorld" "sent" "Ljava/util/ArrayList;", Cond.classLink RX5 91 RX2, Cond.instantiable RX2 5, Cond.initialized RX2, Cond.methodLink RX5 141 yX2_init, Cond.instanceMethod yX2_init, Cond.code yX2_init cX2_init 6 none, Cond.methodLink RX2 1 objectInit, Cond.instanceMethod objectInit, Cond.code objectInit ⟨#[0xb1]⟩ 1 none, Cond.fieldLink RX2 7 "PurseWorld$Message" "kind" "I", Cond.fieldLink RX2 13 "PurseWorld$Message" "to" "I", Cond.fieldLink RX2 16 "PurseWorld$Message" "terms" "LPurseWorld$Transfer;"]
def wsX5_takeAsk_r4 : List Cond := [Cond.fieldLink RX2 20 "PurseWorld$Message" "teller" "I", Cond.fieldLink RX2 23 "PurseWorld$Message" "archived" "I", Cond.methodLink RX5 57 yJx4a65c_add_9ea2d, Cond.instanceMethod yJx4a65c_add_9ea2d, Cond.selects RJx4a65c yJx4a65c_add_9ea2d yJx4a65c_add_9ea2d, Cond.code yJx4a65c_add_9ea2d cJx4a65c_add_9ea2d 2 (some .boolean), Cond.fieldLink RJx4a65c 63 "java/util/ArrayList" "modCount" "I", Cond.sameField "java/util/ArrayList" "java/util/AbstractList" "modCount" "I", Cond.methodLink RJx4a65c 131 yJx4a65c_add_72be8, Cond.instanceMethod yJx4a65c_add_72be8, Cond.selects RJx4a65c yJx4a65c_add_72be8 yJx4a65c_add_72be8, Cond.code yJx4a65c_add_72be8 cJx4a65c_add_72be8 4 none, Cond.methodLink RJx4a65c 129 yJx4a65c_grow_d5877, Cond.instanceMethod yJx4a65c_grow_d5877, Cond.selects RJx4a65c yJx4a65c_grow_d5877 yJx4a65c_grow_d5877, Cond.code yJx4a65c_grow_d5877 cJx4a65c_grow_d5877 1 (some (.array (.object "java/lang/Object"))), Cond.methodLink RJx4a65c 69 yJx4a65c_grow_92f84, Cond.instanceMethod yJx4a65c_grow_92f84, Cond.selects RJx4a65c yJx4a65c_grow_92f84 yJx4a65c_grow_92f84, Cond.code yJx4a65c_grow_92f84 cJx4a65c_grow_92f84 4 (some (.array (.object "java/lang/Object"))), Cond.fieldLink RJx4a65c 39 "java/util/ArrayList" "DEFAULTCAPACITY_EMPTY_ELEMENTDATA" "[Ljava/lang/Object;", Cond.methodLink RJx4a65c 79 Lib.Math.max.name, Cond.static Lib.Math.max.name, Cond.initialized "java/lang/Math"]
def wsX5_takeAsk_r5 : List Cond := [Cond.code Lib.Math.max.name Lib.Math.max.code 2 (some .int), Cond.classLink RJx4a65c 7 "java/lang/Object", Cond.methodLink RJx4a65c 73 yJ8_newLength_cabcc, Cond.static yJ8_newLength_cabcc, Cond.initialized RJ8, Cond.code yJ8_newLength_cabcc cJ8_newLength_cabcc 4 (some .int), Cond.methodLink RJ8 194 Lib.Math.max.name, Cond.constant RJ8 200 (2147483639), Cond.methodLink RJ8 201 yJ8_hugeLength_7cf53, Cond.static yJ8_hugeLength_7cf53, Cond.code yJ8_hugeLength_7cf53 cJ8_hugeLength_7cf53 3 (some .int), Cond.methodLink RJx4a65c 66 yJ7_copyOf_1904c, Cond.static yJ7_copyOf_1904c, Cond.initialized RJ7, Cond.code yJ7_copyOf_1904c cJ7_copyOf_1904c 2 (some (.array (.object "java/lang/Object"))), Cond.methodLink RJ7 86 ⟨"java/lang/Object", "getClass", "()Ljava/lang/Class;"⟩, Cond.selects "[Ljava/lang/Object;" ⟨"java/lang/Object", "getClass", "()Ljava/lang/Class;"⟩ ⟨"java/lang/Object", "getClass", "()Ljava/lang/Class;"⟩, Cond.instanceMethod ⟨"java/lang/Object", "getClass", "()Ljava/lang/Class;"⟩, Cond.native ⟨"java/lang/Object", "getClass", "()Ljava/lang/Class;"⟩, Cond.methodLink RJ7 300 yJ7_copyOf_6403c, Cond.static yJ7_copyOf_6403c, Cond.code yJ7_copyOf_6403c cJ7_copyOf_6403c 4 (some (.array (.object "java/lang/Object"))), Cond.classLink RJ7 110 "[Ljava/lang/Object;", Cond.classLink RJ7 2 "java/lang/Object"]
def wsX5_takeAsk_r6 : List Cond := [Cond.methodLink RJ7 304 Lib.Math.min.name, Cond.static Lib.Math.min.name, Cond.code Lib.Math.min.name Lib.Math.min.code 2 (some .int), Cond.methodLink RJ7 150 arraycopyName, Cond.native arraycopyName, Cond.static arraycopyName, Cond.initialized "java/lang/System"]
def wsX5_takeAsk : List Cond := .code yX5_takeAsk cX5_takeAsk 3 (some .boolean) :: ((wsX5_takeAsk_r1 ++ (wsX5_takeAsk_r2 ++ (wsX5_takeAsk_r3 ++ (wsX5_takeAsk_r4 ++ (wsX5_takeAsk_r5 ++ wsX5_takeAsk_r6))))) ++ wsX20 ++ wsX30 ++ wsX40 ++ wsX50 ++ wsJx4a65c0 ++ (vx_atS RX5 198 "java/lang/IndexOutOfBoundsException" ["java/lang/RuntimeException", "java/lang/Exception"]).filter goodWord)
def wsX5_takeValue_r1 : List Cond := [Cond.fieldLink RX5 199 "PurseWorld$Message" "to" "I", Cond.fieldLink RX5 113 "PurseWorld$Message" "terms" "LPurseWorld$Transfer;", Cond.fieldLink RX5 179 "PurseWorld$Purse" "balance" "I", Cond.fieldLink RX5 182 "PurseWorld$Transfer" "amount" "I", Cond.fieldLink RX5 158 "PurseWorld$Transfer" "payer" "I", Cond.methodLink RX5 61 yX5_purseAt, Cond.instanceMethod yX5_purseAt, Cond.selects RX5 yX5_purseAt yX5_purseAt, Cond.initialized RX5, Cond.code yX5_purseAt cX5_purseAt 2 (some (.object "PurseWorld$Purse")), Cond.classLink RX5 194 "java/lang/IndexOutOfBoundsException", Cond.initialized "java/lang/IndexOutOfBoundsException", Cond.fieldLink RX5 21 "PurseWorld" "owners" "Ljava/util/ArrayList;", Cond.classLink RX5 52 "PurseWorld$Purse", Cond.methodLink RX5 43 yJx4a65c_size_8abf5, Cond.instanceMethod yJx4a65c_size_8abf5, Cond.selects RJx4a65c yJx4a65c_size_8abf5 yJx4a65c_size_8abf5, Cond.initialized RJx4a65c, Cond.code yJx4a65c_size_8abf5 cJx4a65c_size_8abf5 1 (some .int), Cond.fieldLink RJx4a65c 48 "java/util/ArrayList" "size" "I", Cond.methodLink RX5 137 yJx4a65c_get_915e3, Cond.instanceMethod yJx4a65c_get_915e3, Cond.selects RJx4a65c yJx4a65c_get_915e3 yJx4a65c_get_915e3, Cond.code yJx4a65c_get_915e3 cJx4a65c_get_915e3 2 (some (.object "java/lang/Object"))]
def wsX5_takeValue_r2 : List Cond := [Cond.methodLink RJx4a65c 118 yJ15_checkIndex_7cf53, Cond.static yJ15_checkIndex_7cf53, Cond.initialized RJ15, Cond.code yJ15_checkIndex_7cf53 cJ15_checkIndex_7cf53 2 (some .int), Cond.methodLink RJ15 105 yJ3_checkIndex_8e157, Cond.static yJ3_checkIndex_8e157, Cond.initialized RJ3, Cond.code yJ3_checkIndex_8e157 cJ3_checkIndex_8e157 3 (some .int), Cond.methodLink RJx4a65c 123 yJx4a65c_elementData_915e3, Cond.instanceMethod yJx4a65c_elementData_915e3, Cond.selects RJx4a65c yJx4a65c_elementData_915e3 yJx4a65c_elementData_915e3, Cond.code yJx4a65c_elementData_915e3 cJx4a65c_elementData_915e3 2 (some (.object "java/lang/Object")), Cond.fieldLink RJx4a65c 9 "java/util/ArrayList" "elementData" "[Ljava/lang/Object;", Cond.methodLink RX5 230 yX3_does, Cond.instanceMethod yX3_does, Cond.selects RX3 yX3_does yX3_does, Cond.initialized RX3, Cond.code yX3_does cX3_does 3 (some .boolean), Cond.fieldLink RX3 32 "PurseWorld$Purse" "state" "I", Cond.fieldLink RX3 35 "PurseWorld$Purse" "current" "LPurseWorld$Transfer;", Cond.methodLink RX3 42 yX4_same, Cond.instanceMethod yX4_same, Cond.selects RX4 yX4_same yX4_same, Cond.initialized RX4]
def wsX5_takeValue_r3 : List Cond := [Cond.code yX4_same cX4_same 2 (some .boolean), Cond.fieldLink RX4 7 "PurseWorld$Transfer" "payer" "I", Cond.fieldLink RX4 13 "PurseWorld$Transfer" "payerSerial" "I", Cond.fieldLink RX4 16 "PurseWorld$Transfer" "payee" "I", Cond.fieldLink RX4 19 "PurseWorld$Transfer" "payeeSerial" "I", Cond.fieldLink RX4 22 "PurseWorld$Transfer" "amount" "I", Cond.methodLink RX5 244 yX3_rest, Cond.instanceMethod yX3_rest, Cond.selects RX3 yX3_rest yX3_rest, Cond.code yX3_rest cX3_rest 1 none, Cond.fieldLink RX3 18 "PurseWorld$Purse" "nothing" "LPurseWorld$Transfer;", Cond.methodLink RX5 78 yX5_send, Cond.instanceMethod yX5_send, Cond.selects RX5 yX5_send yX5_send, Cond.code yX5_send cX5_send 5 (some .int), Cond.fieldLink RX5 25 "PurseWorld" "sent" "Ljava/util/ArrayList;", Cond.classLink RX5 91 RX2, Cond.instantiable RX2 5, Cond.initialized RX2, Cond.methodLink RX5 141 yX2_init, Cond.instanceMethod yX2_init, Cond.code yX2_init cX2_init 6 none, Cond.methodLink RX2 1 objectInit, Cond.instanceMethod objectInit]
def wsX5_takeValue_r4 : List Cond := [Cond.code objectInit ⟨#[0xb1]⟩ 1 none, Cond.fieldLink RX2 7 "PurseWorld$Message" "kind" "I", Cond.fieldLink RX2 13 "PurseWorld$Message" "to" "I", Cond.fieldLink RX2 16 "PurseWorld$Message" "terms" "LPurseWorld$Transfer;", Cond.fieldLink RX2 20 "PurseWorld$Message" "teller" "I", Cond.fieldLink RX2 23 "PurseWorld$Message" "archived" "I", Cond.methodLink RX5 57 yJx4a65c_add_9ea2d, Cond.instanceMethod yJx4a65c_add_9ea2d, Cond.selects RJx4a65c yJx4a65c_add_9ea2d yJx4a65c_add_9ea2d, Cond.code yJx4a65c_add_9ea2d cJx4a65c_add_9ea2d 2 (some .boolean), Cond.fieldLink RJx4a65c 63 "java/util/ArrayList" "modCount" "I", Cond.sameField "java/util/ArrayList" "java/util/AbstractList" "modCount" "I", Cond.methodLink RJx4a65c 131 yJx4a65c_add_72be8, Cond.instanceMethod yJx4a65c_add_72be8, Cond.selects RJx4a65c yJx4a65c_add_72be8 yJx4a65c_add_72be8, Cond.code yJx4a65c_add_72be8 cJx4a65c_add_72be8 4 none, Cond.methodLink RJx4a65c 129 yJx4a65c_grow_d5877, Cond.instanceMethod yJx4a65c_grow_d5877, Cond.selects RJx4a65c yJx4a65c_grow_d5877 yJx4a65c_grow_d5877, Cond.code yJx4a65c_grow_d5877 cJx4a65c_grow_d5877 1 (some (.array (.object "java/lang/Object"))), Cond.methodLink RJx4a65c 69 yJx4a65c_grow_92f84, Cond.instanceMethod yJx4a65c_grow_92f84, Cond.selects RJx4a65c yJx4a65c_grow_92f84 yJx4a65c_grow_92f84, Cond.code yJx4a65c_grow_92f84 cJx4a65c_grow_92f84 4 (some (.array (.object "java/lang/Object")))]
def wsX5_takeValue_r5 : List Cond := [Cond.fieldLink RJx4a65c 39 "java/util/ArrayList" "DEFAULTCAPACITY_EMPTY_ELEMENTDATA" "[Ljava/lang/Object;", Cond.methodLink RJx4a65c 79 Lib.Math.max.name, Cond.static Lib.Math.max.name, Cond.initialized "java/lang/Math", Cond.code Lib.Math.max.name Lib.Math.max.code 2 (some .int), Cond.classLink RJx4a65c 7 "java/lang/Object", Cond.methodLink RJx4a65c 73 yJ8_newLength_cabcc, Cond.static yJ8_newLength_cabcc, Cond.initialized RJ8, Cond.code yJ8_newLength_cabcc cJ8_newLength_cabcc 4 (some .int), Cond.methodLink RJ8 194 Lib.Math.max.name, Cond.constant RJ8 200 (2147483639), Cond.methodLink RJ8 201 yJ8_hugeLength_7cf53, Cond.static yJ8_hugeLength_7cf53, Cond.code yJ8_hugeLength_7cf53 cJ8_hugeLength_7cf53 3 (some .int), Cond.methodLink RJx4a65c 66 yJ7_copyOf_1904c, Cond.static yJ7_copyOf_1904c, Cond.initialized RJ7, Cond.code yJ7_copyOf_1904c cJ7_copyOf_1904c 2 (some (.array (.object "java/lang/Object"))), Cond.methodLink RJ7 86 ⟨"java/lang/Object", "getClass", "()Ljava/lang/Class;"⟩, Cond.selects "[Ljava/lang/Object;" ⟨"java/lang/Object", "getClass", "()Ljava/lang/Class;"⟩ ⟨"java/lang/Object", "getClass", "()Ljava/lang/Class;"⟩, Cond.instanceMethod ⟨"java/lang/Object", "getClass", "()Ljava/lang/Class;"⟩, Cond.native ⟨"java/lang/Object", "getClass", "()Ljava/lang/Class;"⟩, Cond.methodLink RJ7 300 yJ7_copyOf_6403c]
def wsX5_takeValue_r6 : List Cond := [Cond.static yJ7_copyOf_6403c, Cond.code yJ7_copyOf_6403c cJ7_copyOf_6403c 4 (some (.array (.object "java/lang/Object"))), Cond.classLink RJ7 110 "[Ljava/lang/Object;", Cond.classLink RJ7 2 "java/lang/Object", Cond.methodLink RJ7 304 Lib.Math.min.name, Cond.static Lib.Math.min.name, Cond.code Lib.Math.min.name Lib.Math.min.code 2 (some .int), Cond.methodLink RJ7 150 arraycopyName, Cond.native arraycopyName, Cond.static arraycopyName, Cond.initialized "java/lang/System"]
def wsX5_takeValue : List Cond := .code yX5_takeValue cX5_takeValue 3 (some .boolean) :: ((wsX5_takeValue_r1 ++ (wsX5_takeValue_r2 ++ (wsX5_takeValue_r3 ++ (wsX5_takeValue_r4 ++ (wsX5_takeValue_r5 ++ wsX5_takeValue_r6))))) ++ wsX20 ++ wsX30 ++ wsX40 ++ wsX50 ++ wsJx4a65c0 ++ (vx_atS RX5 198 "java/lang/IndexOutOfBoundsException" ["java/lang/RuntimeException", "java/lang/Exception"]).filter goodWord)
def wsX5_takeThanks_r1 : List Cond := [Cond.fieldLink RX5 199 "PurseWorld$Message" "to" "I", Cond.fieldLink RX5 113 "PurseWorld$Message" "terms" "LPurseWorld$Transfer;", Cond.methodLink RX5 61 yX5_purseAt, Cond.instanceMethod yX5_purseAt, Cond.selects RX5 yX5_purseAt yX5_purseAt, Cond.initialized RX5, Cond.code yX5_purseAt cX5_purseAt 2 (some (.object "PurseWorld$Purse")), Cond.classLink RX5 194 "java/lang/IndexOutOfBoundsException", Cond.initialized "java/lang/IndexOutOfBoundsException", Cond.fieldLink RX5 21 "PurseWorld" "owners" "Ljava/util/ArrayList;", Cond.classLink RX5 52 "PurseWorld$Purse", Cond.methodLink RX5 43 yJx4a65c_size_8abf5, Cond.instanceMethod yJx4a65c_size_8abf5, Cond.selects RJx4a65c yJx4a65c_size_8abf5 yJx4a65c_size_8abf5, Cond.initialized RJx4a65c, Cond.code yJx4a65c_size_8abf5 cJx4a65c_size_8abf5 1 (some .int), Cond.fieldLink RJx4a65c 48 "java/util/ArrayList" "size" "I", Cond.methodLink RX5 137 yJx4a65c_get_915e3, Cond.instanceMethod yJx4a65c_get_915e3, Cond.selects RJx4a65c yJx4a65c_get_915e3 yJx4a65c_get_915e3, Cond.code yJx4a65c_get_915e3 cJx4a65c_get_915e3 2 (some (.object "java/lang/Object")), Cond.methodLink RJx4a65c 118 yJ15_checkIndex_7cf53, Cond.static yJ15_checkIndex_7cf53, Cond.initialized RJ15]
def wsX5_takeThanks_r2 : List Cond := [Cond.code yJ15_checkIndex_7cf53 cJ15_checkIndex_7cf53 2 (some .int), Cond.methodLink RJ15 105 yJ3_checkIndex_8e157, Cond.static yJ3_checkIndex_8e157, Cond.initialized RJ3, Cond.code yJ3_checkIndex_8e157 cJ3_checkIndex_8e157 3 (some .int), Cond.methodLink RJx4a65c 123 yJx4a65c_elementData_915e3, Cond.instanceMethod yJx4a65c_elementData_915e3, Cond.selects RJx4a65c yJx4a65c_elementData_915e3 yJx4a65c_elementData_915e3, Cond.code yJx4a65c_elementData_915e3 cJx4a65c_elementData_915e3 2 (some (.object "java/lang/Object")), Cond.fieldLink RJx4a65c 9 "java/util/ArrayList" "elementData" "[Ljava/lang/Object;", Cond.methodLink RX5 230 yX3_does, Cond.instanceMethod yX3_does, Cond.selects RX3 yX3_does yX3_does, Cond.initialized RX3, Cond.code yX3_does cX3_does 3 (some .boolean), Cond.fieldLink RX3 32 "PurseWorld$Purse" "state" "I", Cond.fieldLink RX3 35 "PurseWorld$Purse" "current" "LPurseWorld$Transfer;", Cond.methodLink RX3 42 yX4_same, Cond.instanceMethod yX4_same, Cond.selects RX4 yX4_same yX4_same, Cond.initialized RX4, Cond.code yX4_same cX4_same 2 (some .boolean), Cond.fieldLink RX4 7 "PurseWorld$Transfer" "payer" "I", Cond.fieldLink RX4 13 "PurseWorld$Transfer" "payerSerial" "I"]
def wsX5_takeThanks_r3 : List Cond := [Cond.fieldLink RX4 16 "PurseWorld$Transfer" "payee" "I", Cond.fieldLink RX4 19 "PurseWorld$Transfer" "payeeSerial" "I", Cond.fieldLink RX4 22 "PurseWorld$Transfer" "amount" "I", Cond.methodLink RX5 244 yX3_rest, Cond.instanceMethod yX3_rest, Cond.selects RX3 yX3_rest yX3_rest, Cond.code yX3_rest cX3_rest 1 none, Cond.fieldLink RX3 18 "PurseWorld$Purse" "nothing" "LPurseWorld$Transfer;"]
def wsX5_takeThanks : List Cond := .code yX5_takeThanks cX5_takeThanks 3 (some .boolean) :: ((wsX5_takeThanks_r1 ++ (wsX5_takeThanks_r2 ++ wsX5_takeThanks_r3)) ++ wsX20 ++ wsX50 ++ wsJx4a65c0 ++ wsX30 ++ wsX40 ++ (vx_atS RX5 198 "java/lang/IndexOutOfBoundsException" ["java/lang/RuntimeException", "java/lang/Exception"]).filter goodWord)
def wsJx4a65c_isEmpty_aae02 : List Cond := .code yJx4a65c_isEmpty_aae02 cJx4a65c_isEmpty_aae02 1 (some .boolean) :: ([.fieldLink RJx4a65c 48 "java/util/ArrayList" "size" "I"] ++ wsJx4a65c0)
def wsJx4a65c_clear_da8c8 : List Cond := .code yJx4a65c_clear_da8c8 cJx4a65c_clear_da8c8 4 none :: ([.fieldLink RJx4a65c 63 "java/util/ArrayList" "modCount" "I", .sameField "java/util/ArrayList" "java/util/AbstractList" "modCount" "I", .fieldLink RJx4a65c 9 "java/util/ArrayList" "elementData" "[Ljava/lang/Object;", .fieldLink RJx4a65c 48 "java/util/ArrayList" "size" "I"] ++ wsJx4a65c0)
def wsX5_takeClear_r1 : List Cond := [Cond.fieldLink RX5 199 "PurseWorld$Message" "to" "I", Cond.fieldLink RX5 123 "PurseWorld$Purse" "state" "I", Cond.fieldLink RX5 134 "PurseWorld$Purse" "kept" "Ljava/util/ArrayList;", Cond.fieldLink RX5 31 "PurseWorld" "archive" "LPurseWorld$Archive;", Cond.fieldLink RX5 250 "PurseWorld$Message" "archived" "I", Cond.fieldLink RX5 237 "PurseWorld$Purse" "number" "I", Cond.classLink RX5 7 "PurseWorld$Transfer", Cond.methodLink RX5 61 yX5_purseAt, Cond.instanceMethod yX5_purseAt, Cond.selects RX5 yX5_purseAt yX5_purseAt, Cond.initialized RX5, Cond.code yX5_purseAt cX5_purseAt 2 (some (.object "PurseWorld$Purse")), Cond.classLink RX5 194 "java/lang/IndexOutOfBoundsException", Cond.initialized "java/lang/IndexOutOfBoundsException", Cond.fieldLink RX5 21 "PurseWorld" "owners" "Ljava/util/ArrayList;", Cond.classLink RX5 52 "PurseWorld$Purse", Cond.methodLink RX5 43 yJx4a65c_size_8abf5, Cond.instanceMethod yJx4a65c_size_8abf5, Cond.selects RJx4a65c yJx4a65c_size_8abf5 yJx4a65c_size_8abf5, Cond.initialized RJx4a65c, Cond.code yJx4a65c_size_8abf5 cJx4a65c_size_8abf5 1 (some .int), Cond.fieldLink RJx4a65c 48 "java/util/ArrayList" "size" "I", Cond.methodLink RX5 137 yJx4a65c_get_915e3, Cond.instanceMethod yJx4a65c_get_915e3]
def wsX5_takeClear_r2 : List Cond := [Cond.selects RJx4a65c yJx4a65c_get_915e3 yJx4a65c_get_915e3, Cond.code yJx4a65c_get_915e3 cJx4a65c_get_915e3 2 (some (.object "java/lang/Object")), Cond.methodLink RJx4a65c 118 yJ15_checkIndex_7cf53, Cond.static yJ15_checkIndex_7cf53, Cond.initialized RJ15, Cond.code yJ15_checkIndex_7cf53 cJ15_checkIndex_7cf53 2 (some .int), Cond.methodLink RJ15 105 yJ3_checkIndex_8e157, Cond.static yJ3_checkIndex_8e157, Cond.initialized RJ3, Cond.code yJ3_checkIndex_8e157 cJ3_checkIndex_8e157 3 (some .int), Cond.methodLink RJx4a65c 123 yJx4a65c_elementData_915e3, Cond.instanceMethod yJx4a65c_elementData_915e3, Cond.selects RJx4a65c yJx4a65c_elementData_915e3 yJx4a65c_elementData_915e3, Cond.code yJx4a65c_elementData_915e3 cJx4a65c_elementData_915e3 2 (some (.object "java/lang/Object")), Cond.fieldLink RJx4a65c 9 "java/util/ArrayList" "elementData" "[Ljava/lang/Object;", Cond.methodLink RX5 247 yJx4a65c_isEmpty_aae02, Cond.instanceMethod yJx4a65c_isEmpty_aae02, Cond.selects RJx4a65c yJx4a65c_isEmpty_aae02 yJx4a65c_isEmpty_aae02, Cond.code yJx4a65c_isEmpty_aae02 cJx4a65c_isEmpty_aae02 1 (some .boolean), Cond.methodLink RX5 253 yX0_hadAmong, Cond.instanceMethod yX0_hadAmong, Cond.selects RX0 yX0_hadAmong yX0_hadAmong, Cond.initialized RX0, Cond.code yX0_hadAmong cX0_hadAmong 6 (some .boolean)]
def wsX5_takeClear_r3 : List Cond := [Cond.fieldLink RX0 10 "PurseWorld$Archive" "rows" "Ljava/util/ArrayList;", Cond.classLink RX0 24 "PurseWorld$Entry", Cond.fieldLink RX0 26 "PurseWorld$Entry" "teller" "I", Cond.fieldLink RX0 30 "PurseWorld$Entry" "terms" "LPurseWorld$Transfer;", Cond.methodLink RX0 16 yJx4a65c_size_8abf5, Cond.methodLink RX0 20 yJx4a65c_get_915e3, Cond.methodLink RX0 34 yX4_same, Cond.instanceMethod yX4_same, Cond.selects RX4 yX4_same yX4_same, Cond.initialized RX4, Cond.code yX4_same cX4_same 2 (some .boolean), Cond.fieldLink RX4 7 "PurseWorld$Transfer" "payer" "I", Cond.fieldLink RX4 13 "PurseWorld$Transfer" "payerSerial" "I", Cond.fieldLink RX4 16 "PurseWorld$Transfer" "payee" "I", Cond.fieldLink RX4 19 "PurseWorld$Transfer" "payeeSerial" "I", Cond.fieldLink RX4 22 "PurseWorld$Transfer" "amount" "I", Cond.methodLink RX5 257 yJx4a65c_clear_da8c8, Cond.instanceMethod yJx4a65c_clear_da8c8, Cond.selects RJx4a65c yJx4a65c_clear_da8c8 yJx4a65c_clear_da8c8, Cond.code yJx4a65c_clear_da8c8 cJx4a65c_clear_da8c8 4 none, Cond.fieldLink RJx4a65c 63 "java/util/ArrayList" "modCount" "I", Cond.sameField "java/util/ArrayList" "java/util/AbstractList" "modCount" "I"]
def wsX5_takeClear : List Cond := .code yX5_takeClear cX5_takeClear 4 (some .boolean) :: ((wsX5_takeClear_r1 ++ (wsX5_takeClear_r2 ++ wsX5_takeClear_r3)) ++ wsX20 ++ wsX30 ++ wsX50 ++ wsJx4a65c0 ++ wsX00 ++ wsX10 ++ wsX40 ++ (vx_atS RX5 198 "java/lang/IndexOutOfBoundsException" ["java/lang/RuntimeException", "java/lang/Exception"]).filter goodWord)
def wsX5_deliver_r1 : List Cond := [Cond.fieldLink RX5 90 "PurseWorld$Message" "kind" "I", Cond.fieldLink RX5 31 "PurseWorld" "archive" "LPurseWorld$Archive;", Cond.fieldLink RX5 110 "PurseWorld$Message" "teller" "I", Cond.fieldLink RX5 113 "PurseWorld$Message" "terms" "LPurseWorld$Transfer;", Cond.methodLink RX5 82 yX5_messageAt, Cond.instanceMethod yX5_messageAt, Cond.selects RX5 yX5_messageAt yX5_messageAt, Cond.initialized RX5, Cond.code yX5_messageAt cX5_messageAt 2 (some (.object "PurseWorld$Message")), Cond.classLink RX5 194 "java/lang/IndexOutOfBoundsException", Cond.initialized "java/lang/IndexOutOfBoundsException", Cond.fieldLink RX5 25 "PurseWorld" "sent" "Ljava/util/ArrayList;", Cond.classLink RX5 91 "PurseWorld$Message", Cond.methodLink RX5 43 yJx4a65c_size_8abf5, Cond.instanceMethod yJx4a65c_size_8abf5, Cond.selects RJx4a65c yJx4a65c_size_8abf5 yJx4a65c_size_8abf5, Cond.initialized RJx4a65c, Cond.code yJx4a65c_size_8abf5 cJx4a65c_size_8abf5 1 (some .int), Cond.fieldLink RJx4a65c 48 "java/util/ArrayList" "size" "I", Cond.methodLink RX5 137 yJx4a65c_get_915e3, Cond.instanceMethod yJx4a65c_get_915e3, Cond.selects RJx4a65c yJx4a65c_get_915e3 yJx4a65c_get_915e3, Cond.code yJx4a65c_get_915e3 cJx4a65c_get_915e3 2 (some (.object "java/lang/Object")), Cond.methodLink RJx4a65c 118 yJ15_checkIndex_7cf53]
def wsX5_deliver_r2 : List Cond := [Cond.static yJ15_checkIndex_7cf53, Cond.initialized RJ15, Cond.code yJ15_checkIndex_7cf53 cJ15_checkIndex_7cf53 2 (some .int), Cond.methodLink RJ15 105 yJ3_checkIndex_8e157, Cond.static yJ3_checkIndex_8e157, Cond.initialized RJ3, Cond.code yJ3_checkIndex_8e157 cJ3_checkIndex_8e157 3 (some .int), Cond.methodLink RJx4a65c 123 yJx4a65c_elementData_915e3, Cond.instanceMethod yJx4a65c_elementData_915e3, Cond.selects RJx4a65c yJx4a65c_elementData_915e3 yJx4a65c_elementData_915e3, Cond.code yJx4a65c_elementData_915e3 cJx4a65c_elementData_915e3 2 (some (.object "java/lang/Object")), Cond.fieldLink RJx4a65c 9 "java/util/ArrayList" "elementData" "[Ljava/lang/Object;", Cond.methodLink RX5 86 yX5_mayBeAnswered, Cond.instanceMethod yX5_mayBeAnswered, Cond.selects RX5 yX5_mayBeAnswered yX5_mayBeAnswered, Cond.code yX5_mayBeAnswered cX5_mayBeAnswered 2 (some .boolean), Cond.fieldLink RX5 199 "PurseWorld$Message" "to" "I", Cond.methodLink RX5 61 yX5_purseAt, Cond.instanceMethod yX5_purseAt, Cond.selects RX5 yX5_purseAt yX5_purseAt, Cond.code yX5_purseAt cX5_purseAt 2 (some (.object "PurseWorld$Purse")), Cond.fieldLink RX5 21 "PurseWorld" "owners" "Ljava/util/ArrayList;", Cond.classLink RX5 52 "PurseWorld$Purse", Cond.methodLink RX5 230 yX3_does]
def wsX5_deliver_r3 : List Cond := [Cond.instanceMethod yX3_does, Cond.selects RX3 yX3_does yX3_does, Cond.initialized RX3, Cond.code yX3_does cX3_does 3 (some .boolean), Cond.fieldLink RX3 32 "PurseWorld$Purse" "state" "I", Cond.fieldLink RX3 35 "PurseWorld$Purse" "current" "LPurseWorld$Transfer;", Cond.methodLink RX3 42 yX4_same, Cond.instanceMethod yX4_same, Cond.selects RX4 yX4_same yX4_same, Cond.initialized RX4, Cond.code yX4_same cX4_same 2 (some .boolean), Cond.fieldLink RX4 7 "PurseWorld$Transfer" "payer" "I", Cond.fieldLink RX4 13 "PurseWorld$Transfer" "payerSerial" "I", Cond.fieldLink RX4 16 "PurseWorld$Transfer" "payee" "I", Cond.fieldLink RX4 19 "PurseWorld$Transfer" "payeeSerial" "I", Cond.fieldLink RX4 22 "PurseWorld$Transfer" "amount" "I", Cond.methodLink RX5 70 yX5_needRoomFor, Cond.instanceMethod yX5_needRoomFor, Cond.selects RX5 yX5_needRoomFor yX5_needRoomFor, Cond.code yX5_needRoomFor cX5_needRoomFor 2 none, Cond.classLink RX5 47 "java/lang/UnsupportedOperationException", Cond.initialized "java/lang/UnsupportedOperationException", Cond.methodLink RX5 95 yX5_takePay, Cond.instanceMethod yX5_takePay]
def wsX5_deliver_r4 : List Cond := [Cond.selects RX5 yX5_takePay yX5_takePay, Cond.code yX5_takePay cX5_takePay 4 (some .boolean), Cond.fieldLink RX5 179 "PurseWorld$Purse" "balance" "I", Cond.fieldLink RX5 182 "PurseWorld$Transfer" "amount" "I", Cond.classLink RX5 7 RX4, Cond.instantiable RX4 5, Cond.fieldLink RX5 237 "PurseWorld$Purse" "number" "I", Cond.fieldLink RX5 74 "PurseWorld$Purse" "serial" "I", Cond.fieldLink RX5 164 "PurseWorld$Transfer" "payee" "I", Cond.fieldLink RX5 223 "PurseWorld$Transfer" "payeeSerial" "I", Cond.methodLink RX5 126 yX3_end, Cond.instanceMethod yX3_end, Cond.selects RX3 yX3_end yX3_end, Cond.code yX3_end cX3_end 1 none, Cond.fieldLink RX3 25 "PurseWorld$Purse" "kept" "Ljava/util/ArrayList;", Cond.fieldLink RX3 29 "PurseWorld$Purse" "serial" "I", Cond.methodLink RX3 52 yJx4a65c_add_9ea2d, Cond.instanceMethod yJx4a65c_add_9ea2d, Cond.selects RJx4a65c yJx4a65c_add_9ea2d yJx4a65c_add_9ea2d, Cond.code yJx4a65c_add_9ea2d cJx4a65c_add_9ea2d 2 (some .boolean), Cond.fieldLink RJx4a65c 63 "java/util/ArrayList" "modCount" "I", Cond.sameField "java/util/ArrayList" "java/util/AbstractList" "modCount" "I", Cond.methodLink RJx4a65c 131 yJx4a65c_add_72be8, Cond.instanceMethod yJx4a65c_add_72be8]
def wsX5_deliver_r5 : List Cond := [Cond.selects RJx4a65c yJx4a65c_add_72be8 yJx4a65c_add_72be8, Cond.code yJx4a65c_add_72be8 cJx4a65c_add_72be8 4 none, Cond.methodLink RJx4a65c 129 yJx4a65c_grow_d5877, Cond.instanceMethod yJx4a65c_grow_d5877, Cond.selects RJx4a65c yJx4a65c_grow_d5877 yJx4a65c_grow_d5877, Cond.code yJx4a65c_grow_d5877 cJx4a65c_grow_d5877 1 (some (.array (.object "java/lang/Object"))), Cond.methodLink RJx4a65c 69 yJx4a65c_grow_92f84, Cond.instanceMethod yJx4a65c_grow_92f84, Cond.selects RJx4a65c yJx4a65c_grow_92f84 yJx4a65c_grow_92f84, Cond.code yJx4a65c_grow_92f84 cJx4a65c_grow_92f84 4 (some (.array (.object "java/lang/Object"))), Cond.fieldLink RJx4a65c 39 "java/util/ArrayList" "DEFAULTCAPACITY_EMPTY_ELEMENTDATA" "[Ljava/lang/Object;", Cond.methodLink RJx4a65c 79 Lib.Math.max.name, Cond.static Lib.Math.max.name, Cond.initialized "java/lang/Math", Cond.code Lib.Math.max.name Lib.Math.max.code 2 (some .int), Cond.classLink RJx4a65c 7 "java/lang/Object", Cond.methodLink RJx4a65c 73 yJ8_newLength_cabcc, Cond.static yJ8_newLength_cabcc, Cond.initialized RJ8, Cond.code yJ8_newLength_cabcc cJ8_newLength_cabcc 4 (some .int), Cond.methodLink RJ8 194 Lib.Math.max.name, Cond.constant RJ8 200 (2147483639), Cond.methodLink RJ8 201 yJ8_hugeLength_7cf53, Cond.static yJ8_hugeLength_7cf53]
def wsX5_deliver_r6 : List Cond := [Cond.code yJ8_hugeLength_7cf53 cJ8_hugeLength_7cf53 3 (some .int), Cond.methodLink RJx4a65c 66 yJ7_copyOf_1904c, Cond.static yJ7_copyOf_1904c, Cond.initialized RJ7, Cond.code yJ7_copyOf_1904c cJ7_copyOf_1904c 2 (some (.array (.object "java/lang/Object"))), Cond.methodLink RJ7 86 ⟨"java/lang/Object", "getClass", "()Ljava/lang/Class;"⟩, Cond.selects "[Ljava/lang/Object;" ⟨"java/lang/Object", "getClass", "()Ljava/lang/Class;"⟩ ⟨"java/lang/Object", "getClass", "()Ljava/lang/Class;"⟩, Cond.instanceMethod ⟨"java/lang/Object", "getClass", "()Ljava/lang/Class;"⟩, Cond.native ⟨"java/lang/Object", "getClass", "()Ljava/lang/Class;"⟩, Cond.methodLink RJ7 300 yJ7_copyOf_6403c, Cond.static yJ7_copyOf_6403c, Cond.code yJ7_copyOf_6403c cJ7_copyOf_6403c 4 (some (.array (.object "java/lang/Object"))), Cond.classLink RJ7 110 "[Ljava/lang/Object;", Cond.classLink RJ7 2 "java/lang/Object", Cond.methodLink RJ7 304 Lib.Math.min.name, Cond.static Lib.Math.min.name, Cond.code Lib.Math.min.name Lib.Math.min.code 2 (some .int), Cond.methodLink RJ7 150 arraycopyName, Cond.native arraycopyName, Cond.static arraycopyName, Cond.initialized "java/lang/System", Cond.methodLink RX3 56 yX3_rest, Cond.instanceMethod yX3_rest, Cond.selects RX3 yX3_rest yX3_rest]
def wsX5_deliver_r7 : List Cond := [Cond.code yX3_rest cX3_rest 1 none, Cond.fieldLink RX3 18 "PurseWorld$Purse" "nothing" "LPurseWorld$Transfer;", Cond.methodLink RX5 233 yX3_logIsFull, Cond.instanceMethod yX3_logIsFull, Cond.selects RX3 yX3_logIsFull yX3_logIsFull, Cond.code yX3_logIsFull cX3_logIsFull 1 (some .boolean), Cond.methodLink RX3 38 yJx4a65c_size_8abf5, Cond.methodLink RX5 11 yX4_init, Cond.instanceMethod yX4_init, Cond.code yX4_init cX4_init 6 none, Cond.methodLink RX4 1 objectInit, Cond.instanceMethod objectInit, Cond.code objectInit ⟨#[0xb1]⟩ 1 none, Cond.methodLink RX5 240 yX3_start, Cond.instanceMethod yX3_start, Cond.selects RX3 yX3_start yX3_start, Cond.code yX3_start cX3_start 3 none, Cond.methodLink RX5 98 yX5_takeEarn, Cond.instanceMethod yX5_takeEarn, Cond.selects RX5 yX5_takeEarn yX5_takeEarn, Cond.code yX5_takeEarn cX5_takeEarn 4 (some .boolean), Cond.fieldLink RX5 158 "PurseWorld$Transfer" "payer" "I", Cond.fieldLink RX5 220 "PurseWorld$Transfer" "payerSerial" "I", Cond.fieldLink RX5 187 "PurseWorld$Purse" "current" "LPurseWorld$Transfer;"]
def wsX5_deliver_r8 : List Cond := [Cond.methodLink RX5 78 yX5_send, Cond.instanceMethod yX5_send, Cond.selects RX5 yX5_send yX5_send, Cond.code yX5_send cX5_send 5 (some .int), Cond.classLink RX5 91 RX2, Cond.instantiable RX2 5, Cond.initialized RX2, Cond.methodLink RX5 141 yX2_init, Cond.instanceMethod yX2_init, Cond.code yX2_init cX2_init 6 none, Cond.methodLink RX2 1 objectInit, Cond.fieldLink RX2 7 "PurseWorld$Message" "kind" "I", Cond.fieldLink RX2 13 "PurseWorld$Message" "to" "I", Cond.fieldLink RX2 16 "PurseWorld$Message" "terms" "LPurseWorld$Transfer;", Cond.fieldLink RX2 20 "PurseWorld$Message" "teller" "I", Cond.fieldLink RX2 23 "PurseWorld$Message" "archived" "I", Cond.methodLink RX5 57 yJx4a65c_add_9ea2d, Cond.methodLink RX5 101 yX5_takeAsk, Cond.instanceMethod yX5_takeAsk, Cond.selects RX5 yX5_takeAsk yX5_takeAsk, Cond.code yX5_takeAsk cX5_takeAsk 3 (some .boolean), Cond.fieldLink RX5 123 "PurseWorld$Purse" "state" "I", Cond.methodLink RX5 104 yX5_takeValue, Cond.instanceMethod yX5_takeValue]
def wsX5_deliver_r9 : List Cond := [Cond.selects RX5 yX5_takeValue yX5_takeValue, Cond.code yX5_takeValue cX5_takeValue 3 (some .boolean), Cond.methodLink RX5 244 yX3_rest, Cond.methodLink RX5 107 yX5_takeThanks, Cond.instanceMethod yX5_takeThanks, Cond.selects RX5 yX5_takeThanks yX5_takeThanks, Cond.code yX5_takeThanks cX5_takeThanks 3 (some .boolean), Cond.methodLink RX5 116 yX0_takeRecord, Cond.instanceMethod yX0_takeRecord, Cond.selects RX0 yX0_takeRecord yX0_takeRecord, Cond.initialized RX0, Cond.code yX0_takeRecord cX0_takeRecord 3 (some .boolean), Cond.fieldLink RX0 10 "PurseWorld$Archive" "rows" "Ljava/util/ArrayList;", Cond.classLink RX0 24 RX1, Cond.instantiable RX1 3, Cond.initialized RX1, Cond.methodLink RX0 48 yX0_has, Cond.instanceMethod yX0_has, Cond.selects RX0 yX0_has yX0_has, Cond.code yX0_has cX0_has 3 (some .boolean), Cond.methodLink RX0 16 yJx4a65c_size_8abf5, Cond.methodLink RX0 40 yX0_hadAmong, Cond.instanceMethod yX0_hadAmong, Cond.selects RX0 yX0_hadAmong yX0_hadAmong]
def wsX5_deliver_r10 : List Cond := [Cond.code yX0_hadAmong cX0_hadAmong 6 (some .boolean), Cond.classLink RX0 24 "PurseWorld$Entry", Cond.fieldLink RX0 26 "PurseWorld$Entry" "teller" "I", Cond.fieldLink RX0 30 "PurseWorld$Entry" "terms" "LPurseWorld$Transfer;", Cond.methodLink RX0 20 yJx4a65c_get_915e3, Cond.methodLink RX0 34 yX4_same, Cond.methodLink RX0 52 yX1_init, Cond.instanceMethod yX1_init, Cond.code yX1_init cX1_init 3 none, Cond.methodLink RX1 1 objectInit, Cond.fieldLink RX1 7 "PurseWorld$Entry" "teller" "I", Cond.fieldLink RX1 13 "PurseWorld$Entry" "terms" "LPurseWorld$Transfer;", Cond.methodLink RX0 55 yJx4a65c_add_9ea2d, Cond.methodLink RX5 120 yX5_takeClear, Cond.instanceMethod yX5_takeClear, Cond.selects RX5 yX5_takeClear yX5_takeClear, Cond.code yX5_takeClear cX5_takeClear 4 (some .boolean), Cond.fieldLink RX5 134 "PurseWorld$Purse" "kept" "Ljava/util/ArrayList;", Cond.fieldLink RX5 250 "PurseWorld$Message" "archived" "I", Cond.classLink RX5 7 "PurseWorld$Transfer", Cond.methodLink RX5 247 yJx4a65c_isEmpty_aae02, Cond.instanceMethod yJx4a65c_isEmpty_aae02, Cond.selects RJx4a65c yJx4a65c_isEmpty_aae02 yJx4a65c_isEmpty_aae02, Cond.code yJx4a65c_isEmpty_aae02 cJx4a65c_isEmpty_aae02 1 (some .boolean)]
def wsX5_deliver_r11 : List Cond := [Cond.methodLink RX5 253 yX0_hadAmong, Cond.methodLink RX5 257 yJx4a65c_clear_da8c8, Cond.instanceMethod yJx4a65c_clear_da8c8, Cond.selects RJx4a65c yJx4a65c_clear_da8c8 yJx4a65c_clear_da8c8, Cond.code yJx4a65c_clear_da8c8 cJx4a65c_clear_da8c8 4 none]
def wsX5_deliver : List Cond := .code yX5_deliver cX5_deliver 3 (some .boolean) :: ((wsX5_deliver_r1 ++ (wsX5_deliver_r2 ++ (wsX5_deliver_r3 ++ (wsX5_deliver_r4 ++ (wsX5_deliver_r5 ++ (wsX5_deliver_r6 ++ (wsX5_deliver_r7 ++ (wsX5_deliver_r8 ++ (wsX5_deliver_r9 ++ (wsX5_deliver_r10 ++ wsX5_deliver_r11)))))))))) ++ wsX20 ++ wsX50 ++ wsJx4a65c0 ++ wsX30 ++ wsX40 ++ wsX00 ++ wsX10 ++ (vx_atS RX5 198 "java/lang/IndexOutOfBoundsException" ["java/lang/RuntimeException", "java/lang/Exception"]).filter goodWord ++ (vx_atS RX5 51 "java/lang/UnsupportedOperationException" ["java/lang/RuntimeException", "java/lang/Exception"]).filter goodWord)
def wsX5_abort_r1 : List Cond := [Cond.fieldLink RX5 123 "PurseWorld$Purse" "state" "I", Cond.methodLink RX5 61 yX5_purseAt, Cond.instanceMethod yX5_purseAt, Cond.selects RX5 yX5_purseAt yX5_purseAt, Cond.initialized RX5, Cond.code yX5_purseAt cX5_purseAt 2 (some (.object "PurseWorld$Purse")), Cond.classLink RX5 194 "java/lang/IndexOutOfBoundsException", Cond.initialized "java/lang/IndexOutOfBoundsException", Cond.fieldLink RX5 21 "PurseWorld" "owners" "Ljava/util/ArrayList;", Cond.classLink RX5 52 "PurseWorld$Purse", Cond.methodLink RX5 43 yJx4a65c_size_8abf5, Cond.instanceMethod yJx4a65c_size_8abf5, Cond.selects RJx4a65c yJx4a65c_size_8abf5 yJx4a65c_size_8abf5, Cond.initialized RJx4a65c, Cond.code yJx4a65c_size_8abf5 cJx4a65c_size_8abf5 1 (some .int), Cond.fieldLink RJx4a65c 48 "java/util/ArrayList" "size" "I", Cond.methodLink RX5 137 yJx4a65c_get_915e3, Cond.instanceMethod yJx4a65c_get_915e3, Cond.selects RJx4a65c yJx4a65c_get_915e3 yJx4a65c_get_915e3, Cond.code yJx4a65c_get_915e3 cJx4a65c_get_915e3 2 (some (.object "java/lang/Object")), Cond.methodLink RJx4a65c 118 yJ15_checkIndex_7cf53, Cond.static yJ15_checkIndex_7cf53, Cond.initialized RJ15, Cond.code yJ15_checkIndex_7cf53 cJ15_checkIndex_7cf53 2 (some .int)]
def wsX5_abort_r2 : List Cond := [Cond.methodLink RJ15 105 yJ3_checkIndex_8e157, Cond.static yJ3_checkIndex_8e157, Cond.initialized RJ3, Cond.code yJ3_checkIndex_8e157 cJ3_checkIndex_8e157 3 (some .int), Cond.methodLink RJx4a65c 123 yJx4a65c_elementData_915e3, Cond.instanceMethod yJx4a65c_elementData_915e3, Cond.selects RJx4a65c yJx4a65c_elementData_915e3 yJx4a65c_elementData_915e3, Cond.code yJx4a65c_elementData_915e3 cJx4a65c_elementData_915e3 2 (some (.object "java/lang/Object")), Cond.fieldLink RJx4a65c 9 "java/util/ArrayList" "elementData" "[Ljava/lang/Object;", Cond.methodLink RX5 126 yX3_end, Cond.instanceMethod yX3_end, Cond.selects RX3 yX3_end yX3_end, Cond.initialized RX3, Cond.code yX3_end cX3_end 1 none, Cond.fieldLink RX3 32 "PurseWorld$Purse" "state" "I", Cond.fieldLink RX3 25 "PurseWorld$Purse" "kept" "Ljava/util/ArrayList;", Cond.fieldLink RX3 35 "PurseWorld$Purse" "current" "LPurseWorld$Transfer;", Cond.fieldLink RX3 29 "PurseWorld$Purse" "serial" "I", Cond.methodLink RX3 52 yJx4a65c_add_9ea2d, Cond.instanceMethod yJx4a65c_add_9ea2d, Cond.selects RJx4a65c yJx4a65c_add_9ea2d yJx4a65c_add_9ea2d, Cond.code yJx4a65c_add_9ea2d cJx4a65c_add_9ea2d 2 (some .boolean), Cond.fieldLink RJx4a65c 63 "java/util/ArrayList" "modCount" "I", Cond.sameField "java/util/ArrayList" "java/util/AbstractList" "modCount" "I"]
def wsX5_abort_r3 : List Cond := [Cond.methodLink RJx4a65c 131 yJx4a65c_add_72be8, Cond.instanceMethod yJx4a65c_add_72be8, Cond.selects RJx4a65c yJx4a65c_add_72be8 yJx4a65c_add_72be8, Cond.code yJx4a65c_add_72be8 cJx4a65c_add_72be8 4 none, Cond.methodLink RJx4a65c 129 yJx4a65c_grow_d5877, Cond.instanceMethod yJx4a65c_grow_d5877, Cond.selects RJx4a65c yJx4a65c_grow_d5877 yJx4a65c_grow_d5877, Cond.code yJx4a65c_grow_d5877 cJx4a65c_grow_d5877 1 (some (.array (.object "java/lang/Object"))), Cond.methodLink RJx4a65c 69 yJx4a65c_grow_92f84, Cond.instanceMethod yJx4a65c_grow_92f84, Cond.selects RJx4a65c yJx4a65c_grow_92f84 yJx4a65c_grow_92f84, Cond.code yJx4a65c_grow_92f84 cJx4a65c_grow_92f84 4 (some (.array (.object "java/lang/Object"))), Cond.fieldLink RJx4a65c 39 "java/util/ArrayList" "DEFAULTCAPACITY_EMPTY_ELEMENTDATA" "[Ljava/lang/Object;", Cond.methodLink RJx4a65c 79 Lib.Math.max.name, Cond.static Lib.Math.max.name, Cond.initialized "java/lang/Math", Cond.code Lib.Math.max.name Lib.Math.max.code 2 (some .int), Cond.classLink RJx4a65c 7 "java/lang/Object", Cond.methodLink RJx4a65c 73 yJ8_newLength_cabcc, Cond.static yJ8_newLength_cabcc, Cond.initialized RJ8, Cond.code yJ8_newLength_cabcc cJ8_newLength_cabcc 4 (some .int), Cond.methodLink RJ8 194 Lib.Math.max.name, Cond.constant RJ8 200 (2147483639)]
def wsX5_abort_r4 : List Cond := [Cond.methodLink RJ8 201 yJ8_hugeLength_7cf53, Cond.static yJ8_hugeLength_7cf53, Cond.code yJ8_hugeLength_7cf53 cJ8_hugeLength_7cf53 3 (some .int), Cond.methodLink RJx4a65c 66 yJ7_copyOf_1904c, Cond.static yJ7_copyOf_1904c, Cond.initialized RJ7, Cond.code yJ7_copyOf_1904c cJ7_copyOf_1904c 2 (some (.array (.object "java/lang/Object"))), Cond.methodLink RJ7 86 ⟨"java/lang/Object", "getClass", "()Ljava/lang/Class;"⟩, Cond.selects "[Ljava/lang/Object;" ⟨"java/lang/Object", "getClass", "()Ljava/lang/Class;"⟩ ⟨"java/lang/Object", "getClass", "()Ljava/lang/Class;"⟩, Cond.instanceMethod ⟨"java/lang/Object", "getClass", "()Ljava/lang/Class;"⟩, Cond.native ⟨"java/lang/Object", "getClass", "()Ljava/lang/Class;"⟩, Cond.methodLink RJ7 300 yJ7_copyOf_6403c, Cond.static yJ7_copyOf_6403c, Cond.code yJ7_copyOf_6403c cJ7_copyOf_6403c 4 (some (.array (.object "java/lang/Object"))), Cond.classLink RJ7 110 "[Ljava/lang/Object;", Cond.classLink RJ7 2 "java/lang/Object", Cond.methodLink RJ7 304 Lib.Math.min.name, Cond.static Lib.Math.min.name, Cond.code Lib.Math.min.name Lib.Math.min.code 2 (some .int), Cond.methodLink RJ7 150 arraycopyName, Cond.native arraycopyName, Cond.static arraycopyName, Cond.initialized "java/lang/System", Cond.methodLink RX3 56 yX3_rest]
def wsX5_abort_r5 : List Cond := [Cond.instanceMethod yX3_rest, Cond.selects RX3 yX3_rest yX3_rest, Cond.code yX3_rest cX3_rest 1 none, Cond.fieldLink RX3 18 "PurseWorld$Purse" "nothing" "LPurseWorld$Transfer;"]
def wsX5_abort : List Cond := .code yX5_abort cX5_abort 4 (some .int) :: ((wsX5_abort_r1 ++ (wsX5_abort_r2 ++ (wsX5_abort_r3 ++ (wsX5_abort_r4 ++ wsX5_abort_r5)))) ++ wsX30 ++ wsX50 ++ wsJx4a65c0 ++ (vx_atS RX5 198 "java/lang/IndexOutOfBoundsException" ["java/lang/RuntimeException", "java/lang/Exception"]).filter goodWord)
def wsX5_readLog_r1 : List Cond := [Cond.classLink RX5 129 "java/lang/IllegalStateException", Cond.initialized "java/lang/IllegalStateException", Cond.fieldLink RX5 123 "PurseWorld$Purse" "state" "I", Cond.fieldLink RX5 134 "PurseWorld$Purse" "kept" "Ljava/util/ArrayList;", Cond.fieldLink RX5 25 "PurseWorld" "sent" "Ljava/util/ArrayList;", Cond.classLink RX5 91 RX2, Cond.instantiable RX2 5, Cond.initialized RX2, Cond.classLink RX5 7 "PurseWorld$Transfer", Cond.methodLink RX5 61 yX5_purseAt, Cond.instanceMethod yX5_purseAt, Cond.selects RX5 yX5_purseAt yX5_purseAt, Cond.initialized RX5, Cond.code yX5_purseAt cX5_purseAt 2 (some (.object "PurseWorld$Purse")), Cond.classLink RX5 194 "java/lang/IndexOutOfBoundsException", Cond.initialized "java/lang/IndexOutOfBoundsException", Cond.fieldLink RX5 21 "PurseWorld" "owners" "Ljava/util/ArrayList;", Cond.classLink RX5 52 "PurseWorld$Purse", Cond.methodLink RX5 43 yJx4a65c_size_8abf5, Cond.instanceMethod yJx4a65c_size_8abf5, Cond.selects RJx4a65c yJx4a65c_size_8abf5 yJx4a65c_size_8abf5, Cond.initialized RJx4a65c, Cond.code yJx4a65c_size_8abf5 cJx4a65c_size_8abf5 1 (some .int), Cond.fieldLink RJx4a65c 48 "java/util/ArrayList" "size" "I"]
def wsX5_readLog_r2 : List Cond := [Cond.methodLink RX5 137 yJx4a65c_get_915e3, Cond.instanceMethod yJx4a65c_get_915e3, Cond.selects RJx4a65c yJx4a65c_get_915e3 yJx4a65c_get_915e3, Cond.code yJx4a65c_get_915e3 cJx4a65c_get_915e3 2 (some (.object "java/lang/Object")), Cond.methodLink RJx4a65c 118 yJ15_checkIndex_7cf53, Cond.static yJ15_checkIndex_7cf53, Cond.initialized RJ15, Cond.code yJ15_checkIndex_7cf53 cJ15_checkIndex_7cf53 2 (some .int), Cond.methodLink RJ15 105 yJ3_checkIndex_8e157, Cond.static yJ3_checkIndex_8e157, Cond.initialized RJ3, Cond.code yJ3_checkIndex_8e157 cJ3_checkIndex_8e157 3 (some .int), Cond.methodLink RJx4a65c 123 yJx4a65c_elementData_915e3, Cond.instanceMethod yJx4a65c_elementData_915e3, Cond.selects RJx4a65c yJx4a65c_elementData_915e3 yJx4a65c_elementData_915e3, Cond.code yJx4a65c_elementData_915e3 cJx4a65c_elementData_915e3 2 (some (.object "java/lang/Object")), Cond.fieldLink RJx4a65c 9 "java/util/ArrayList" "elementData" "[Ljava/lang/Object;", Cond.methodLink RX5 70 yX5_needRoomFor, Cond.instanceMethod yX5_needRoomFor, Cond.selects RX5 yX5_needRoomFor yX5_needRoomFor, Cond.code yX5_needRoomFor cX5_needRoomFor 2 none, Cond.classLink RX5 47 "java/lang/UnsupportedOperationException", Cond.initialized "java/lang/UnsupportedOperationException", Cond.methodLink RX5 141 yX2_init]
def wsX5_readLog_r3 : List Cond := [Cond.instanceMethod yX2_init, Cond.code yX2_init cX2_init 6 none, Cond.methodLink RX2 1 objectInit, Cond.instanceMethod objectInit, Cond.code objectInit ⟨#[0xb1]⟩ 1 none, Cond.fieldLink RX2 7 "PurseWorld$Message" "kind" "I", Cond.fieldLink RX2 13 "PurseWorld$Message" "to" "I", Cond.fieldLink RX2 16 "PurseWorld$Message" "terms" "LPurseWorld$Transfer;", Cond.fieldLink RX2 20 "PurseWorld$Message" "teller" "I", Cond.fieldLink RX2 23 "PurseWorld$Message" "archived" "I", Cond.methodLink RX5 57 yJx4a65c_add_9ea2d, Cond.instanceMethod yJx4a65c_add_9ea2d, Cond.selects RJx4a65c yJx4a65c_add_9ea2d yJx4a65c_add_9ea2d, Cond.code yJx4a65c_add_9ea2d cJx4a65c_add_9ea2d 2 (some .boolean), Cond.fieldLink RJx4a65c 63 "java/util/ArrayList" "modCount" "I", Cond.sameField "java/util/ArrayList" "java/util/AbstractList" "modCount" "I", Cond.methodLink RJx4a65c 131 yJx4a65c_add_72be8, Cond.instanceMethod yJx4a65c_add_72be8, Cond.selects RJx4a65c yJx4a65c_add_72be8 yJx4a65c_add_72be8, Cond.code yJx4a65c_add_72be8 cJx4a65c_add_72be8 4 none, Cond.methodLink RJx4a65c 129 yJx4a65c_grow_d5877, Cond.instanceMethod yJx4a65c_grow_d5877, Cond.selects RJx4a65c yJx4a65c_grow_d5877 yJx4a65c_grow_d5877, Cond.code yJx4a65c_grow_d5877 cJx4a65c_grow_d5877 1 (some (.array (.object "java/lang/Object")))]
def wsX5_readLog_r4 : List Cond := [Cond.methodLink RJx4a65c 69 yJx4a65c_grow_92f84, Cond.instanceMethod yJx4a65c_grow_92f84, Cond.selects RJx4a65c yJx4a65c_grow_92f84 yJx4a65c_grow_92f84, Cond.code yJx4a65c_grow_92f84 cJx4a65c_grow_92f84 4 (some (.array (.object "java/lang/Object"))), Cond.fieldLink RJx4a65c 39 "java/util/ArrayList" "DEFAULTCAPACITY_EMPTY_ELEMENTDATA" "[Ljava/lang/Object;", Cond.methodLink RJx4a65c 79 Lib.Math.max.name, Cond.static Lib.Math.max.name, Cond.initialized "java/lang/Math", Cond.code Lib.Math.max.name Lib.Math.max.code 2 (some .int), Cond.classLink RJx4a65c 7 "java/lang/Object", Cond.methodLink RJx4a65c 73 yJ8_newLength_cabcc, Cond.static yJ8_newLength_cabcc, Cond.initialized RJ8, Cond.code yJ8_newLength_cabcc cJ8_newLength_cabcc 4 (some .int), Cond.methodLink RJ8 194 Lib.Math.max.name, Cond.constant RJ8 200 (2147483639), Cond.methodLink RJ8 201 yJ8_hugeLength_7cf53, Cond.static yJ8_hugeLength_7cf53, Cond.code yJ8_hugeLength_7cf53 cJ8_hugeLength_7cf53 3 (some .int), Cond.methodLink RJx4a65c 66 yJ7_copyOf_1904c, Cond.static yJ7_copyOf_1904c, Cond.initialized RJ7, Cond.code yJ7_copyOf_1904c cJ7_copyOf_1904c 2 (some (.array (.object "java/lang/Object"))), Cond.methodLink RJ7 86 ⟨"java/lang/Object", "getClass", "()Ljava/lang/Class;"⟩]
def wsX5_readLog_r5 : List Cond := [Cond.selects "[Ljava/lang/Object;" ⟨"java/lang/Object", "getClass", "()Ljava/lang/Class;"⟩ ⟨"java/lang/Object", "getClass", "()Ljava/lang/Class;"⟩, Cond.instanceMethod ⟨"java/lang/Object", "getClass", "()Ljava/lang/Class;"⟩, Cond.native ⟨"java/lang/Object", "getClass", "()Ljava/lang/Class;"⟩, Cond.methodLink RJ7 300 yJ7_copyOf_6403c, Cond.static yJ7_copyOf_6403c, Cond.code yJ7_copyOf_6403c cJ7_copyOf_6403c 4 (some (.array (.object "java/lang/Object"))), Cond.classLink RJ7 110 "[Ljava/lang/Object;", Cond.classLink RJ7 2 "java/lang/Object", Cond.methodLink RJ7 304 Lib.Math.min.name, Cond.static Lib.Math.min.name, Cond.code Lib.Math.min.name Lib.Math.min.code 2 (some .int), Cond.methodLink RJ7 150 arraycopyName, Cond.native arraycopyName, Cond.static arraycopyName, Cond.initialized "java/lang/System"]
def wsX5_readLog : List Cond := .code yX5_readLog cX5_readLog 5 (some .int) :: ((wsX5_readLog_r1 ++ (wsX5_readLog_r2 ++ (wsX5_readLog_r3 ++ (wsX5_readLog_r4 ++ wsX5_readLog_r5)))) ++ wsX30 ++ wsX50 ++ wsX20 ++ wsJx4a65c0 ++ (vx_atS RX5 133 "java/lang/IllegalStateException" ["java/lang/RuntimeException", "java/lang/Exception"]).filter goodWord ++ (vx_atS RX5 198 "java/lang/IndexOutOfBoundsException" ["java/lang/RuntimeException", "java/lang/Exception"]).filter goodWord ++ (vx_atS RX5 51 "java/lang/UnsupportedOperationException" ["java/lang/RuntimeException", "java/lang/Exception"]).filter goodWord)
def wsX5_authorise_r1 : List Cond := [Cond.classLink RX5 129 "java/lang/IllegalStateException", Cond.initialized "java/lang/IllegalStateException", Cond.fieldLink RX5 31 "PurseWorld" "archive" "LPurseWorld$Archive;", Cond.fieldLink RX5 25 "PurseWorld" "sent" "Ljava/util/ArrayList;", Cond.classLink RX5 91 RX2, Cond.instantiable RX2 5, Cond.initialized RX2, Cond.fieldLink RX5 14 "PurseWorld" "nothing" "LPurseWorld$Transfer;", Cond.methodLink RX5 61 yX5_purseAt, Cond.instanceMethod yX5_purseAt, Cond.selects RX5 yX5_purseAt yX5_purseAt, Cond.initialized RX5, Cond.code yX5_purseAt cX5_purseAt 2 (some (.object "PurseWorld$Purse")), Cond.classLink RX5 194 "java/lang/IndexOutOfBoundsException", Cond.initialized "java/lang/IndexOutOfBoundsException", Cond.fieldLink RX5 21 "PurseWorld" "owners" "Ljava/util/ArrayList;", Cond.classLink RX5 52 "PurseWorld$Purse", Cond.methodLink RX5 43 yJx4a65c_size_8abf5, Cond.instanceMethod yJx4a65c_size_8abf5, Cond.selects RJx4a65c yJx4a65c_size_8abf5 yJx4a65c_size_8abf5, Cond.initialized RJx4a65c, Cond.code yJx4a65c_size_8abf5 cJx4a65c_size_8abf5 1 (some .int), Cond.fieldLink RJx4a65c 48 "java/util/ArrayList" "size" "I", Cond.methodLink RX5 137 yJx4a65c_get_915e3]
def wsX5_authorise_r2 : List Cond := [Cond.instanceMethod yJx4a65c_get_915e3, Cond.selects RJx4a65c yJx4a65c_get_915e3 yJx4a65c_get_915e3, Cond.code yJx4a65c_get_915e3 cJx4a65c_get_915e3 2 (some (.object "java/lang/Object")), Cond.methodLink RJx4a65c 118 yJ15_checkIndex_7cf53, Cond.static yJ15_checkIndex_7cf53, Cond.initialized RJ15, Cond.code yJ15_checkIndex_7cf53 cJ15_checkIndex_7cf53 2 (some .int), Cond.methodLink RJ15 105 yJ3_checkIndex_8e157, Cond.static yJ3_checkIndex_8e157, Cond.initialized RJ3, Cond.code yJ3_checkIndex_8e157 cJ3_checkIndex_8e157 3 (some .int), Cond.methodLink RJx4a65c 123 yJx4a65c_elementData_915e3, Cond.instanceMethod yJx4a65c_elementData_915e3, Cond.selects RJx4a65c yJx4a65c_elementData_915e3 yJx4a65c_elementData_915e3, Cond.code yJx4a65c_elementData_915e3 cJx4a65c_elementData_915e3 2 (some (.object "java/lang/Object")), Cond.fieldLink RJx4a65c 9 "java/util/ArrayList" "elementData" "[Ljava/lang/Object;", Cond.methodLink RX5 144 yX0_hasAnyOf, Cond.instanceMethod yX0_hasAnyOf, Cond.selects RX0 yX0_hasAnyOf yX0_hasAnyOf, Cond.initialized RX0, Cond.code yX0_hasAnyOf cX0_hasAnyOf 3 (some .boolean), Cond.fieldLink RX0 10 "PurseWorld$Archive" "rows" "Ljava/util/ArrayList;", Cond.classLink RX0 24 "PurseWorld$Entry", Cond.fieldLink RX0 26 "PurseWorld$Entry" "teller" "I"]
def wsX5_authorise_r3 : List Cond := [Cond.methodLink RX0 16 yJx4a65c_size_8abf5, Cond.methodLink RX0 20 yJx4a65c_get_915e3, Cond.methodLink RX5 70 yX5_needRoomFor, Cond.instanceMethod yX5_needRoomFor, Cond.selects RX5 yX5_needRoomFor yX5_needRoomFor, Cond.code yX5_needRoomFor cX5_needRoomFor 2 none, Cond.classLink RX5 47 "java/lang/UnsupportedOperationException", Cond.initialized "java/lang/UnsupportedOperationException", Cond.methodLink RX5 150 yX0_size, Cond.instanceMethod yX0_size, Cond.selects RX0 yX0_size yX0_size, Cond.code yX0_size cX0_size 1 (some .int), Cond.methodLink RX5 141 yX2_init, Cond.instanceMethod yX2_init, Cond.code yX2_init cX2_init 6 none, Cond.methodLink RX2 1 objectInit, Cond.instanceMethod objectInit, Cond.code objectInit ⟨#[0xb1]⟩ 1 none, Cond.fieldLink RX2 7 "PurseWorld$Message" "kind" "I", Cond.fieldLink RX2 13 "PurseWorld$Message" "to" "I", Cond.fieldLink RX2 16 "PurseWorld$Message" "terms" "LPurseWorld$Transfer;", Cond.fieldLink RX2 20 "PurseWorld$Message" "teller" "I", Cond.fieldLink RX2 23 "PurseWorld$Message" "archived" "I", Cond.methodLink RX5 57 yJx4a65c_add_9ea2d]
def wsX5_authorise_r4 : List Cond := [Cond.instanceMethod yJx4a65c_add_9ea2d, Cond.selects RJx4a65c yJx4a65c_add_9ea2d yJx4a65c_add_9ea2d, Cond.code yJx4a65c_add_9ea2d cJx4a65c_add_9ea2d 2 (some .boolean), Cond.fieldLink RJx4a65c 63 "java/util/ArrayList" "modCount" "I", Cond.sameField "java/util/ArrayList" "java/util/AbstractList" "modCount" "I", Cond.methodLink RJx4a65c 131 yJx4a65c_add_72be8, Cond.instanceMethod yJx4a65c_add_72be8, Cond.selects RJx4a65c yJx4a65c_add_72be8 yJx4a65c_add_72be8, Cond.code yJx4a65c_add_72be8 cJx4a65c_add_72be8 4 none, Cond.methodLink RJx4a65c 129 yJx4a65c_grow_d5877, Cond.instanceMethod yJx4a65c_grow_d5877, Cond.selects RJx4a65c yJx4a65c_grow_d5877 yJx4a65c_grow_d5877, Cond.code yJx4a65c_grow_d5877 cJx4a65c_grow_d5877 1 (some (.array (.object "java/lang/Object"))), Cond.methodLink RJx4a65c 69 yJx4a65c_grow_92f84, Cond.instanceMethod yJx4a65c_grow_92f84, Cond.selects RJx4a65c yJx4a65c_grow_92f84 yJx4a65c_grow_92f84, Cond.code yJx4a65c_grow_92f84 cJx4a65c_grow_92f84 4 (some (.array (.object "java/lang/Object"))), Cond.fieldLink RJx4a65c 39 "java/util/ArrayList" "DEFAULTCAPACITY_EMPTY_ELEMENTDATA" "[Ljava/lang/Object;", Cond.methodLink RJx4a65c 79 Lib.Math.max.name, Cond.static Lib.Math.max.name, Cond.initialized "java/lang/Math", Cond.code Lib.Math.max.name Lib.Math.max.code 2 (some .int), Cond.classLink RJx4a65c 7 "java/lang/Object", Cond.methodLink RJx4a65c 73 yJ8_newLength_cabcc]
def wsX5_authorise_r5 : List Cond := [Cond.static yJ8_newLength_cabcc, Cond.initialized RJ8, Cond.code yJ8_newLength_cabcc cJ8_newLength_cabcc 4 (some .int), Cond.methodLink RJ8 194 Lib.Math.max.name, Cond.constant RJ8 200 (2147483639), Cond.methodLink RJ8 201 yJ8_hugeLength_7cf53, Cond.static yJ8_hugeLength_7cf53, Cond.code yJ8_hugeLength_7cf53 cJ8_hugeLength_7cf53 3 (some .int), Cond.methodLink RJx4a65c 66 yJ7_copyOf_1904c, Cond.static yJ7_copyOf_1904c, Cond.initialized RJ7, Cond.code yJ7_copyOf_1904c cJ7_copyOf_1904c 2 (some (.array (.object "java/lang/Object"))), Cond.methodLink RJ7 86 ⟨"java/lang/Object", "getClass", "()Ljava/lang/Class;"⟩, Cond.selects "[Ljava/lang/Object;" ⟨"java/lang/Object", "getClass", "()Ljava/lang/Class;"⟩ ⟨"java/lang/Object", "getClass", "()Ljava/lang/Class;"⟩, Cond.instanceMethod ⟨"java/lang/Object", "getClass", "()Ljava/lang/Class;"⟩, Cond.native ⟨"java/lang/Object", "getClass", "()Ljava/lang/Class;"⟩, Cond.methodLink RJ7 300 yJ7_copyOf_6403c, Cond.static yJ7_copyOf_6403c, Cond.code yJ7_copyOf_6403c cJ7_copyOf_6403c 4 (some (.array (.object "java/lang/Object"))), Cond.classLink RJ7 110 "[Ljava/lang/Object;", Cond.classLink RJ7 2 "java/lang/Object", Cond.methodLink RJ7 304 Lib.Math.min.name, Cond.static Lib.Math.min.name, Cond.code Lib.Math.min.name Lib.Math.min.code 2 (some .int)]
def wsX5_authorise_r6 : List Cond := [Cond.methodLink RJ7 150 arraycopyName, Cond.native arraycopyName, Cond.static arraycopyName, Cond.initialized "java/lang/System"]
def wsX5_authorise : List Cond := .code yX5_authorise cX5_authorise 3 (some .int) :: ((wsX5_authorise_r1 ++ (wsX5_authorise_r2 ++ (wsX5_authorise_r3 ++ (wsX5_authorise_r4 ++ (wsX5_authorise_r5 ++ wsX5_authorise_r6))))) ++ wsX50 ++ wsX20 ++ wsJx4a65c0 ++ wsX00 ++ wsX10 ++ (vx_atS RX5 133 "java/lang/IllegalStateException" ["java/lang/RuntimeException", "java/lang/Exception"]).filter goodWord ++ (vx_atS RX5 198 "java/lang/IndexOutOfBoundsException" ["java/lang/RuntimeException", "java/lang/Exception"]).filter goodWord ++ (vx_atS RX5 51 "java/lang/UnsupportedOperationException" ["java/lang/RuntimeException", "java/lang/Exception"]).filter goodWord)
def wsX5_entryAt_r1 : List Cond := [Cond.classLink RX5 194 "java/lang/IndexOutOfBoundsException", Cond.initialized "java/lang/IndexOutOfBoundsException", Cond.fieldLink RX5 31 "PurseWorld" "archive" "LPurseWorld$Archive;", Cond.fieldLink RX5 207 "PurseWorld$Archive" "rows" "Ljava/util/ArrayList;", Cond.classLink RX5 156 "PurseWorld$Entry", Cond.methodLink RX5 150 yX0_size, Cond.instanceMethod yX0_size, Cond.selects RX0 yX0_size yX0_size, Cond.initialized RX0, Cond.code yX0_size cX0_size 1 (some .int), Cond.fieldLink RX0 10 "PurseWorld$Archive" "rows" "Ljava/util/ArrayList;", Cond.methodLink RX0 16 yJx4a65c_size_8abf5, Cond.instanceMethod yJx4a65c_size_8abf5, Cond.selects RJx4a65c yJx4a65c_size_8abf5 yJx4a65c_size_8abf5, Cond.initialized RJx4a65c, Cond.code yJx4a65c_size_8abf5 cJx4a65c_size_8abf5 1 (some .int), Cond.fieldLink RJx4a65c 48 "java/util/ArrayList" "size" "I", Cond.methodLink RX5 137 yJx4a65c_get_915e3, Cond.instanceMethod yJx4a65c_get_915e3, Cond.selects RJx4a65c yJx4a65c_get_915e3 yJx4a65c_get_915e3, Cond.code yJx4a65c_get_915e3 cJx4a65c_get_915e3 2 (some (.object "java/lang/Object")), Cond.methodLink RJx4a65c 118 yJ15_checkIndex_7cf53, Cond.static yJ15_checkIndex_7cf53, Cond.initialized RJ15]
def wsX5_entryAt_r2 : List Cond := [Cond.code yJ15_checkIndex_7cf53 cJ15_checkIndex_7cf53 2 (some .int), Cond.methodLink RJ15 105 yJ3_checkIndex_8e157, Cond.static yJ3_checkIndex_8e157, Cond.initialized RJ3, Cond.code yJ3_checkIndex_8e157 cJ3_checkIndex_8e157 3 (some .int), Cond.methodLink RJx4a65c 123 yJx4a65c_elementData_915e3, Cond.instanceMethod yJx4a65c_elementData_915e3, Cond.selects RJx4a65c yJx4a65c_elementData_915e3 yJx4a65c_elementData_915e3, Cond.code yJx4a65c_elementData_915e3 cJx4a65c_elementData_915e3 2 (some (.object "java/lang/Object")), Cond.fieldLink RJx4a65c 9 "java/util/ArrayList" "elementData" "[Ljava/lang/Object;"]
def wsX5_entryAt : List Cond := .code yX5_entryAt cX5_entryAt 2 (some (.object "PurseWorld$Entry")) :: ((wsX5_entryAt_r1 ++ wsX5_entryAt_r2) ++ wsX50 ++ wsX00 ++ wsJx4a65c0 ++ (vx_atS RX5 198 "java/lang/IndexOutOfBoundsException" ["java/lang/RuntimeException", "java/lang/Exception"]).filter goodWord)
def wsX5_refund_r1 : List Cond := [Cond.classLink RX5 129 "java/lang/IllegalStateException", Cond.initialized "java/lang/IllegalStateException", Cond.fieldLink RX5 31 "PurseWorld" "archive" "LPurseWorld$Archive;", Cond.fieldLink RX5 155 "PurseWorld$Entry" "terms" "LPurseWorld$Transfer;", Cond.fieldLink RX5 158 "PurseWorld$Transfer" "payer" "I", Cond.fieldLink RX5 164 "PurseWorld$Transfer" "payee" "I", Cond.fieldLink RX5 169 "PurseWorld$Entry" "refunded" "Z", Cond.fieldLink RX5 179 "PurseWorld$Purse" "balance" "I", Cond.fieldLink RX5 182 "PurseWorld$Transfer" "amount" "I", Cond.methodLink RX5 151 yX5_entryAt, Cond.instanceMethod yX5_entryAt, Cond.selects RX5 yX5_entryAt yX5_entryAt, Cond.initialized RX5, Cond.code yX5_entryAt cX5_entryAt 2 (some (.object "PurseWorld$Entry")), Cond.classLink RX5 194 "java/lang/IndexOutOfBoundsException", Cond.initialized "java/lang/IndexOutOfBoundsException", Cond.fieldLink RX5 207 "PurseWorld$Archive" "rows" "Ljava/util/ArrayList;", Cond.classLink RX5 156 "PurseWorld$Entry", Cond.methodLink RX5 150 yX0_size, Cond.instanceMethod yX0_size, Cond.selects RX0 yX0_size yX0_size, Cond.initialized RX0, Cond.code yX0_size cX0_size 1 (some .int), Cond.fieldLink RX0 10 "PurseWorld$Archive" "rows" "Ljava/util/ArrayList;"]
def wsX5_refund_r2 : List Cond := [Cond.methodLink RX0 16 yJx4a65c_size_8abf5, Cond.instanceMethod yJx4a65c_size_8abf5, Cond.selects RJx4a65c yJx4a65c_size_8abf5 yJx4a65c_size_8abf5, Cond.initialized RJx4a65c, Cond.code yJx4a65c_size_8abf5 cJx4a65c_size_8abf5 1 (some .int), Cond.fieldLink RJx4a65c 48 "java/util/ArrayList" "size" "I", Cond.methodLink RX5 137 yJx4a65c_get_915e3, Cond.instanceMethod yJx4a65c_get_915e3, Cond.selects RJx4a65c yJx4a65c_get_915e3 yJx4a65c_get_915e3, Cond.code yJx4a65c_get_915e3 cJx4a65c_get_915e3 2 (some (.object "java/lang/Object")), Cond.methodLink RJx4a65c 118 yJ15_checkIndex_7cf53, Cond.static yJ15_checkIndex_7cf53, Cond.initialized RJ15, Cond.code yJ15_checkIndex_7cf53 cJ15_checkIndex_7cf53 2 (some .int), Cond.methodLink RJ15 105 yJ3_checkIndex_8e157, Cond.static yJ3_checkIndex_8e157, Cond.initialized RJ3, Cond.code yJ3_checkIndex_8e157 cJ3_checkIndex_8e157 3 (some .int), Cond.methodLink RJx4a65c 123 yJx4a65c_elementData_915e3, Cond.instanceMethod yJx4a65c_elementData_915e3, Cond.selects RJx4a65c yJx4a65c_elementData_915e3 yJx4a65c_elementData_915e3, Cond.code yJx4a65c_elementData_915e3 cJx4a65c_elementData_915e3 2 (some (.object "java/lang/Object")), Cond.fieldLink RJx4a65c 9 "java/util/ArrayList" "elementData" "[Ljava/lang/Object;", Cond.methodLink RX5 161 yX0_has]
def wsX5_refund_r3 : List Cond := [Cond.instanceMethod yX0_has, Cond.selects RX0 yX0_has yX0_has, Cond.code yX0_has cX0_has 3 (some .boolean), Cond.methodLink RX0 40 yX0_hadAmong, Cond.instanceMethod yX0_hadAmong, Cond.selects RX0 yX0_hadAmong yX0_hadAmong, Cond.code yX0_hadAmong cX0_hadAmong 6 (some .boolean), Cond.classLink RX0 24 "PurseWorld$Entry", Cond.fieldLink RX0 26 "PurseWorld$Entry" "teller" "I", Cond.fieldLink RX0 30 "PurseWorld$Entry" "terms" "LPurseWorld$Transfer;", Cond.methodLink RX0 20 yJx4a65c_get_915e3, Cond.methodLink RX0 34 yX4_same, Cond.instanceMethod yX4_same, Cond.selects RX4 yX4_same yX4_same, Cond.initialized RX4, Cond.code yX4_same cX4_same 2 (some .boolean), Cond.fieldLink RX4 7 "PurseWorld$Transfer" "payer" "I", Cond.fieldLink RX4 13 "PurseWorld$Transfer" "payerSerial" "I", Cond.fieldLink RX4 16 "PurseWorld$Transfer" "payee" "I", Cond.fieldLink RX4 19 "PurseWorld$Transfer" "payeeSerial" "I", Cond.fieldLink RX4 22 "PurseWorld$Transfer" "amount" "I", Cond.methodLink RX5 175 yX0_markRefunded, Cond.instanceMethod yX0_markRefunded, Cond.selects RX0 yX0_markRefunded yX0_markRefunded]
def wsX5_refund_r4 : List Cond := [Cond.code yX0_markRefunded cX0_markRefunded 4 none, Cond.fieldLink RX0 44 "PurseWorld$Entry" "refunded" "Z", Cond.methodLink RX5 61 yX5_purseAt, Cond.instanceMethod yX5_purseAt, Cond.selects RX5 yX5_purseAt yX5_purseAt, Cond.code yX5_purseAt cX5_purseAt 2 (some (.object "PurseWorld$Purse")), Cond.fieldLink RX5 21 "PurseWorld" "owners" "Ljava/util/ArrayList;", Cond.classLink RX5 52 "PurseWorld$Purse", Cond.methodLink RX5 43 yJx4a65c_size_8abf5]
def wsX5_refund : List Cond := .code yX5_refund cX5_refund 4 (some .int) :: ((wsX5_refund_r1 ++ (wsX5_refund_r2 ++ (wsX5_refund_r3 ++ wsX5_refund_r4))) ++ wsX50 ++ wsX10 ++ wsX40 ++ wsX30 ++ wsX00 ++ wsJx4a65c0 ++ (vx_atS RX5 133 "java/lang/IllegalStateException" ["java/lang/RuntimeException", "java/lang/Exception"]).filter goodWord ++ (vx_atS RX5 198 "java/lang/IndexOutOfBoundsException" ["java/lang/RuntimeException", "java/lang/Exception"]).filter goodWord)
def wsX5_told_r1 : List Cond := [Cond.classLink RX5 36 "java/lang/IllegalArgumentException", Cond.initialized "java/lang/IllegalArgumentException", Cond.fieldLink RX5 179 "PurseWorld$Purse" "balance" "I", Cond.fieldLink RX5 74 "PurseWorld$Purse" "serial" "I", Cond.fieldLink RX5 123 "PurseWorld$Purse" "state" "I", Cond.fieldLink RX5 134 "PurseWorld$Purse" "kept" "Ljava/util/ArrayList;", Cond.methodLink RX5 61 yX5_purseAt, Cond.instanceMethod yX5_purseAt, Cond.selects RX5 yX5_purseAt yX5_purseAt, Cond.initialized RX5, Cond.code yX5_purseAt cX5_purseAt 2 (some (.object "PurseWorld$Purse")), Cond.classLink RX5 194 "java/lang/IndexOutOfBoundsException", Cond.initialized "java/lang/IndexOutOfBoundsException", Cond.fieldLink RX5 21 "PurseWorld" "owners" "Ljava/util/ArrayList;", Cond.classLink RX5 52 "PurseWorld$Purse", Cond.methodLink RX5 43 yJx4a65c_size_8abf5, Cond.instanceMethod yJx4a65c_size_8abf5, Cond.selects RJx4a65c yJx4a65c_size_8abf5 yJx4a65c_size_8abf5, Cond.initialized RJx4a65c, Cond.code yJx4a65c_size_8abf5 cJx4a65c_size_8abf5 1 (some .int), Cond.fieldLink RJx4a65c 48 "java/util/ArrayList" "size" "I", Cond.methodLink RX5 137 yJx4a65c_get_915e3, Cond.instanceMethod yJx4a65c_get_915e3, Cond.selects RJx4a65c yJx4a65c_get_915e3 yJx4a65c_get_915e3]
def wsX5_told_r2 : List Cond := [Cond.code yJx4a65c_get_915e3 cJx4a65c_get_915e3 2 (some (.object "java/lang/Object")), Cond.methodLink RJx4a65c 118 yJ15_checkIndex_7cf53, Cond.static yJ15_checkIndex_7cf53, Cond.initialized RJ15, Cond.code yJ15_checkIndex_7cf53 cJ15_checkIndex_7cf53 2 (some .int), Cond.methodLink RJ15 105 yJ3_checkIndex_8e157, Cond.static yJ3_checkIndex_8e157, Cond.initialized RJ3, Cond.code yJ3_checkIndex_8e157 cJ3_checkIndex_8e157 3 (some .int), Cond.methodLink RJx4a65c 123 yJx4a65c_elementData_915e3, Cond.instanceMethod yJx4a65c_elementData_915e3, Cond.selects RJx4a65c yJx4a65c_elementData_915e3 yJx4a65c_elementData_915e3, Cond.code yJx4a65c_elementData_915e3 cJx4a65c_elementData_915e3 2 (some (.object "java/lang/Object")), Cond.fieldLink RJx4a65c 9 "java/util/ArrayList" "elementData" "[Ljava/lang/Object;"]
def wsX5_told : List Cond := .code yX5_told cX5_told 4 (some .int) :: ((wsX5_told_r1 ++ wsX5_told_r2) ++ wsX30 ++ wsX50 ++ wsJx4a65c0 ++ (vx_atS RX5 40 "java/lang/IllegalArgumentException" ["java/lang/RuntimeException", "java/lang/Exception"]).filter goodWord ++ (vx_atS RX5 198 "java/lang/IndexOutOfBoundsException" ["java/lang/RuntimeException", "java/lang/Exception"]).filter goodWord)
def wsX5_partOf : List Cond := .code yX5_partOf cX5_partOf 2 (some .int) :: ([.classLink RX5 36 "java/lang/IllegalArgumentException", .initialized "java/lang/IllegalArgumentException", .fieldLink RX5 158 "PurseWorld$Transfer" "payer" "I", .fieldLink RX5 220 "PurseWorld$Transfer" "payerSerial" "I", .fieldLink RX5 164 "PurseWorld$Transfer" "payee" "I", .fieldLink RX5 223 "PurseWorld$Transfer" "payeeSerial" "I", .fieldLink RX5 182 "PurseWorld$Transfer" "amount" "I"] ++ wsX40 ++ (vx_atS RX5 40 "java/lang/IllegalArgumentException" ["java/lang/RuntimeException", "java/lang/Exception"]).filter goodWord)
def wsX5_transfer_r1 : List Cond := [Cond.fieldLink RX5 187 "PurseWorld$Purse" "current" "LPurseWorld$Transfer;", Cond.methodLink RX5 61 yX5_purseAt, Cond.instanceMethod yX5_purseAt, Cond.selects RX5 yX5_purseAt yX5_purseAt, Cond.initialized RX5, Cond.code yX5_purseAt cX5_purseAt 2 (some (.object "PurseWorld$Purse")), Cond.classLink RX5 194 "java/lang/IndexOutOfBoundsException", Cond.initialized "java/lang/IndexOutOfBoundsException", Cond.fieldLink RX5 21 "PurseWorld" "owners" "Ljava/util/ArrayList;", Cond.classLink RX5 52 "PurseWorld$Purse", Cond.methodLink RX5 43 yJx4a65c_size_8abf5, Cond.instanceMethod yJx4a65c_size_8abf5, Cond.selects RJx4a65c yJx4a65c_size_8abf5 yJx4a65c_size_8abf5, Cond.initialized RJx4a65c, Cond.code yJx4a65c_size_8abf5 cJx4a65c_size_8abf5 1 (some .int), Cond.fieldLink RJx4a65c 48 "java/util/ArrayList" "size" "I", Cond.methodLink RX5 137 yJx4a65c_get_915e3, Cond.instanceMethod yJx4a65c_get_915e3, Cond.selects RJx4a65c yJx4a65c_get_915e3 yJx4a65c_get_915e3, Cond.code yJx4a65c_get_915e3 cJx4a65c_get_915e3 2 (some (.object "java/lang/Object")), Cond.methodLink RJx4a65c 118 yJ15_checkIndex_7cf53, Cond.static yJ15_checkIndex_7cf53, Cond.initialized RJ15, Cond.code yJ15_checkIndex_7cf53 cJ15_checkIndex_7cf53 2 (some .int)]
def wsX5_transfer_r2 : List Cond := [Cond.methodLink RJ15 105 yJ3_checkIndex_8e157, Cond.static yJ3_checkIndex_8e157, Cond.initialized RJ3, Cond.code yJ3_checkIndex_8e157 cJ3_checkIndex_8e157 3 (some .int), Cond.methodLink RJx4a65c 123 yJx4a65c_elementData_915e3, Cond.instanceMethod yJx4a65c_elementData_915e3, Cond.selects RJx4a65c yJx4a65c_elementData_915e3 yJx4a65c_elementData_915e3, Cond.code yJx4a65c_elementData_915e3 cJx4a65c_elementData_915e3 2 (some (.object "java/lang/Object")), Cond.fieldLink RJx4a65c 9 "java/util/ArrayList" "elementData" "[Ljava/lang/Object;", Cond.methodLink RX5 190 yX5_partOf, Cond.static yX5_partOf, Cond.code yX5_partOf cX5_partOf 2 (some .int), Cond.classLink RX5 36 "java/lang/IllegalArgumentException", Cond.initialized "java/lang/IllegalArgumentException", Cond.fieldLink RX5 158 "PurseWorld$Transfer" "payer" "I", Cond.fieldLink RX5 220 "PurseWorld$Transfer" "payerSerial" "I", Cond.fieldLink RX5 164 "PurseWorld$Transfer" "payee" "I", Cond.fieldLink RX5 223 "PurseWorld$Transfer" "payeeSerial" "I", Cond.fieldLink RX5 182 "PurseWorld$Transfer" "amount" "I"]
def wsX5_transfer : List Cond := .code yX5_transfer cX5_transfer 3 (some .int) :: ((wsX5_transfer_r1 ++ wsX5_transfer_r2) ++ wsX30 ++ wsX50 ++ wsJx4a65c0 ++ wsX40 ++ (vx_atS RX5 198 "java/lang/IndexOutOfBoundsException" ["java/lang/RuntimeException", "java/lang/Exception"]).filter goodWord ++ (vx_atS RX5 40 "java/lang/IllegalArgumentException" ["java/lang/RuntimeException", "java/lang/Exception"]).filter goodWord)
def wsX5_log_r1 : List Cond := [Cond.classLink RX5 194 "java/lang/IndexOutOfBoundsException", Cond.initialized "java/lang/IndexOutOfBoundsException", Cond.fieldLink RX5 134 "PurseWorld$Purse" "kept" "Ljava/util/ArrayList;", Cond.classLink RX5 7 "PurseWorld$Transfer", Cond.methodLink RX5 61 yX5_purseAt, Cond.instanceMethod yX5_purseAt, Cond.selects RX5 yX5_purseAt yX5_purseAt, Cond.initialized RX5, Cond.code yX5_purseAt cX5_purseAt 2 (some (.object "PurseWorld$Purse")), Cond.fieldLink RX5 21 "PurseWorld" "owners" "Ljava/util/ArrayList;", Cond.classLink RX5 52 "PurseWorld$Purse", Cond.methodLink RX5 43 yJx4a65c_size_8abf5, Cond.instanceMethod yJx4a65c_size_8abf5, Cond.selects RJx4a65c yJx4a65c_size_8abf5 yJx4a65c_size_8abf5, Cond.initialized RJx4a65c, Cond.code yJx4a65c_size_8abf5 cJx4a65c_size_8abf5 1 (some .int), Cond.fieldLink RJx4a65c 48 "java/util/ArrayList" "size" "I", Cond.methodLink RX5 137 yJx4a65c_get_915e3, Cond.instanceMethod yJx4a65c_get_915e3, Cond.selects RJx4a65c yJx4a65c_get_915e3 yJx4a65c_get_915e3, Cond.code yJx4a65c_get_915e3 cJx4a65c_get_915e3 2 (some (.object "java/lang/Object")), Cond.methodLink RJx4a65c 118 yJ15_checkIndex_7cf53, Cond.static yJ15_checkIndex_7cf53, Cond.initialized RJ15]
def wsX5_log_r2 : List Cond := [Cond.code yJ15_checkIndex_7cf53 cJ15_checkIndex_7cf53 2 (some .int), Cond.methodLink RJ15 105 yJ3_checkIndex_8e157, Cond.static yJ3_checkIndex_8e157, Cond.initialized RJ3, Cond.code yJ3_checkIndex_8e157 cJ3_checkIndex_8e157 3 (some .int), Cond.methodLink RJx4a65c 123 yJx4a65c_elementData_915e3, Cond.instanceMethod yJx4a65c_elementData_915e3, Cond.selects RJx4a65c yJx4a65c_elementData_915e3 yJx4a65c_elementData_915e3, Cond.code yJx4a65c_elementData_915e3 cJx4a65c_elementData_915e3 2 (some (.object "java/lang/Object")), Cond.fieldLink RJx4a65c 9 "java/util/ArrayList" "elementData" "[Ljava/lang/Object;", Cond.methodLink RX5 190 yX5_partOf, Cond.static yX5_partOf, Cond.code yX5_partOf cX5_partOf 2 (some .int), Cond.classLink RX5 36 "java/lang/IllegalArgumentException", Cond.initialized "java/lang/IllegalArgumentException", Cond.fieldLink RX5 158 "PurseWorld$Transfer" "payer" "I", Cond.fieldLink RX5 220 "PurseWorld$Transfer" "payerSerial" "I", Cond.fieldLink RX5 164 "PurseWorld$Transfer" "payee" "I", Cond.fieldLink RX5 223 "PurseWorld$Transfer" "payeeSerial" "I", Cond.fieldLink RX5 182 "PurseWorld$Transfer" "amount" "I"]
def wsX5_log : List Cond := .code yX5_log cX5_log 5 (some .int) :: ((wsX5_log_r1 ++ wsX5_log_r2) ++ wsX30 ++ wsX50 ++ wsJx4a65c0 ++ wsX40 ++ (vx_atS RX5 198 "java/lang/IndexOutOfBoundsException" ["java/lang/RuntimeException", "java/lang/Exception"]).filter goodWord ++ (vx_atS RX5 40 "java/lang/IllegalArgumentException" ["java/lang/RuntimeException", "java/lang/Exception"]).filter goodWord)
def wsX5_messages : List Cond := .code yX5_messages cX5_messages 1 (some .int) :: ([.fieldLink RX5 25 "PurseWorld" "sent" "Ljava/util/ArrayList;", .methodLink RX5 43 yJx4a65c_size_8abf5, .instanceMethod yJx4a65c_size_8abf5, .selects RJx4a65c yJx4a65c_size_8abf5 yJx4a65c_size_8abf5, .initialized RJx4a65c, .code yJx4a65c_size_8abf5 cJx4a65c_size_8abf5 1 (some .int), .fieldLink RJx4a65c 48 "java/util/ArrayList" "size" "I"] ++ wsX50 ++ wsJx4a65c0)
def wsX5_message_r1 : List Cond := [Cond.fieldLink RX5 90 "PurseWorld$Message" "kind" "I", Cond.fieldLink RX5 199 "PurseWorld$Message" "to" "I", Cond.fieldLink RX5 113 "PurseWorld$Message" "terms" "LPurseWorld$Transfer;", Cond.methodLink RX5 82 yX5_messageAt, Cond.instanceMethod yX5_messageAt, Cond.selects RX5 yX5_messageAt yX5_messageAt, Cond.initialized RX5, Cond.code yX5_messageAt cX5_messageAt 2 (some (.object "PurseWorld$Message")), Cond.classLink RX5 194 "java/lang/IndexOutOfBoundsException", Cond.initialized "java/lang/IndexOutOfBoundsException", Cond.fieldLink RX5 25 "PurseWorld" "sent" "Ljava/util/ArrayList;", Cond.classLink RX5 91 "PurseWorld$Message", Cond.methodLink RX5 43 yJx4a65c_size_8abf5, Cond.instanceMethod yJx4a65c_size_8abf5, Cond.selects RJx4a65c yJx4a65c_size_8abf5 yJx4a65c_size_8abf5, Cond.initialized RJx4a65c, Cond.code yJx4a65c_size_8abf5 cJx4a65c_size_8abf5 1 (some .int), Cond.fieldLink RJx4a65c 48 "java/util/ArrayList" "size" "I", Cond.methodLink RX5 137 yJx4a65c_get_915e3, Cond.instanceMethod yJx4a65c_get_915e3, Cond.selects RJx4a65c yJx4a65c_get_915e3 yJx4a65c_get_915e3, Cond.code yJx4a65c_get_915e3 cJx4a65c_get_915e3 2 (some (.object "java/lang/Object")), Cond.methodLink RJx4a65c 118 yJ15_checkIndex_7cf53, Cond.static yJ15_checkIndex_7cf53]
def wsX5_message_r2 : List Cond := [Cond.initialized RJ15, Cond.code yJ15_checkIndex_7cf53 cJ15_checkIndex_7cf53 2 (some .int), Cond.methodLink RJ15 105 yJ3_checkIndex_8e157, Cond.static yJ3_checkIndex_8e157, Cond.initialized RJ3, Cond.code yJ3_checkIndex_8e157 cJ3_checkIndex_8e157 3 (some .int), Cond.methodLink RJx4a65c 123 yJx4a65c_elementData_915e3, Cond.instanceMethod yJx4a65c_elementData_915e3, Cond.selects RJx4a65c yJx4a65c_elementData_915e3 yJx4a65c_elementData_915e3, Cond.code yJx4a65c_elementData_915e3 cJx4a65c_elementData_915e3 2 (some (.object "java/lang/Object")), Cond.fieldLink RJx4a65c 9 "java/util/ArrayList" "elementData" "[Ljava/lang/Object;", Cond.methodLink RX5 190 yX5_partOf, Cond.static yX5_partOf, Cond.code yX5_partOf cX5_partOf 2 (some .int), Cond.classLink RX5 36 "java/lang/IllegalArgumentException", Cond.initialized "java/lang/IllegalArgumentException", Cond.fieldLink RX5 158 "PurseWorld$Transfer" "payer" "I", Cond.fieldLink RX5 220 "PurseWorld$Transfer" "payerSerial" "I", Cond.fieldLink RX5 164 "PurseWorld$Transfer" "payee" "I", Cond.fieldLink RX5 223 "PurseWorld$Transfer" "payeeSerial" "I", Cond.fieldLink RX5 182 "PurseWorld$Transfer" "amount" "I"]
def wsX5_message : List Cond := .code yX5_message cX5_message 4 (some .int) :: ((wsX5_message_r1 ++ wsX5_message_r2) ++ wsX20 ++ wsX50 ++ wsJx4a65c0 ++ wsX40 ++ (vx_atS RX5 198 "java/lang/IndexOutOfBoundsException" ["java/lang/RuntimeException", "java/lang/Exception"]).filter goodWord ++ (vx_atS RX5 40 "java/lang/IllegalArgumentException" ["java/lang/RuntimeException", "java/lang/Exception"]).filter goodWord)
def wsX5_entries : List Cond := .code yX5_entries cX5_entries 1 (some .int) :: ([.fieldLink RX5 31 "PurseWorld" "archive" "LPurseWorld$Archive;", .methodLink RX5 150 yX0_size, .instanceMethod yX0_size, .selects RX0 yX0_size yX0_size, .initialized RX0, .code yX0_size cX0_size 1 (some .int), .fieldLink RX0 10 "PurseWorld$Archive" "rows" "Ljava/util/ArrayList;", .methodLink RX0 16 yJx4a65c_size_8abf5, .instanceMethod yJx4a65c_size_8abf5, .selects RJx4a65c yJx4a65c_size_8abf5 yJx4a65c_size_8abf5, .initialized RJx4a65c, .code yJx4a65c_size_8abf5 cJx4a65c_size_8abf5 1 (some .int), .fieldLink RJx4a65c 48 "java/util/ArrayList" "size" "I"] ++ wsX50 ++ wsX00 ++ wsJx4a65c0)
def wsX5_entry_r1 : List Cond := [Cond.fieldLink RX5 202 "PurseWorld$Entry" "teller" "I", Cond.fieldLink RX5 169 "PurseWorld$Entry" "refunded" "Z", Cond.fieldLink RX5 155 "PurseWorld$Entry" "terms" "LPurseWorld$Transfer;", Cond.methodLink RX5 151 yX5_entryAt, Cond.instanceMethod yX5_entryAt, Cond.selects RX5 yX5_entryAt yX5_entryAt, Cond.initialized RX5, Cond.code yX5_entryAt cX5_entryAt 2 (some (.object "PurseWorld$Entry")), Cond.classLink RX5 194 "java/lang/IndexOutOfBoundsException", Cond.initialized "java/lang/IndexOutOfBoundsException", Cond.fieldLink RX5 31 "PurseWorld" "archive" "LPurseWorld$Archive;", Cond.fieldLink RX5 207 "PurseWorld$Archive" "rows" "Ljava/util/ArrayList;", Cond.classLink RX5 156 "PurseWorld$Entry", Cond.methodLink RX5 150 yX0_size, Cond.instanceMethod yX0_size, Cond.selects RX0 yX0_size yX0_size, Cond.initialized RX0, Cond.code yX0_size cX0_size 1 (some .int), Cond.fieldLink RX0 10 "PurseWorld$Archive" "rows" "Ljava/util/ArrayList;", Cond.methodLink RX0 16 yJx4a65c_size_8abf5, Cond.instanceMethod yJx4a65c_size_8abf5, Cond.selects RJx4a65c yJx4a65c_size_8abf5 yJx4a65c_size_8abf5, Cond.initialized RJx4a65c, Cond.code yJx4a65c_size_8abf5 cJx4a65c_size_8abf5 1 (some .int)]
def wsX5_entry_r2 : List Cond := [Cond.fieldLink RJx4a65c 48 "java/util/ArrayList" "size" "I", Cond.methodLink RX5 137 yJx4a65c_get_915e3, Cond.instanceMethod yJx4a65c_get_915e3, Cond.selects RJx4a65c yJx4a65c_get_915e3 yJx4a65c_get_915e3, Cond.code yJx4a65c_get_915e3 cJx4a65c_get_915e3 2 (some (.object "java/lang/Object")), Cond.methodLink RJx4a65c 118 yJ15_checkIndex_7cf53, Cond.static yJ15_checkIndex_7cf53, Cond.initialized RJ15, Cond.code yJ15_checkIndex_7cf53 cJ15_checkIndex_7cf53 2 (some .int), Cond.methodLink RJ15 105 yJ3_checkIndex_8e157, Cond.static yJ3_checkIndex_8e157, Cond.initialized RJ3, Cond.code yJ3_checkIndex_8e157 cJ3_checkIndex_8e157 3 (some .int), Cond.methodLink RJx4a65c 123 yJx4a65c_elementData_915e3, Cond.instanceMethod yJx4a65c_elementData_915e3, Cond.selects RJx4a65c yJx4a65c_elementData_915e3 yJx4a65c_elementData_915e3, Cond.code yJx4a65c_elementData_915e3 cJx4a65c_elementData_915e3 2 (some (.object "java/lang/Object")), Cond.fieldLink RJx4a65c 9 "java/util/ArrayList" "elementData" "[Ljava/lang/Object;", Cond.methodLink RX5 190 yX5_partOf, Cond.static yX5_partOf, Cond.code yX5_partOf cX5_partOf 2 (some .int), Cond.classLink RX5 36 "java/lang/IllegalArgumentException", Cond.initialized "java/lang/IllegalArgumentException", Cond.fieldLink RX5 158 "PurseWorld$Transfer" "payer" "I"]
def wsX5_entry_r3 : List Cond := [Cond.fieldLink RX5 220 "PurseWorld$Transfer" "payerSerial" "I", Cond.fieldLink RX5 164 "PurseWorld$Transfer" "payee" "I", Cond.fieldLink RX5 223 "PurseWorld$Transfer" "payeeSerial" "I", Cond.fieldLink RX5 182 "PurseWorld$Transfer" "amount" "I"]
def wsX5_entry : List Cond := .code yX5_entry cX5_entry 4 (some .int) :: ((wsX5_entry_r1 ++ (wsX5_entry_r2 ++ wsX5_entry_r3)) ++ wsX10 ++ wsX50 ++ wsX00 ++ wsJx4a65c0 ++ wsX40 ++ (vx_atS RX5 198 "java/lang/IndexOutOfBoundsException" ["java/lang/RuntimeException", "java/lang/Exception"]).filter goodWord ++ (vx_atS RX5 40 "java/lang/IllegalArgumentException" ["java/lang/RuntimeException", "java/lang/Exception"]).filter goodWord)
def wsX5_balances_r1 : List Cond := [Cond.fieldLink RX5 21 "PurseWorld" "owners" "Ljava/util/ArrayList;", Cond.classLink RX5 52 "PurseWorld$Purse", Cond.fieldLink RX5 179 "PurseWorld$Purse" "balance" "I", Cond.methodLink RX5 43 yJx4a65c_size_8abf5, Cond.instanceMethod yJx4a65c_size_8abf5, Cond.selects RJx4a65c yJx4a65c_size_8abf5 yJx4a65c_size_8abf5, Cond.initialized RJx4a65c, Cond.code yJx4a65c_size_8abf5 cJx4a65c_size_8abf5 1 (some .int), Cond.fieldLink RJx4a65c 48 "java/util/ArrayList" "size" "I", Cond.methodLink RX5 137 yJx4a65c_get_915e3, Cond.instanceMethod yJx4a65c_get_915e3, Cond.selects RJx4a65c yJx4a65c_get_915e3 yJx4a65c_get_915e3, Cond.code yJx4a65c_get_915e3 cJx4a65c_get_915e3 2 (some (.object "java/lang/Object")), Cond.methodLink RJx4a65c 118 yJ15_checkIndex_7cf53, Cond.static yJ15_checkIndex_7cf53, Cond.initialized RJ15, Cond.code yJ15_checkIndex_7cf53 cJ15_checkIndex_7cf53 2 (some .int), Cond.methodLink RJ15 105 yJ3_checkIndex_8e157, Cond.static yJ3_checkIndex_8e157, Cond.initialized RJ3, Cond.code yJ3_checkIndex_8e157 cJ3_checkIndex_8e157 3 (some .int), Cond.methodLink RJx4a65c 123 yJx4a65c_elementData_915e3, Cond.instanceMethod yJx4a65c_elementData_915e3, Cond.selects RJx4a65c yJx4a65c_elementData_915e3 yJx4a65c_elementData_915e3]
def wsX5_balances_r2 : List Cond := [Cond.code yJx4a65c_elementData_915e3 cJx4a65c_elementData_915e3 2 (some (.object "java/lang/Object")), Cond.fieldLink RJx4a65c 9 "java/util/ArrayList" "elementData" "[Ljava/lang/Object;"]
def wsX5_balances : List Cond := .code yX5_balances cX5_balances 4 (some .long) :: ((wsX5_balances_r1 ++ wsX5_balances_r2) ++ wsX50 ++ wsX30 ++ wsJx4a65c0)
def wsX5_amountIfPayeeWaits_r1 : List Cond := [Cond.fieldLink RX5 164 "PurseWorld$Transfer" "payee" "I", Cond.fieldLink RX5 31 "PurseWorld" "archive" "LPurseWorld$Archive;", Cond.fieldLink RX5 182 "PurseWorld$Transfer" "amount" "I", Cond.methodLink RX5 61 yX5_purseAt, Cond.instanceMethod yX5_purseAt, Cond.selects RX5 yX5_purseAt yX5_purseAt, Cond.initialized RX5, Cond.code yX5_purseAt cX5_purseAt 2 (some (.object "PurseWorld$Purse")), Cond.classLink RX5 194 "java/lang/IndexOutOfBoundsException", Cond.initialized "java/lang/IndexOutOfBoundsException", Cond.fieldLink RX5 21 "PurseWorld" "owners" "Ljava/util/ArrayList;", Cond.classLink RX5 52 "PurseWorld$Purse", Cond.methodLink RX5 43 yJx4a65c_size_8abf5, Cond.instanceMethod yJx4a65c_size_8abf5, Cond.selects RJx4a65c yJx4a65c_size_8abf5 yJx4a65c_size_8abf5, Cond.initialized RJx4a65c, Cond.code yJx4a65c_size_8abf5 cJx4a65c_size_8abf5 1 (some .int), Cond.fieldLink RJx4a65c 48 "java/util/ArrayList" "size" "I", Cond.methodLink RX5 137 yJx4a65c_get_915e3, Cond.instanceMethod yJx4a65c_get_915e3, Cond.selects RJx4a65c yJx4a65c_get_915e3 yJx4a65c_get_915e3, Cond.code yJx4a65c_get_915e3 cJx4a65c_get_915e3 2 (some (.object "java/lang/Object")), Cond.methodLink RJx4a65c 118 yJ15_checkIndex_7cf53, Cond.static yJ15_checkIndex_7cf53]
def wsX5_amountIfPayeeWaits_r2 : List Cond := [Cond.initialized RJ15, Cond.code yJ15_checkIndex_7cf53 cJ15_checkIndex_7cf53 2 (some .int), Cond.methodLink RJ15 105 yJ3_checkIndex_8e157, Cond.static yJ3_checkIndex_8e157, Cond.initialized RJ3, Cond.code yJ3_checkIndex_8e157 cJ3_checkIndex_8e157 3 (some .int), Cond.methodLink RJx4a65c 123 yJx4a65c_elementData_915e3, Cond.instanceMethod yJx4a65c_elementData_915e3, Cond.selects RJx4a65c yJx4a65c_elementData_915e3 yJx4a65c_elementData_915e3, Cond.code yJx4a65c_elementData_915e3 cJx4a65c_elementData_915e3 2 (some (.object "java/lang/Object")), Cond.fieldLink RJx4a65c 9 "java/util/ArrayList" "elementData" "[Ljava/lang/Object;", Cond.methodLink RX5 230 yX3_does, Cond.instanceMethod yX3_does, Cond.selects RX3 yX3_does yX3_does, Cond.initialized RX3, Cond.code yX3_does cX3_does 3 (some .boolean), Cond.fieldLink RX3 32 "PurseWorld$Purse" "state" "I", Cond.fieldLink RX3 35 "PurseWorld$Purse" "current" "LPurseWorld$Transfer;", Cond.methodLink RX3 42 yX4_same, Cond.instanceMethod yX4_same, Cond.selects RX4 yX4_same yX4_same, Cond.initialized RX4, Cond.code yX4_same cX4_same 2 (some .boolean), Cond.fieldLink RX4 7 "PurseWorld$Transfer" "payer" "I"]
def wsX5_amountIfPayeeWaits_r3 : List Cond := [Cond.fieldLink RX4 13 "PurseWorld$Transfer" "payerSerial" "I", Cond.fieldLink RX4 16 "PurseWorld$Transfer" "payee" "I", Cond.fieldLink RX4 19 "PurseWorld$Transfer" "payeeSerial" "I", Cond.fieldLink RX4 22 "PurseWorld$Transfer" "amount" "I", Cond.methodLink RX5 260 yX3_hasKept, Cond.instanceMethod yX3_hasKept, Cond.selects RX3 yX3_hasKept yX3_hasKept, Cond.code yX3_hasKept cX3_hasKept 3 (some .boolean), Cond.fieldLink RX3 25 "PurseWorld$Purse" "kept" "Ljava/util/ArrayList;", Cond.classLink RX3 43 "PurseWorld$Transfer", Cond.methodLink RX3 38 yJx4a65c_size_8abf5, Cond.methodLink RX3 48 yJx4a65c_get_915e3, Cond.methodLink RX5 161 yX0_has, Cond.instanceMethod yX0_has, Cond.selects RX0 yX0_has yX0_has, Cond.initialized RX0, Cond.code yX0_has cX0_has 3 (some .boolean), Cond.fieldLink RX0 10 "PurseWorld$Archive" "rows" "Ljava/util/ArrayList;", Cond.methodLink RX0 16 yJx4a65c_size_8abf5, Cond.methodLink RX0 40 yX0_hadAmong, Cond.instanceMethod yX0_hadAmong, Cond.selects RX0 yX0_hadAmong yX0_hadAmong, Cond.code yX0_hadAmong cX0_hadAmong 6 (some .boolean), Cond.classLink RX0 24 "PurseWorld$Entry"]
def wsX5_amountIfPayeeWaits_r4 : List Cond := [Cond.fieldLink RX0 26 "PurseWorld$Entry" "teller" "I", Cond.fieldLink RX0 30 "PurseWorld$Entry" "terms" "LPurseWorld$Transfer;", Cond.methodLink RX0 20 yJx4a65c_get_915e3, Cond.methodLink RX0 34 yX4_same, Cond.methodLink RX5 264 yX0_hasRefunded, Cond.instanceMethod yX0_hasRefunded, Cond.selects RX0 yX0_hasRefunded yX0_hasRefunded, Cond.code yX0_hasRefunded cX0_hasRefunded 4 (some .boolean), Cond.fieldLink RX0 44 "PurseWorld$Entry" "refunded" "Z"]
def wsX5_amountIfPayeeWaits : List Cond := .code yX5_amountIfPayeeWaits cX5_amountIfPayeeWaits 4 (some .long) :: ((wsX5_amountIfPayeeWaits_r1 ++ (wsX5_amountIfPayeeWaits_r2 ++ (wsX5_amountIfPayeeWaits_r3 ++ wsX5_amountIfPayeeWaits_r4))) ++ wsX40 ++ wsX50 ++ wsJx4a65c0 ++ wsX30 ++ wsX00 ++ wsX10 ++ (vx_atS RX5 198 "java/lang/IndexOutOfBoundsException" ["java/lang/RuntimeException", "java/lang/Exception"]).filter goodWord)
def wsX5_pendingOfPayer_r1 : List Cond := [Cond.fieldLink RX5 123 "PurseWorld$Purse" "state" "I", Cond.fieldLink RX5 187 "PurseWorld$Purse" "current" "LPurseWorld$Transfer;", Cond.fieldLink RX5 134 "PurseWorld$Purse" "kept" "Ljava/util/ArrayList;", Cond.classLink RX5 7 "PurseWorld$Transfer", Cond.fieldLink RX5 158 "PurseWorld$Transfer" "payer" "I", Cond.fieldLink RX5 237 "PurseWorld$Purse" "number" "I", Cond.fieldLink RX5 31 "PurseWorld" "archive" "LPurseWorld$Archive;", Cond.methodLink RX5 210 yX5_amountIfPayeeWaits, Cond.instanceMethod yX5_amountIfPayeeWaits, Cond.selects RX5 yX5_amountIfPayeeWaits yX5_amountIfPayeeWaits, Cond.initialized RX5, Cond.code yX5_amountIfPayeeWaits cX5_amountIfPayeeWaits 4 (some .long), Cond.fieldLink RX5 164 "PurseWorld$Transfer" "payee" "I", Cond.fieldLink RX5 182 "PurseWorld$Transfer" "amount" "I", Cond.methodLink RX5 61 yX5_purseAt, Cond.instanceMethod yX5_purseAt, Cond.selects RX5 yX5_purseAt yX5_purseAt, Cond.code yX5_purseAt cX5_purseAt 2 (some (.object "PurseWorld$Purse")), Cond.classLink RX5 194 "java/lang/IndexOutOfBoundsException", Cond.initialized "java/lang/IndexOutOfBoundsException", Cond.fieldLink RX5 21 "PurseWorld" "owners" "Ljava/util/ArrayList;", Cond.classLink RX5 52 "PurseWorld$Purse", Cond.methodLink RX5 43 yJx4a65c_size_8abf5, Cond.instanceMethod yJx4a65c_size_8abf5]
def wsX5_pendingOfPayer_r2 : List Cond := [Cond.selects RJx4a65c yJx4a65c_size_8abf5 yJx4a65c_size_8abf5, Cond.initialized RJx4a65c, Cond.code yJx4a65c_size_8abf5 cJx4a65c_size_8abf5 1 (some .int), Cond.fieldLink RJx4a65c 48 "java/util/ArrayList" "size" "I", Cond.methodLink RX5 137 yJx4a65c_get_915e3, Cond.instanceMethod yJx4a65c_get_915e3, Cond.selects RJx4a65c yJx4a65c_get_915e3 yJx4a65c_get_915e3, Cond.code yJx4a65c_get_915e3 cJx4a65c_get_915e3 2 (some (.object "java/lang/Object")), Cond.methodLink RJx4a65c 118 yJ15_checkIndex_7cf53, Cond.static yJ15_checkIndex_7cf53, Cond.initialized RJ15, Cond.code yJ15_checkIndex_7cf53 cJ15_checkIndex_7cf53 2 (some .int), Cond.methodLink RJ15 105 yJ3_checkIndex_8e157, Cond.static yJ3_checkIndex_8e157, Cond.initialized RJ3, Cond.code yJ3_checkIndex_8e157 cJ3_checkIndex_8e157 3 (some .int), Cond.methodLink RJx4a65c 123 yJx4a65c_elementData_915e3, Cond.instanceMethod yJx4a65c_elementData_915e3, Cond.selects RJx4a65c yJx4a65c_elementData_915e3 yJx4a65c_elementData_915e3, Cond.code yJx4a65c_elementData_915e3 cJx4a65c_elementData_915e3 2 (some (.object "java/lang/Object")), Cond.fieldLink RJx4a65c 9 "java/util/ArrayList" "elementData" "[Ljava/lang/Object;", Cond.methodLink RX5 230 yX3_does, Cond.instanceMethod yX3_does, Cond.selects RX3 yX3_does yX3_does]
def wsX5_pendingOfPayer_r3 : List Cond := [Cond.initialized RX3, Cond.code yX3_does cX3_does 3 (some .boolean), Cond.fieldLink RX3 32 "PurseWorld$Purse" "state" "I", Cond.fieldLink RX3 35 "PurseWorld$Purse" "current" "LPurseWorld$Transfer;", Cond.methodLink RX3 42 yX4_same, Cond.instanceMethod yX4_same, Cond.selects RX4 yX4_same yX4_same, Cond.initialized RX4, Cond.code yX4_same cX4_same 2 (some .boolean), Cond.fieldLink RX4 7 "PurseWorld$Transfer" "payer" "I", Cond.fieldLink RX4 13 "PurseWorld$Transfer" "payerSerial" "I", Cond.fieldLink RX4 16 "PurseWorld$Transfer" "payee" "I", Cond.fieldLink RX4 19 "PurseWorld$Transfer" "payeeSerial" "I", Cond.fieldLink RX4 22 "PurseWorld$Transfer" "amount" "I", Cond.methodLink RX5 260 yX3_hasKept, Cond.instanceMethod yX3_hasKept, Cond.selects RX3 yX3_hasKept yX3_hasKept, Cond.code yX3_hasKept cX3_hasKept 3 (some .boolean), Cond.fieldLink RX3 25 "PurseWorld$Purse" "kept" "Ljava/util/ArrayList;", Cond.classLink RX3 43 "PurseWorld$Transfer", Cond.methodLink RX3 38 yJx4a65c_size_8abf5, Cond.methodLink RX3 48 yJx4a65c_get_915e3, Cond.methodLink RX5 161 yX0_has, Cond.instanceMethod yX0_has]
def wsX5_pendingOfPayer_r4 : List Cond := [Cond.selects RX0 yX0_has yX0_has, Cond.initialized RX0, Cond.code yX0_has cX0_has 3 (some .boolean), Cond.fieldLink RX0 10 "PurseWorld$Archive" "rows" "Ljava/util/ArrayList;", Cond.methodLink RX0 16 yJx4a65c_size_8abf5, Cond.methodLink RX0 40 yX0_hadAmong, Cond.instanceMethod yX0_hadAmong, Cond.selects RX0 yX0_hadAmong yX0_hadAmong, Cond.code yX0_hadAmong cX0_hadAmong 6 (some .boolean), Cond.classLink RX0 24 "PurseWorld$Entry", Cond.fieldLink RX0 26 "PurseWorld$Entry" "teller" "I", Cond.fieldLink RX0 30 "PurseWorld$Entry" "terms" "LPurseWorld$Transfer;", Cond.methodLink RX0 20 yJx4a65c_get_915e3, Cond.methodLink RX0 34 yX4_same, Cond.methodLink RX5 264 yX0_hasRefunded, Cond.instanceMethod yX0_hasRefunded, Cond.selects RX0 yX0_hasRefunded yX0_hasRefunded, Cond.code yX0_hasRefunded cX0_hasRefunded 4 (some .boolean), Cond.fieldLink RX0 44 "PurseWorld$Entry" "refunded" "Z"]
def wsX5_pendingOfPayer : List Cond := .code yX5_pendingOfPayer cX5_pendingOfPayer 6 (some .long) :: ((wsX5_pendingOfPayer_r1 ++ (wsX5_pendingOfPayer_r2 ++ (wsX5_pendingOfPayer_r3 ++ wsX5_pendingOfPayer_r4))) ++ wsX30 ++ wsX40 ++ wsX50 ++ wsJx4a65c0 ++ wsX00 ++ wsX10 ++ (vx_atS RX5 198 "java/lang/IndexOutOfBoundsException" ["java/lang/RuntimeException", "java/lang/Exception"]).filter goodWord)
def wsX5_pending_r1 : List Cond := [Cond.fieldLink RX5 21 "PurseWorld" "owners" "Ljava/util/ArrayList;", Cond.classLink RX5 52 "PurseWorld$Purse", Cond.fieldLink RX5 31 "PurseWorld" "archive" "LPurseWorld$Archive;", Cond.fieldLink RX5 207 "PurseWorld$Archive" "rows" "Ljava/util/ArrayList;", Cond.classLink RX5 156 "PurseWorld$Entry", Cond.fieldLink RX5 202 "PurseWorld$Entry" "teller" "I", Cond.fieldLink RX5 155 "PurseWorld$Entry" "terms" "LPurseWorld$Transfer;", Cond.fieldLink RX5 158 "PurseWorld$Transfer" "payer" "I", Cond.methodLink RX5 43 yJx4a65c_size_8abf5, Cond.instanceMethod yJx4a65c_size_8abf5, Cond.selects RJx4a65c yJx4a65c_size_8abf5 yJx4a65c_size_8abf5, Cond.initialized RJx4a65c, Cond.code yJx4a65c_size_8abf5 cJx4a65c_size_8abf5 1 (some .int), Cond.fieldLink RJx4a65c 48 "java/util/ArrayList" "size" "I", Cond.methodLink RX5 137 yJx4a65c_get_915e3, Cond.instanceMethod yJx4a65c_get_915e3, Cond.selects RJx4a65c yJx4a65c_get_915e3 yJx4a65c_get_915e3, Cond.code yJx4a65c_get_915e3 cJx4a65c_get_915e3 2 (some (.object "java/lang/Object")), Cond.methodLink RJx4a65c 118 yJ15_checkIndex_7cf53, Cond.static yJ15_checkIndex_7cf53, Cond.initialized RJ15, Cond.code yJ15_checkIndex_7cf53 cJ15_checkIndex_7cf53 2 (some .int), Cond.methodLink RJ15 105 yJ3_checkIndex_8e157, Cond.static yJ3_checkIndex_8e157]
def wsX5_pending_r2 : List Cond := [Cond.initialized RJ3, Cond.code yJ3_checkIndex_8e157 cJ3_checkIndex_8e157 3 (some .int), Cond.methodLink RJx4a65c 123 yJx4a65c_elementData_915e3, Cond.instanceMethod yJx4a65c_elementData_915e3, Cond.selects RJx4a65c yJx4a65c_elementData_915e3 yJx4a65c_elementData_915e3, Cond.code yJx4a65c_elementData_915e3 cJx4a65c_elementData_915e3 2 (some (.object "java/lang/Object")), Cond.fieldLink RJx4a65c 9 "java/util/ArrayList" "elementData" "[Ljava/lang/Object;", Cond.methodLink RX5 203 yX5_pendingOfPayer, Cond.instanceMethod yX5_pendingOfPayer, Cond.selects RX5 yX5_pendingOfPayer yX5_pendingOfPayer, Cond.initialized RX5, Cond.code yX5_pendingOfPayer cX5_pendingOfPayer 6 (some .long), Cond.fieldLink RX5 123 "PurseWorld$Purse" "state" "I", Cond.fieldLink RX5 187 "PurseWorld$Purse" "current" "LPurseWorld$Transfer;", Cond.fieldLink RX5 134 "PurseWorld$Purse" "kept" "Ljava/util/ArrayList;", Cond.classLink RX5 7 "PurseWorld$Transfer", Cond.fieldLink RX5 237 "PurseWorld$Purse" "number" "I", Cond.methodLink RX5 210 yX5_amountIfPayeeWaits, Cond.instanceMethod yX5_amountIfPayeeWaits, Cond.selects RX5 yX5_amountIfPayeeWaits yX5_amountIfPayeeWaits, Cond.code yX5_amountIfPayeeWaits cX5_amountIfPayeeWaits 4 (some .long), Cond.fieldLink RX5 164 "PurseWorld$Transfer" "payee" "I", Cond.fieldLink RX5 182 "PurseWorld$Transfer" "amount" "I", Cond.methodLink RX5 61 yX5_purseAt]
def wsX5_pending_r3 : List Cond := [Cond.instanceMethod yX5_purseAt, Cond.selects RX5 yX5_purseAt yX5_purseAt, Cond.code yX5_purseAt cX5_purseAt 2 (some (.object "PurseWorld$Purse")), Cond.classLink RX5 194 "java/lang/IndexOutOfBoundsException", Cond.initialized "java/lang/IndexOutOfBoundsException", Cond.methodLink RX5 230 yX3_does, Cond.instanceMethod yX3_does, Cond.selects RX3 yX3_does yX3_does, Cond.initialized RX3, Cond.code yX3_does cX3_does 3 (some .boolean), Cond.fieldLink RX3 32 "PurseWorld$Purse" "state" "I", Cond.fieldLink RX3 35 "PurseWorld$Purse" "current" "LPurseWorld$Transfer;", Cond.methodLink RX3 42 yX4_same, Cond.instanceMethod yX4_same, Cond.selects RX4 yX4_same yX4_same, Cond.initialized RX4, Cond.code yX4_same cX4_same 2 (some .boolean), Cond.fieldLink RX4 7 "PurseWorld$Transfer" "payer" "I", Cond.fieldLink RX4 13 "PurseWorld$Transfer" "payerSerial" "I", Cond.fieldLink RX4 16 "PurseWorld$Transfer" "payee" "I", Cond.fieldLink RX4 19 "PurseWorld$Transfer" "payeeSerial" "I", Cond.fieldLink RX4 22 "PurseWorld$Transfer" "amount" "I", Cond.methodLink RX5 260 yX3_hasKept, Cond.instanceMethod yX3_hasKept]
def wsX5_pending_r4 : List Cond := [Cond.selects RX3 yX3_hasKept yX3_hasKept, Cond.code yX3_hasKept cX3_hasKept 3 (some .boolean), Cond.fieldLink RX3 25 "PurseWorld$Purse" "kept" "Ljava/util/ArrayList;", Cond.classLink RX3 43 "PurseWorld$Transfer", Cond.methodLink RX3 38 yJx4a65c_size_8abf5, Cond.methodLink RX3 48 yJx4a65c_get_915e3, Cond.methodLink RX5 161 yX0_has, Cond.instanceMethod yX0_has, Cond.selects RX0 yX0_has yX0_has, Cond.initialized RX0, Cond.code yX0_has cX0_has 3 (some .boolean), Cond.fieldLink RX0 10 "PurseWorld$Archive" "rows" "Ljava/util/ArrayList;", Cond.methodLink RX0 16 yJx4a65c_size_8abf5, Cond.methodLink RX0 40 yX0_hadAmong, Cond.instanceMethod yX0_hadAmong, Cond.selects RX0 yX0_hadAmong yX0_hadAmong, Cond.code yX0_hadAmong cX0_hadAmong 6 (some .boolean), Cond.classLink RX0 24 "PurseWorld$Entry", Cond.fieldLink RX0 26 "PurseWorld$Entry" "teller" "I", Cond.fieldLink RX0 30 "PurseWorld$Entry" "terms" "LPurseWorld$Transfer;", Cond.methodLink RX0 20 yJx4a65c_get_915e3, Cond.methodLink RX0 34 yX4_same, Cond.methodLink RX5 264 yX0_hasRefunded, Cond.instanceMethod yX0_hasRefunded]
def wsX5_pending_r5 : List Cond := [Cond.selects RX0 yX0_hasRefunded yX0_hasRefunded, Cond.code yX0_hasRefunded cX0_hasRefunded 4 (some .boolean), Cond.fieldLink RX0 44 "PurseWorld$Entry" "refunded" "Z", Cond.methodLink RX5 150 yX0_size, Cond.instanceMethod yX0_size, Cond.selects RX0 yX0_size yX0_size, Cond.code yX0_size cX0_size 1 (some .int)]
def wsX5_pending : List Cond := .code yX5_pending cX5_pending 5 (some .long) :: ((wsX5_pending_r1 ++ (wsX5_pending_r2 ++ (wsX5_pending_r3 ++ (wsX5_pending_r4 ++ wsX5_pending_r5)))) ++ wsX50 ++ wsX00 ++ wsX10 ++ wsX40 ++ wsJx4a65c0 ++ wsX30 ++ (vx_atS RX5 198 "java/lang/IndexOutOfBoundsException" ["java/lang/RuntimeException", "java/lang/Exception"]).filter goodWord)
def wsX5_purses : List Cond := .code yX5_purses cX5_purses 1 (some .int) :: ([.fieldLink RX5 21 "PurseWorld" "owners" "Ljava/util/ArrayList;", .methodLink RX5 43 yJx4a65c_size_8abf5, .instanceMethod yJx4a65c_size_8abf5, .selects RJx4a65c yJx4a65c_size_8abf5 yJx4a65c_size_8abf5, .initialized RJx4a65c, .code yJx4a65c_size_8abf5 cJx4a65c_size_8abf5 1 (some .int), .fieldLink RJx4a65c 48 "java/util/ArrayList" "size" "I"] ++ wsX50 ++ wsJx4a65c0)
def wsX6_init : List Cond := .code yX6_init cX6_init 1 none :: ([.methodLink RX6 1 objectInit, .instanceMethod objectInit, .code objectInit ⟨#[0xb1]⟩ 1 none, .arrayClass .int, .fieldLink RX6 7 "PurseWorldModel" "balances" "[I", .fieldLink RX6 13 "PurseWorldModel" "serials" "[I", .fieldLink RX6 16 "PurseWorldModel" "states" "[I", .fieldLink RX6 19 "PurseWorldModel" "logSize" "[I", .fieldLink RX6 22 "PurseWorldModel" "kinds" "[I", .fieldLink RX6 25 "PurseWorldModel" "targets" "[I", .fieldLink RX6 28 "PurseWorldModel" "of" "[I", .fieldLink RX6 31 "PurseWorldModel" "tellers" "[I", .arrayClass .boolean, .fieldLink RX6 34 "PurseWorldModel" "refunded" "[Z", .fieldLink RX6 38 "PurseWorldModel" "transfers" "[I"] ++ wsX60)
def wsX6_thrown : List Cond := .code yX6_thrown cX6_thrown 1 (some .int) :: ([.fieldLink RX6 41 "PurseWorldModel" "code" "I"] ++ wsX60)
def wsX6_in : List Cond := .code yX6_in cX6_in 3 (some .boolean) :: ([])
def wsX6_isPurse : List Cond := .code yX6_isPurse cX6_isPurse 2 (some .boolean) :: ([.fieldLink RX6 45 "PurseWorldModel" "purses" "I", .methodLink RX6 48 yX6_in, .static yX6_in, .initialized RX6, .code yX6_in cX6_in 3 (some .boolean)] ++ wsX60)
def wsX6_part : List Cond := .code yX6_part cX6_part 3 (some .int) :: ([.fieldLink RX6 38 "PurseWorldModel" "transfers" "[I"] ++ wsX60)
def wsX6_copy : List Cond := .code yX6_copy cX6_copy 4 none :: ([.fieldLink RX6 38 "PurseWorldModel" "transfers" "[I"] ++ wsX60)
def wsX6_lay : List Cond := .code yX6_lay cX6_lay 7 none :: ([.fieldLink RX6 38 "PurseWorldModel" "transfers" "[I"] ++ wsX60)
def wsX6_same : List Cond := .code yX6_same cX6_same 5 (some .boolean) :: ([.fieldLink RX6 38 "PurseWorldModel" "transfers" "[I"] ++ wsX60)
def wsX6_isInLog : List Cond := .code yX6_isInLog cX6_isInLog 5 (some .boolean) :: ([.fieldLink RX6 19 "PurseWorldModel" "logSize" "[I", .methodLink RX6 52 yX6_same, .instanceMethod yX6_same, .selects RX6 yX6_same yX6_same, .initialized RX6, .code yX6_same cX6_same 5 (some .boolean), .fieldLink RX6 38 "PurseWorldModel" "transfers" "[I"] ++ wsX60)
def wsX6_isKept : List Cond := .code yX6_isKept cX6_isKept 6 (some .boolean) :: ([.fieldLink RX6 31 "PurseWorldModel" "tellers" "[I", .methodLink RX6 52 yX6_same, .instanceMethod yX6_same, .selects RX6 yX6_same yX6_same, .initialized RX6, .code yX6_same cX6_same 5 (some .boolean), .fieldLink RX6 38 "PurseWorldModel" "transfers" "[I"] ++ wsX60)
def wsX6_isRefunded : List Cond := .code yX6_isRefunded cX6_isRefunded 4 (some .boolean) :: ([.fieldLink RX6 56 "PurseWorldModel" "entries" "I", .fieldLink RX6 34 "PurseWorldModel" "refunded" "[Z", .methodLink RX6 52 yX6_same, .instanceMethod yX6_same, .selects RX6 yX6_same yX6_same, .initialized RX6, .code yX6_same cX6_same 5 (some .boolean), .fieldLink RX6 38 "PurseWorldModel" "transfers" "[I"] ++ wsX60)
def wsX6_send : List Cond := .code yX6_send cX6_send 4 none :: ([.fieldLink RX6 22 "PurseWorldModel" "kinds" "[I", .fieldLink RX6 59 "PurseWorldModel" "messages" "I", .fieldLink RX6 25 "PurseWorldModel" "targets" "[I", .methodLink RX6 62 yX6_copy, .instanceMethod yX6_copy, .selects RX6 yX6_copy yX6_copy, .initialized RX6, .code yX6_copy cX6_copy 4 none, .fieldLink RX6 38 "PurseWorldModel" "transfers" "[I"] ++ wsX60)
def wsX6_endIt : List Cond := .code yX6_endIt cX6_endIt 2 none :: ([.fieldLink RX6 16 "PurseWorldModel" "states" "[I", .fieldLink RX6 19 "PurseWorldModel" "logSize" "[I", .fieldLink RX6 13 "PurseWorldModel" "serials" "[I", .methodLink RX6 62 yX6_copy, .instanceMethod yX6_copy, .selects RX6 yX6_copy yX6_copy, .initialized RX6, .code yX6_copy cX6_copy 4 none, .fieldLink RX6 38 "PurseWorldModel" "transfers" "[I"] ++ wsX60)
def wsX6_waits : List Cond := .code yX6_waits cX6_waits 4 (some .boolean) :: ([.fieldLink RX6 16 "PurseWorldModel" "states" "[I", .methodLink RX6 52 yX6_same, .instanceMethod yX6_same, .selects RX6 yX6_same yX6_same, .initialized RX6, .code yX6_same cX6_same 5 (some .boolean), .fieldLink RX6 38 "PurseWorldModel" "transfers" "[I"] ++ wsX60)
def wsX6_takesBegin_r1 : List Cond := [Cond.fieldLink RX6 19 "PurseWorldModel" "logSize" "[I", Cond.fieldLink RX6 7 "PurseWorldModel" "balances" "[I", Cond.fieldLink RX6 38 "PurseWorldModel" "transfers" "[I", Cond.fieldLink RX6 13 "PurseWorldModel" "serials" "[I", Cond.fieldLink RX6 16 "PurseWorldModel" "states" "[I", Cond.methodLink RX6 66 yX6_endIt, Cond.instanceMethod yX6_endIt, Cond.selects RX6 yX6_endIt yX6_endIt, Cond.initialized RX6, Cond.code yX6_endIt cX6_endIt 2 none, Cond.methodLink RX6 62 yX6_copy, Cond.instanceMethod yX6_copy, Cond.selects RX6 yX6_copy yX6_copy, Cond.code yX6_copy cX6_copy 4 none, Cond.methodLink RX6 70 yX6_part, Cond.instanceMethod yX6_part, Cond.selects RX6 yX6_part yX6_part, Cond.code yX6_part cX6_part 3 (some .int), Cond.methodLink RX6 74 yX6_send, Cond.instanceMethod yX6_send, Cond.selects RX6 yX6_send yX6_send, Cond.code yX6_send cX6_send 4 none, Cond.fieldLink RX6 22 "PurseWorldModel" "kinds" "[I", Cond.fieldLink RX6 59 "PurseWorldModel" "messages" "I"]
def wsX6_takesBegin_r2 : List Cond := [Cond.fieldLink RX6 25 "PurseWorldModel" "targets" "[I"]
def wsX6_takesBegin : List Cond := .code yX6_takesBegin cX6_takesBegin 4 (some .boolean) :: ((wsX6_takesBegin_r1 ++ wsX6_takesBegin_r2) ++ wsX60)
def wsX6_takesOther_r1 : List Cond := [Cond.fieldLink RX6 7 "PurseWorldModel" "balances" "[I", Cond.fieldLink RX6 16 "PurseWorldModel" "states" "[I", Cond.methodLink RX6 78 yX6_waits, Cond.instanceMethod yX6_waits, Cond.selects RX6 yX6_waits yX6_waits, Cond.initialized RX6, Cond.code yX6_waits cX6_waits 4 (some .boolean), Cond.methodLink RX6 52 yX6_same, Cond.instanceMethod yX6_same, Cond.selects RX6 yX6_same yX6_same, Cond.code yX6_same cX6_same 5 (some .boolean), Cond.fieldLink RX6 38 "PurseWorldModel" "transfers" "[I", Cond.methodLink RX6 70 yX6_part, Cond.instanceMethod yX6_part, Cond.selects RX6 yX6_part yX6_part, Cond.code yX6_part cX6_part 3 (some .int), Cond.methodLink RX6 74 yX6_send, Cond.instanceMethod yX6_send, Cond.selects RX6 yX6_send yX6_send, Cond.code yX6_send cX6_send 4 none, Cond.fieldLink RX6 22 "PurseWorldModel" "kinds" "[I", Cond.fieldLink RX6 59 "PurseWorldModel" "messages" "I", Cond.fieldLink RX6 25 "PurseWorldModel" "targets" "[I", Cond.methodLink RX6 62 yX6_copy]
def wsX6_takesOther_r2 : List Cond := [Cond.instanceMethod yX6_copy, Cond.selects RX6 yX6_copy yX6_copy, Cond.code yX6_copy cX6_copy 4 none]
def wsX6_takesOther : List Cond := .code yX6_takesOther cX6_takesOther 5 (some .boolean) :: ((wsX6_takesOther_r1 ++ wsX6_takesOther_r2) ++ wsX60)
def wsX6_takesRecord : List Cond := .code yX6_takesRecord cX6_takesRecord 2 (some .boolean) :: ([.fieldLink RX6 28 "PurseWorldModel" "of" "[I", .fieldLink RX6 56 "PurseWorldModel" "entries" "I", .fieldLink RX6 31 "PurseWorldModel" "tellers" "[I", .fieldLink RX6 34 "PurseWorldModel" "refunded" "[Z", .methodLink RX6 81 yX6_isKept, .instanceMethod yX6_isKept, .selects RX6 yX6_isKept yX6_isKept, .initialized RX6, .code yX6_isKept cX6_isKept 6 (some .boolean), .methodLink RX6 52 yX6_same, .instanceMethod yX6_same, .selects RX6 yX6_same yX6_same, .code yX6_same cX6_same 5 (some .boolean), .fieldLink RX6 38 "PurseWorldModel" "transfers" "[I", .methodLink RX6 62 yX6_copy, .instanceMethod yX6_copy, .selects RX6 yX6_copy yX6_copy, .code yX6_copy cX6_copy 4 none] ++ wsX60)
def wsX6_takesClearing : List Cond := .code yX6_takesClearing cX6_takesClearing 5 (some .boolean) :: ([.fieldLink RX6 16 "PurseWorldModel" "states" "[I", .fieldLink RX6 19 "PurseWorldModel" "logSize" "[I", .methodLink RX6 81 yX6_isKept, .instanceMethod yX6_isKept, .selects RX6 yX6_isKept yX6_isKept, .initialized RX6, .code yX6_isKept cX6_isKept 6 (some .boolean), .fieldLink RX6 31 "PurseWorldModel" "tellers" "[I", .methodLink RX6 52 yX6_same, .instanceMethod yX6_same, .selects RX6 yX6_same yX6_same, .code yX6_same cX6_same 5 (some .boolean), .fieldLink RX6 38 "PurseWorldModel" "transfers" "[I"] ++ wsX60)
def wsX6_purse : List Cond := .code yX6_purse cX6_purse 2 (some .int) :: ([.constant RX6 84 (1000000000), .fieldLink RX6 45 "PurseWorldModel" "purses" "I", .fieldLink RX6 41 "PurseWorldModel" "code" "I", .fieldLink RX6 7 "PurseWorldModel" "balances" "[I", .fieldLink RX6 13 "PurseWorldModel" "serials" "[I", .methodLink RX6 48 yX6_in, .static yX6_in, .initialized RX6, .code yX6_in cX6_in 3 (some .boolean)] ++ wsX60)
def wsX6_begin_r1 : List Cond := [Cond.constant RX6 89 (1000000), Cond.fieldLink RX6 59 "PurseWorldModel" "messages" "I", Cond.fieldLink RX6 41 "PurseWorldModel" "code" "I", Cond.fieldLink RX6 13 "PurseWorldModel" "serials" "[I", Cond.methodLink RX6 85 yX6_isPurse, Cond.instanceMethod yX6_isPurse, Cond.selects RX6 yX6_isPurse yX6_isPurse, Cond.initialized RX6, Cond.code yX6_isPurse cX6_isPurse 2 (some .boolean), Cond.fieldLink RX6 45 "PurseWorldModel" "purses" "I", Cond.methodLink RX6 48 yX6_in, Cond.static yX6_in, Cond.code yX6_in cX6_in 3 (some .boolean), Cond.methodLink RX6 90 yX6_lay, Cond.instanceMethod yX6_lay, Cond.selects RX6 yX6_lay yX6_lay, Cond.code yX6_lay cX6_lay 7 none, Cond.fieldLink RX6 38 "PurseWorldModel" "transfers" "[I", Cond.methodLink RX6 74 yX6_send, Cond.instanceMethod yX6_send, Cond.selects RX6 yX6_send yX6_send, Cond.code yX6_send cX6_send 4 none, Cond.fieldLink RX6 22 "PurseWorldModel" "kinds" "[I", Cond.fieldLink RX6 25 "PurseWorldModel" "targets" "[I"]
def wsX6_begin_r2 : List Cond := [Cond.methodLink RX6 62 yX6_copy, Cond.instanceMethod yX6_copy, Cond.selects RX6 yX6_copy yX6_copy, Cond.code yX6_copy cX6_copy 4 none]
def wsX6_begin : List Cond := .code yX6_begin cX6_begin 4 (some .int) :: ((wsX6_begin_r1 ++ wsX6_begin_r2) ++ wsX60)
def wsX6_deliver_r1 : List Cond := [Cond.fieldLink RX6 59 "PurseWorldModel" "messages" "I", Cond.fieldLink RX6 41 "PurseWorldModel" "code" "I", Cond.fieldLink RX6 22 "PurseWorldModel" "kinds" "[I", Cond.fieldLink RX6 25 "PurseWorldModel" "targets" "[I", Cond.fieldLink RX6 28 "PurseWorldModel" "of" "[I", Cond.methodLink RX6 48 yX6_in, Cond.static yX6_in, Cond.initialized RX6, Cond.code yX6_in cX6_in 3 (some .boolean), Cond.methodLink RX6 78 yX6_waits, Cond.instanceMethod yX6_waits, Cond.selects RX6 yX6_waits yX6_waits, Cond.code yX6_waits cX6_waits 4 (some .boolean), Cond.fieldLink RX6 16 "PurseWorldModel" "states" "[I", Cond.methodLink RX6 52 yX6_same, Cond.instanceMethod yX6_same, Cond.selects RX6 yX6_same yX6_same, Cond.code yX6_same cX6_same 5 (some .boolean), Cond.fieldLink RX6 38 "PurseWorldModel" "transfers" "[I", Cond.methodLink RX6 94 yX6_takesBegin, Cond.instanceMethod yX6_takesBegin, Cond.selects RX6 yX6_takesBegin yX6_takesBegin, Cond.code yX6_takesBegin cX6_takesBegin 4 (some .boolean), Cond.fieldLink RX6 19 "PurseWorldModel" "logSize" "[I"]
def wsX6_deliver_r2 : List Cond := [Cond.fieldLink RX6 7 "PurseWorldModel" "balances" "[I", Cond.fieldLink RX6 13 "PurseWorldModel" "serials" "[I", Cond.methodLink RX6 66 yX6_endIt, Cond.instanceMethod yX6_endIt, Cond.selects RX6 yX6_endIt yX6_endIt, Cond.code yX6_endIt cX6_endIt 2 none, Cond.methodLink RX6 62 yX6_copy, Cond.instanceMethod yX6_copy, Cond.selects RX6 yX6_copy yX6_copy, Cond.code yX6_copy cX6_copy 4 none, Cond.methodLink RX6 70 yX6_part, Cond.instanceMethod yX6_part, Cond.selects RX6 yX6_part yX6_part, Cond.code yX6_part cX6_part 3 (some .int), Cond.methodLink RX6 74 yX6_send, Cond.instanceMethod yX6_send, Cond.selects RX6 yX6_send yX6_send, Cond.code yX6_send cX6_send 4 none, Cond.methodLink RX6 98 yX6_takesOther, Cond.instanceMethod yX6_takesOther, Cond.selects RX6 yX6_takesOther yX6_takesOther, Cond.code yX6_takesOther cX6_takesOther 5 (some .boolean), Cond.methodLink RX6 101 yX6_takesRecord, Cond.instanceMethod yX6_takesRecord]
def wsX6_deliver_r3 : List Cond := [Cond.selects RX6 yX6_takesRecord yX6_takesRecord, Cond.code yX6_takesRecord cX6_takesRecord 2 (some .boolean), Cond.fieldLink RX6 56 "PurseWorldModel" "entries" "I", Cond.fieldLink RX6 31 "PurseWorldModel" "tellers" "[I", Cond.fieldLink RX6 34 "PurseWorldModel" "refunded" "[Z", Cond.methodLink RX6 81 yX6_isKept, Cond.instanceMethod yX6_isKept, Cond.selects RX6 yX6_isKept yX6_isKept, Cond.code yX6_isKept cX6_isKept 6 (some .boolean), Cond.methodLink RX6 104 yX6_takesClearing, Cond.instanceMethod yX6_takesClearing, Cond.selects RX6 yX6_takesClearing yX6_takesClearing, Cond.code yX6_takesClearing cX6_takesClearing 5 (some .boolean)]
def wsX6_deliver : List Cond := .code yX6_deliver cX6_deliver 6 (some .boolean) :: ((wsX6_deliver_r1 ++ (wsX6_deliver_r2 ++ wsX6_deliver_r3)) ++ wsX60)
def wsX6_abort : List Cond := .code yX6_abort cX6_abort 3 (some .int) :: ([.fieldLink RX6 41 "PurseWorldModel" "code" "I", .fieldLink RX6 16 "PurseWorldModel" "states" "[I", .methodLink RX6 85 yX6_isPurse, .instanceMethod yX6_isPurse, .selects RX6 yX6_isPurse yX6_isPurse, .initialized RX6, .code yX6_isPurse cX6_isPurse 2 (some .boolean), .fieldLink RX6 45 "PurseWorldModel" "purses" "I", .methodLink RX6 48 yX6_in, .static yX6_in, .code yX6_in cX6_in 3 (some .boolean), .methodLink RX6 66 yX6_endIt, .instanceMethod yX6_endIt, .selects RX6 yX6_endIt yX6_endIt, .code yX6_endIt cX6_endIt 2 none, .fieldLink RX6 19 "PurseWorldModel" "logSize" "[I", .fieldLink RX6 13 "PurseWorldModel" "serials" "[I", .methodLink RX6 62 yX6_copy, .instanceMethod yX6_copy, .selects RX6 yX6_copy yX6_copy, .code yX6_copy cX6_copy 4 none, .fieldLink RX6 38 "PurseWorldModel" "transfers" "[I"] ++ wsX60)
def wsX6_readLog_r1 : List Cond := [Cond.fieldLink RX6 16 "PurseWorldModel" "states" "[I", Cond.fieldLink RX6 59 "PurseWorldModel" "messages" "I", Cond.fieldLink RX6 19 "PurseWorldModel" "logSize" "[I", Cond.fieldLink RX6 41 "PurseWorldModel" "code" "I", Cond.fieldLink RX6 28 "PurseWorldModel" "of" "[I", Cond.methodLink RX6 85 yX6_isPurse, Cond.instanceMethod yX6_isPurse, Cond.selects RX6 yX6_isPurse yX6_isPurse, Cond.initialized RX6, Cond.code yX6_isPurse cX6_isPurse 2 (some .boolean), Cond.fieldLink RX6 45 "PurseWorldModel" "purses" "I", Cond.methodLink RX6 48 yX6_in, Cond.static yX6_in, Cond.code yX6_in cX6_in 3 (some .boolean), Cond.methodLink RX6 74 yX6_send, Cond.instanceMethod yX6_send, Cond.selects RX6 yX6_send yX6_send, Cond.code yX6_send cX6_send 4 none, Cond.fieldLink RX6 22 "PurseWorldModel" "kinds" "[I", Cond.fieldLink RX6 25 "PurseWorldModel" "targets" "[I", Cond.methodLink RX6 62 yX6_copy, Cond.instanceMethod yX6_copy, Cond.selects RX6 yX6_copy yX6_copy, Cond.code yX6_copy cX6_copy 4 none]
def wsX6_readLog_r2 : List Cond := [Cond.fieldLink RX6 38 "PurseWorldModel" "transfers" "[I"]
def wsX6_readLog : List Cond := .code yX6_readLog cX6_readLog 3 (some .int) :: ((wsX6_readLog_r1 ++ wsX6_readLog_r2) ++ wsX60)
def wsX6_authorise_r1 : List Cond := [Cond.fieldLink RX6 41 "PurseWorldModel" "code" "I", Cond.fieldLink RX6 56 "PurseWorldModel" "entries" "I", Cond.fieldLink RX6 31 "PurseWorldModel" "tellers" "[I", Cond.fieldLink RX6 59 "PurseWorldModel" "messages" "I", Cond.fieldLink RX6 28 "PurseWorldModel" "of" "[I", Cond.methodLink RX6 85 yX6_isPurse, Cond.instanceMethod yX6_isPurse, Cond.selects RX6 yX6_isPurse yX6_isPurse, Cond.initialized RX6, Cond.code yX6_isPurse cX6_isPurse 2 (some .boolean), Cond.fieldLink RX6 45 "PurseWorldModel" "purses" "I", Cond.methodLink RX6 48 yX6_in, Cond.static yX6_in, Cond.code yX6_in cX6_in 3 (some .boolean), Cond.methodLink RX6 90 yX6_lay, Cond.instanceMethod yX6_lay, Cond.selects RX6 yX6_lay yX6_lay, Cond.code yX6_lay cX6_lay 7 none, Cond.fieldLink RX6 38 "PurseWorldModel" "transfers" "[I", Cond.methodLink RX6 74 yX6_send, Cond.instanceMethod yX6_send, Cond.selects RX6 yX6_send yX6_send, Cond.code yX6_send cX6_send 4 none, Cond.fieldLink RX6 22 "PurseWorldModel" "kinds" "[I"]
def wsX6_authorise_r2 : List Cond := [Cond.fieldLink RX6 25 "PurseWorldModel" "targets" "[I", Cond.methodLink RX6 62 yX6_copy, Cond.instanceMethod yX6_copy, Cond.selects RX6 yX6_copy yX6_copy, Cond.code yX6_copy cX6_copy 4 none]
def wsX6_authorise : List Cond := .code yX6_authorise cX6_authorise 4 (some .int) :: ((wsX6_authorise_r1 ++ wsX6_authorise_r2) ++ wsX60)
def wsX6_refund_r1 : List Cond := [Cond.fieldLink RX6 56 "PurseWorldModel" "entries" "I", Cond.fieldLink RX6 41 "PurseWorldModel" "code" "I", Cond.fieldLink RX6 34 "PurseWorldModel" "refunded" "[Z", Cond.fieldLink RX6 7 "PurseWorldModel" "balances" "[I", Cond.methodLink RX6 48 yX6_in, Cond.static yX6_in, Cond.initialized RX6, Cond.code yX6_in cX6_in 3 (some .boolean), Cond.methodLink RX6 70 yX6_part, Cond.instanceMethod yX6_part, Cond.selects RX6 yX6_part yX6_part, Cond.code yX6_part cX6_part 3 (some .int), Cond.fieldLink RX6 38 "PurseWorldModel" "transfers" "[I", Cond.methodLink RX6 81 yX6_isKept, Cond.instanceMethod yX6_isKept, Cond.selects RX6 yX6_isKept yX6_isKept, Cond.code yX6_isKept cX6_isKept 6 (some .boolean), Cond.fieldLink RX6 31 "PurseWorldModel" "tellers" "[I", Cond.methodLink RX6 52 yX6_same, Cond.instanceMethod yX6_same, Cond.selects RX6 yX6_same yX6_same, Cond.code yX6_same cX6_same 5 (some .boolean), Cond.methodLink RX6 107 yX6_isRefunded, Cond.instanceMethod yX6_isRefunded]
def wsX6_refund_r2 : List Cond := [Cond.selects RX6 yX6_isRefunded yX6_isRefunded, Cond.code yX6_isRefunded cX6_isRefunded 4 (some .boolean)]
def wsX6_refund : List Cond := .code yX6_refund cX6_refund 4 (some .int) :: ((wsX6_refund_r1 ++ wsX6_refund_r2) ++ wsX60)
def wsX6_told : List Cond := .code yX6_told cX6_told 3 (some .int) :: ([.fieldLink RX6 41 "PurseWorldModel" "code" "I", .fieldLink RX6 7 "PurseWorldModel" "balances" "[I", .fieldLink RX6 13 "PurseWorldModel" "serials" "[I", .fieldLink RX6 16 "PurseWorldModel" "states" "[I", .fieldLink RX6 19 "PurseWorldModel" "logSize" "[I", .methodLink RX6 85 yX6_isPurse, .instanceMethod yX6_isPurse, .selects RX6 yX6_isPurse yX6_isPurse, .initialized RX6, .code yX6_isPurse cX6_isPurse 2 (some .boolean), .fieldLink RX6 45 "PurseWorldModel" "purses" "I", .methodLink RX6 48 yX6_in, .static yX6_in, .code yX6_in cX6_in 3 (some .boolean)] ++ wsX60)
def wsX6_transfer : List Cond := .code yX6_transfer cX6_transfer 3 (some .int) :: ([.fieldLink RX6 41 "PurseWorldModel" "code" "I", .fieldLink RX6 16 "PurseWorldModel" "states" "[I", .methodLink RX6 85 yX6_isPurse, .instanceMethod yX6_isPurse, .selects RX6 yX6_isPurse yX6_isPurse, .initialized RX6, .code yX6_isPurse cX6_isPurse 2 (some .boolean), .fieldLink RX6 45 "PurseWorldModel" "purses" "I", .methodLink RX6 48 yX6_in, .static yX6_in, .code yX6_in cX6_in 3 (some .boolean), .methodLink RX6 70 yX6_part, .instanceMethod yX6_part, .selects RX6 yX6_part yX6_part, .code yX6_part cX6_part 3 (some .int), .fieldLink RX6 38 "PurseWorldModel" "transfers" "[I"] ++ wsX60)
def wsX6_log : List Cond := .code yX6_log cX6_log 4 (some .int) :: ([.fieldLink RX6 19 "PurseWorldModel" "logSize" "[I", .fieldLink RX6 41 "PurseWorldModel" "code" "I", .methodLink RX6 85 yX6_isPurse, .instanceMethod yX6_isPurse, .selects RX6 yX6_isPurse yX6_isPurse, .initialized RX6, .code yX6_isPurse cX6_isPurse 2 (some .boolean), .fieldLink RX6 45 "PurseWorldModel" "purses" "I", .methodLink RX6 48 yX6_in, .static yX6_in, .code yX6_in cX6_in 3 (some .boolean), .methodLink RX6 70 yX6_part, .instanceMethod yX6_part, .selects RX6 yX6_part yX6_part, .code yX6_part cX6_part 3 (some .int), .fieldLink RX6 38 "PurseWorldModel" "transfers" "[I"] ++ wsX60)
def wsX6_messages : List Cond := .code yX6_messages cX6_messages 1 (some .int) :: ([.fieldLink RX6 41 "PurseWorldModel" "code" "I", .fieldLink RX6 59 "PurseWorldModel" "messages" "I"] ++ wsX60)
def wsX6_message : List Cond := .code yX6_message cX6_message 3 (some .int) :: ([.fieldLink RX6 59 "PurseWorldModel" "messages" "I", .fieldLink RX6 41 "PurseWorldModel" "code" "I", .fieldLink RX6 22 "PurseWorldModel" "kinds" "[I", .fieldLink RX6 25 "PurseWorldModel" "targets" "[I", .methodLink RX6 48 yX6_in, .static yX6_in, .initialized RX6, .code yX6_in cX6_in 3 (some .boolean), .methodLink RX6 70 yX6_part, .instanceMethod yX6_part, .selects RX6 yX6_part yX6_part, .code yX6_part cX6_part 3 (some .int), .fieldLink RX6 38 "PurseWorldModel" "transfers" "[I"] ++ wsX60)
def wsX6_entries : List Cond := .code yX6_entries cX6_entries 1 (some .int) :: ([.fieldLink RX6 41 "PurseWorldModel" "code" "I", .fieldLink RX6 56 "PurseWorldModel" "entries" "I"] ++ wsX60)
def wsX6_entry : List Cond := .code yX6_entry cX6_entry 3 (some .int) :: ([.fieldLink RX6 56 "PurseWorldModel" "entries" "I", .fieldLink RX6 41 "PurseWorldModel" "code" "I", .fieldLink RX6 31 "PurseWorldModel" "tellers" "[I", .methodLink RX6 48 yX6_in, .static yX6_in, .initialized RX6, .code yX6_in cX6_in 3 (some .boolean), .methodLink RX6 70 yX6_part, .instanceMethod yX6_part, .selects RX6 yX6_part yX6_part, .code yX6_part cX6_part 3 (some .int), .fieldLink RX6 38 "PurseWorldModel" "transfers" "[I", .methodLink RX6 107 yX6_isRefunded, .instanceMethod yX6_isRefunded, .selects RX6 yX6_isRefunded yX6_isRefunded, .code yX6_isRefunded cX6_isRefunded 4 (some .boolean), .fieldLink RX6 34 "PurseWorldModel" "refunded" "[Z", .methodLink RX6 52 yX6_same, .instanceMethod yX6_same, .selects RX6 yX6_same yX6_same, .code yX6_same cX6_same 5 (some .boolean)] ++ wsX60)
def wsX6_balances : List Cond := .code yX6_balances cX6_balances 4 (some .long) :: ([.fieldLink RX6 41 "PurseWorldModel" "code" "I", .fieldLink RX6 45 "PurseWorldModel" "purses" "I", .fieldLink RX6 7 "PurseWorldModel" "balances" "[I"] ++ wsX60)
def wsX6_holds : List Cond := .code yX6_holds cX6_holds 3 (some .boolean) :: ([.fieldLink RX6 16 "PurseWorldModel" "states" "[I", .fieldLink RX6 56 "PurseWorldModel" "entries" "I", .methodLink RX6 52 yX6_same, .instanceMethod yX6_same, .selects RX6 yX6_same yX6_same, .initialized RX6, .code yX6_same cX6_same 5 (some .boolean), .fieldLink RX6 38 "PurseWorldModel" "transfers" "[I", .methodLink RX6 110 yX6_isInLog, .instanceMethod yX6_isInLog, .selects RX6 yX6_isInLog yX6_isInLog, .code yX6_isInLog cX6_isInLog 5 (some .boolean), .fieldLink RX6 19 "PurseWorldModel" "logSize" "[I", .methodLink RX6 81 yX6_isKept, .instanceMethod yX6_isKept, .selects RX6 yX6_isKept yX6_isKept, .code yX6_isKept cX6_isKept 6 (some .boolean), .fieldLink RX6 31 "PurseWorldModel" "tellers" "[I"] ++ wsX60)
def wsX6_amountOf_r1 : List Cond := [Cond.methodLink RX6 70 yX6_part, Cond.instanceMethod yX6_part, Cond.selects RX6 yX6_part yX6_part, Cond.initialized RX6, Cond.code yX6_part cX6_part 3 (some .int), Cond.fieldLink RX6 38 "PurseWorldModel" "transfers" "[I", Cond.methodLink RX6 107 yX6_isRefunded, Cond.instanceMethod yX6_isRefunded, Cond.selects RX6 yX6_isRefunded yX6_isRefunded, Cond.code yX6_isRefunded cX6_isRefunded 4 (some .boolean), Cond.fieldLink RX6 56 "PurseWorldModel" "entries" "I", Cond.fieldLink RX6 34 "PurseWorldModel" "refunded" "[Z", Cond.methodLink RX6 52 yX6_same, Cond.instanceMethod yX6_same, Cond.selects RX6 yX6_same yX6_same, Cond.code yX6_same cX6_same 5 (some .boolean), Cond.methodLink RX6 113 yX6_holds, Cond.instanceMethod yX6_holds, Cond.selects RX6 yX6_holds yX6_holds, Cond.code yX6_holds cX6_holds 3 (some .boolean), Cond.fieldLink RX6 16 "PurseWorldModel" "states" "[I", Cond.methodLink RX6 110 yX6_isInLog, Cond.instanceMethod yX6_isInLog, Cond.selects RX6 yX6_isInLog yX6_isInLog]
def wsX6_amountOf_r2 : List Cond := [Cond.code yX6_isInLog cX6_isInLog 5 (some .boolean), Cond.fieldLink RX6 19 "PurseWorldModel" "logSize" "[I", Cond.methodLink RX6 81 yX6_isKept, Cond.instanceMethod yX6_isKept, Cond.selects RX6 yX6_isKept yX6_isKept, Cond.code yX6_isKept cX6_isKept 6 (some .boolean), Cond.fieldLink RX6 31 "PurseWorldModel" "tellers" "[I"]
def wsX6_amountOf : List Cond := .code yX6_amountOf cX6_amountOf 4 (some .long) :: ((wsX6_amountOf_r1 ++ wsX6_amountOf_r2) ++ wsX60)
def wsX6_pending_r1 : List Cond := [Cond.fieldLink RX6 41 "PurseWorldModel" "code" "I", Cond.fieldLink RX6 45 "PurseWorldModel" "purses" "I", Cond.fieldLink RX6 16 "PurseWorldModel" "states" "[I", Cond.fieldLink RX6 19 "PurseWorldModel" "logSize" "[I", Cond.fieldLink RX6 56 "PurseWorldModel" "entries" "I", Cond.fieldLink RX6 31 "PurseWorldModel" "tellers" "[I", Cond.methodLink RX6 116 yX6_amountOf, Cond.instanceMethod yX6_amountOf, Cond.selects RX6 yX6_amountOf yX6_amountOf, Cond.initialized RX6, Cond.code yX6_amountOf cX6_amountOf 4 (some .long), Cond.methodLink RX6 70 yX6_part, Cond.instanceMethod yX6_part, Cond.selects RX6 yX6_part yX6_part, Cond.code yX6_part cX6_part 3 (some .int), Cond.fieldLink RX6 38 "PurseWorldModel" "transfers" "[I", Cond.methodLink RX6 107 yX6_isRefunded, Cond.instanceMethod yX6_isRefunded, Cond.selects RX6 yX6_isRefunded yX6_isRefunded, Cond.code yX6_isRefunded cX6_isRefunded 4 (some .boolean), Cond.fieldLink RX6 34 "PurseWorldModel" "refunded" "[Z", Cond.methodLink RX6 52 yX6_same, Cond.instanceMethod yX6_same, Cond.selects RX6 yX6_same yX6_same]
def wsX6_pending_r2 : List Cond := [Cond.code yX6_same cX6_same 5 (some .boolean), Cond.methodLink RX6 113 yX6_holds, Cond.instanceMethod yX6_holds, Cond.selects RX6 yX6_holds yX6_holds, Cond.code yX6_holds cX6_holds 3 (some .boolean), Cond.methodLink RX6 110 yX6_isInLog, Cond.instanceMethod yX6_isInLog, Cond.selects RX6 yX6_isInLog yX6_isInLog, Cond.code yX6_isInLog cX6_isInLog 5 (some .boolean), Cond.methodLink RX6 81 yX6_isKept, Cond.instanceMethod yX6_isKept, Cond.selects RX6 yX6_isKept yX6_isKept, Cond.code yX6_isKept cX6_isKept 6 (some .boolean)]
def wsX6_pending : List Cond := .code yX6_pending cX6_pending 5 (some .long) :: ((wsX6_pending_r1 ++ wsX6_pending_r2) ++ wsX60)
def wsX6_purses : List Cond := .code yX6_purses cX6_purses 1 (some .int) :: ([.fieldLink RX6 41 "PurseWorldModel" "code" "I", .fieldLink RX6 45 "PurseWorldModel" "purses" "I"] ++ wsX60)
def wsJ9_max_7cf53 : List Cond := .code yJ9_max_7cf53 cJ9_max_7cf53 2 (some .int) :: ([])
def wsJ9_min_7cf53 : List Cond := .code yJ9_min_7cf53 cJ9_min_7cf53 2 (some .int) :: ([])
def wsL_purse_r1 : List Cond := [Cond.classLink RL 13 "java/lang/IllegalArgumentException", Cond.classLink RL 15 "java/lang/UnsupportedOperationException", Cond.methodLink RL 7 yX5_purse, Cond.instanceMethod yX5_purse, Cond.selects RX5 yX5_purse yX5_purse, Cond.initialized RX5, Cond.code yX5_purse cX5_purse 3 (some .int), Cond.classLink RX5 36 "java/lang/IllegalArgumentException", Cond.initialized "java/lang/IllegalArgumentException", Cond.classLink RX5 47 "java/lang/UnsupportedOperationException", Cond.initialized "java/lang/UnsupportedOperationException", Cond.constant RX5 35 (1000000000), Cond.fieldLink RX5 21 "PurseWorld" "owners" "Ljava/util/ArrayList;", Cond.classLink RX5 52 RX3, Cond.instantiable RX3 7, Cond.initialized RX3, Cond.fieldLink RX5 14 "PurseWorld" "nothing" "LPurseWorld$Transfer;", Cond.methodLink RX5 43 yJx4a65c_size_8abf5, Cond.instanceMethod yJx4a65c_size_8abf5, Cond.selects RJx4a65c yJx4a65c_size_8abf5 yJx4a65c_size_8abf5, Cond.initialized RJx4a65c, Cond.code yJx4a65c_size_8abf5 cJx4a65c_size_8abf5 1 (some .int), Cond.fieldLink RJx4a65c 48 "java/util/ArrayList" "size" "I", Cond.methodLink RX5 54 yX3_init]
def wsL_purse_r2 : List Cond := [Cond.instanceMethod yX3_init, Cond.code yX3_init cX3_init 4 none, Cond.methodLink RX3 3 objectInit, Cond.instanceMethod objectInit, Cond.code objectInit ⟨#[0xb1]⟩ 1 none, Cond.fieldLink RX3 9 "PurseWorld$Purse" "number" "I", Cond.fieldLink RX3 15 "PurseWorld$Purse" "balance" "I", Cond.fieldLink RX3 18 "PurseWorld$Purse" "nothing" "LPurseWorld$Transfer;", Cond.classLink RX3 22 RJx4a65c, Cond.instantiable RJx4a65c 3, Cond.fieldLink RX3 25 "PurseWorld$Purse" "kept" "Ljava/util/ArrayList;", Cond.fieldLink RX3 29 "PurseWorld$Purse" "serial" "I", Cond.fieldLink RX3 32 "PurseWorld$Purse" "state" "I", Cond.fieldLink RX3 35 "PurseWorld$Purse" "current" "LPurseWorld$Transfer;", Cond.methodLink RX3 24 yJx4a65c_init_da8c8, Cond.instanceMethod yJx4a65c_init_da8c8, Cond.code yJx4a65c_init_da8c8 cJx4a65c_init_da8c8 1 none, Cond.fieldLink RJx4a65c 39 "java/util/ArrayList" "DEFAULTCAPACITY_EMPTY_ELEMENTDATA" "[Ljava/lang/Object;", Cond.fieldLink RJx4a65c 9 "java/util/ArrayList" "elementData" "[Ljava/lang/Object;", Cond.methodLink RJx4a65c 1 yJxc12de_init_da8c8, Cond.instanceMethod yJxc12de_init_da8c8, Cond.initialized RJxc12de, Cond.code yJxc12de_init_da8c8 cJxc12de_init_da8c8 1 none, Cond.fieldLink RJxc12de 7 "java/util/AbstractList" "modCount" "I"]
def wsL_purse_r3 : List Cond := [Cond.methodLink RJxc12de 1 yJxa1e45_init_da8c8, Cond.instanceMethod yJxa1e45_init_da8c8, Cond.initialized RJxa1e45, Cond.code yJxa1e45_init_da8c8 cJxa1e45_init_da8c8 1 none, Cond.methodLink RJxa1e45 1 objectInit, Cond.methodLink RX5 57 yJx4a65c_add_9ea2d, Cond.instanceMethod yJx4a65c_add_9ea2d, Cond.selects RJx4a65c yJx4a65c_add_9ea2d yJx4a65c_add_9ea2d, Cond.code yJx4a65c_add_9ea2d cJx4a65c_add_9ea2d 2 (some .boolean), Cond.fieldLink RJx4a65c 63 "java/util/ArrayList" "modCount" "I", Cond.sameField "java/util/ArrayList" "java/util/AbstractList" "modCount" "I", Cond.methodLink RJx4a65c 131 yJx4a65c_add_72be8, Cond.instanceMethod yJx4a65c_add_72be8, Cond.selects RJx4a65c yJx4a65c_add_72be8 yJx4a65c_add_72be8, Cond.code yJx4a65c_add_72be8 cJx4a65c_add_72be8 4 none, Cond.methodLink RJx4a65c 129 yJx4a65c_grow_d5877, Cond.instanceMethod yJx4a65c_grow_d5877, Cond.selects RJx4a65c yJx4a65c_grow_d5877 yJx4a65c_grow_d5877, Cond.code yJx4a65c_grow_d5877 cJx4a65c_grow_d5877 1 (some (.array (.object "java/lang/Object"))), Cond.methodLink RJx4a65c 69 yJx4a65c_grow_92f84, Cond.instanceMethod yJx4a65c_grow_92f84, Cond.selects RJx4a65c yJx4a65c_grow_92f84 yJx4a65c_grow_92f84, Cond.code yJx4a65c_grow_92f84 cJx4a65c_grow_92f84 4 (some (.array (.object "java/lang/Object"))), Cond.methodLink RJx4a65c 79 Lib.Math.max.name]
def wsL_purse_r4 : List Cond := [Cond.static Lib.Math.max.name, Cond.initialized "java/lang/Math", Cond.code Lib.Math.max.name Lib.Math.max.code 2 (some .int), Cond.classLink RJx4a65c 7 "java/lang/Object", Cond.methodLink RJx4a65c 73 yJ8_newLength_cabcc, Cond.static yJ8_newLength_cabcc, Cond.initialized RJ8, Cond.code yJ8_newLength_cabcc cJ8_newLength_cabcc 4 (some .int), Cond.methodLink RJ8 194 Lib.Math.max.name, Cond.constant RJ8 200 (2147483639), Cond.methodLink RJ8 201 yJ8_hugeLength_7cf53, Cond.static yJ8_hugeLength_7cf53, Cond.code yJ8_hugeLength_7cf53 cJ8_hugeLength_7cf53 3 (some .int), Cond.methodLink RJx4a65c 66 yJ7_copyOf_1904c, Cond.static yJ7_copyOf_1904c, Cond.initialized RJ7, Cond.code yJ7_copyOf_1904c cJ7_copyOf_1904c 2 (some (.array (.object "java/lang/Object"))), Cond.methodLink RJ7 86 ⟨"java/lang/Object", "getClass", "()Ljava/lang/Class;"⟩, Cond.selects "[Ljava/lang/Object;" ⟨"java/lang/Object", "getClass", "()Ljava/lang/Class;"⟩ ⟨"java/lang/Object", "getClass", "()Ljava/lang/Class;"⟩, Cond.instanceMethod ⟨"java/lang/Object", "getClass", "()Ljava/lang/Class;"⟩, Cond.native ⟨"java/lang/Object", "getClass", "()Ljava/lang/Class;"⟩, Cond.methodLink RJ7 300 yJ7_copyOf_6403c, Cond.static yJ7_copyOf_6403c, Cond.code yJ7_copyOf_6403c cJ7_copyOf_6403c 4 (some (.array (.object "java/lang/Object")))]
def wsL_purse_r5 : List Cond := [Cond.classLink RJ7 110 "[Ljava/lang/Object;", Cond.classLink RJ7 2 "java/lang/Object", Cond.methodLink RJ7 304 Lib.Math.min.name, Cond.static Lib.Math.min.name, Cond.code Lib.Math.min.name Lib.Math.min.code 2 (some .int), Cond.methodLink RJ7 150 arraycopyName, Cond.native arraycopyName, Cond.static arraycopyName, Cond.initialized "java/lang/System"]
def wsL_purse : List Cond := .codeWith yL_purse cL_purse 4 (some .int) [(0, 9, 12, 13), (0, 9, 15, 15)] :: ((wsL_purse_r1 ++ (wsL_purse_r2 ++ (wsL_purse_r3 ++ (wsL_purse_r4 ++ wsL_purse_r5)))) ++ wsX50 ++ wsX30 ++ wsJx4a65c0 ++ (vx_atS RX5 40 "java/lang/IllegalArgumentException" ["java/lang/RuntimeException", "java/lang/Exception"]).filter goodWord ++ (vx_atS RX5 51 "java/lang/UnsupportedOperationException" ["java/lang/RuntimeException", "java/lang/Exception"]).filter goodWord)
def wsL_begin_r1 : List Cond := [Cond.classLink RL 21 "java/lang/IndexOutOfBoundsException", Cond.classLink RL 13 "java/lang/IllegalArgumentException", Cond.classLink RL 15 "java/lang/UnsupportedOperationException", Cond.methodLink RL 17 yX5_begin, Cond.instanceMethod yX5_begin, Cond.selects RX5 yX5_begin yX5_begin, Cond.initialized RX5, Cond.code yX5_begin cX5_begin 7 (some .int), Cond.classLink RX5 36 "java/lang/IllegalArgumentException", Cond.initialized "java/lang/IllegalArgumentException", Cond.constant RX5 67 (1000000), Cond.classLink RX5 7 RX4, Cond.instantiable RX4 5, Cond.initialized RX4, Cond.fieldLink RX5 74 "PurseWorld$Purse" "serial" "I", Cond.methodLink RX5 61 yX5_purseAt, Cond.instanceMethod yX5_purseAt, Cond.selects RX5 yX5_purseAt yX5_purseAt, Cond.code yX5_purseAt cX5_purseAt 2 (some (.object "PurseWorld$Purse")), Cond.classLink RX5 194 "java/lang/IndexOutOfBoundsException", Cond.initialized "java/lang/IndexOutOfBoundsException", Cond.fieldLink RX5 21 "PurseWorld" "owners" "Ljava/util/ArrayList;", Cond.classLink RX5 52 "PurseWorld$Purse", Cond.methodLink RX5 43 yJx4a65c_size_8abf5]
def wsL_begin_r2 : List Cond := [Cond.instanceMethod yJx4a65c_size_8abf5, Cond.selects RJx4a65c yJx4a65c_size_8abf5 yJx4a65c_size_8abf5, Cond.initialized RJx4a65c, Cond.code yJx4a65c_size_8abf5 cJx4a65c_size_8abf5 1 (some .int), Cond.fieldLink RJx4a65c 48 "java/util/ArrayList" "size" "I", Cond.methodLink RX5 137 yJx4a65c_get_915e3, Cond.instanceMethod yJx4a65c_get_915e3, Cond.selects RJx4a65c yJx4a65c_get_915e3 yJx4a65c_get_915e3, Cond.code yJx4a65c_get_915e3 cJx4a65c_get_915e3 2 (some (.object "java/lang/Object")), Cond.methodLink RJx4a65c 118 yJ15_checkIndex_7cf53, Cond.static yJ15_checkIndex_7cf53, Cond.initialized RJ15, Cond.code yJ15_checkIndex_7cf53 cJ15_checkIndex_7cf53 2 (some .int), Cond.methodLink RJ15 105 yJ3_checkIndex_8e157, Cond.static yJ3_checkIndex_8e157, Cond.initialized RJ3, Cond.code yJ3_checkIndex_8e157 cJ3_checkIndex_8e157 3 (some .int), Cond.methodLink RJx4a65c 123 yJx4a65c_elementData_915e3, Cond.instanceMethod yJx4a65c_elementData_915e3, Cond.selects RJx4a65c yJx4a65c_elementData_915e3 yJx4a65c_elementData_915e3, Cond.code yJx4a65c_elementData_915e3 cJx4a65c_elementData_915e3 2 (some (.object "java/lang/Object")), Cond.fieldLink RJx4a65c 9 "java/util/ArrayList" "elementData" "[Ljava/lang/Object;", Cond.methodLink RX5 70 yX5_needRoomFor, Cond.instanceMethod yX5_needRoomFor]
def wsL_begin_r3 : List Cond := [Cond.selects RX5 yX5_needRoomFor yX5_needRoomFor, Cond.code yX5_needRoomFor cX5_needRoomFor 2 none, Cond.classLink RX5 47 "java/lang/UnsupportedOperationException", Cond.initialized "java/lang/UnsupportedOperationException", Cond.fieldLink RX5 25 "PurseWorld" "sent" "Ljava/util/ArrayList;", Cond.methodLink RX5 11 yX4_init, Cond.instanceMethod yX4_init, Cond.code yX4_init cX4_init 6 none, Cond.methodLink RX4 1 objectInit, Cond.instanceMethod objectInit, Cond.code objectInit ⟨#[0xb1]⟩ 1 none, Cond.fieldLink RX4 7 "PurseWorld$Transfer" "payer" "I", Cond.fieldLink RX4 13 "PurseWorld$Transfer" "payerSerial" "I", Cond.fieldLink RX4 16 "PurseWorld$Transfer" "payee" "I", Cond.fieldLink RX4 19 "PurseWorld$Transfer" "payeeSerial" "I", Cond.fieldLink RX4 22 "PurseWorld$Transfer" "amount" "I", Cond.methodLink RX5 78 yX5_send, Cond.instanceMethod yX5_send, Cond.selects RX5 yX5_send yX5_send, Cond.code yX5_send cX5_send 5 (some .int), Cond.classLink RX5 91 RX2, Cond.instantiable RX2 5, Cond.initialized RX2, Cond.methodLink RX5 141 yX2_init]
def wsL_begin_r4 : List Cond := [Cond.instanceMethod yX2_init, Cond.code yX2_init cX2_init 6 none, Cond.methodLink RX2 1 objectInit, Cond.fieldLink RX2 7 "PurseWorld$Message" "kind" "I", Cond.fieldLink RX2 13 "PurseWorld$Message" "to" "I", Cond.fieldLink RX2 16 "PurseWorld$Message" "terms" "LPurseWorld$Transfer;", Cond.fieldLink RX2 20 "PurseWorld$Message" "teller" "I", Cond.fieldLink RX2 23 "PurseWorld$Message" "archived" "I", Cond.methodLink RX5 57 yJx4a65c_add_9ea2d, Cond.instanceMethod yJx4a65c_add_9ea2d, Cond.selects RJx4a65c yJx4a65c_add_9ea2d yJx4a65c_add_9ea2d, Cond.code yJx4a65c_add_9ea2d cJx4a65c_add_9ea2d 2 (some .boolean), Cond.fieldLink RJx4a65c 63 "java/util/ArrayList" "modCount" "I", Cond.sameField "java/util/ArrayList" "java/util/AbstractList" "modCount" "I", Cond.methodLink RJx4a65c 131 yJx4a65c_add_72be8, Cond.instanceMethod yJx4a65c_add_72be8, Cond.selects RJx4a65c yJx4a65c_add_72be8 yJx4a65c_add_72be8, Cond.code yJx4a65c_add_72be8 cJx4a65c_add_72be8 4 none, Cond.methodLink RJx4a65c 129 yJx4a65c_grow_d5877, Cond.instanceMethod yJx4a65c_grow_d5877, Cond.selects RJx4a65c yJx4a65c_grow_d5877 yJx4a65c_grow_d5877, Cond.code yJx4a65c_grow_d5877 cJx4a65c_grow_d5877 1 (some (.array (.object "java/lang/Object"))), Cond.methodLink RJx4a65c 69 yJx4a65c_grow_92f84, Cond.instanceMethod yJx4a65c_grow_92f84]
def wsL_begin_r5 : List Cond := [Cond.selects RJx4a65c yJx4a65c_grow_92f84 yJx4a65c_grow_92f84, Cond.code yJx4a65c_grow_92f84 cJx4a65c_grow_92f84 4 (some (.array (.object "java/lang/Object"))), Cond.fieldLink RJx4a65c 39 "java/util/ArrayList" "DEFAULTCAPACITY_EMPTY_ELEMENTDATA" "[Ljava/lang/Object;", Cond.methodLink RJx4a65c 79 Lib.Math.max.name, Cond.static Lib.Math.max.name, Cond.initialized "java/lang/Math", Cond.code Lib.Math.max.name Lib.Math.max.code 2 (some .int), Cond.classLink RJx4a65c 7 "java/lang/Object", Cond.methodLink RJx4a65c 73 yJ8_newLength_cabcc, Cond.static yJ8_newLength_cabcc, Cond.initialized RJ8, Cond.code yJ8_newLength_cabcc cJ8_newLength_cabcc 4 (some .int), Cond.methodLink RJ8 194 Lib.Math.max.name, Cond.constant RJ8 200 (2147483639), Cond.methodLink RJ8 201 yJ8_hugeLength_7cf53, Cond.static yJ8_hugeLength_7cf53, Cond.code yJ8_hugeLength_7cf53 cJ8_hugeLength_7cf53 3 (some .int), Cond.methodLink RJx4a65c 66 yJ7_copyOf_1904c, Cond.static yJ7_copyOf_1904c, Cond.initialized RJ7, Cond.code yJ7_copyOf_1904c cJ7_copyOf_1904c 2 (some (.array (.object "java/lang/Object"))), Cond.methodLink RJ7 86 ⟨"java/lang/Object", "getClass", "()Ljava/lang/Class;"⟩, Cond.selects "[Ljava/lang/Object;" ⟨"java/lang/Object", "getClass", "()Ljava/lang/Class;"⟩ ⟨"java/lang/Object", "getClass", "()Ljava/lang/Class;"⟩, Cond.instanceMethod ⟨"java/lang/Object", "getClass", "()Ljava/lang/Class;"⟩]
def wsL_begin_r6 : List Cond := [Cond.native ⟨"java/lang/Object", "getClass", "()Ljava/lang/Class;"⟩, Cond.methodLink RJ7 300 yJ7_copyOf_6403c, Cond.static yJ7_copyOf_6403c, Cond.code yJ7_copyOf_6403c cJ7_copyOf_6403c 4 (some (.array (.object "java/lang/Object"))), Cond.classLink RJ7 110 "[Ljava/lang/Object;", Cond.classLink RJ7 2 "java/lang/Object", Cond.methodLink RJ7 304 Lib.Math.min.name, Cond.static Lib.Math.min.name, Cond.code Lib.Math.min.name Lib.Math.min.code 2 (some .int), Cond.methodLink RJ7 150 arraycopyName, Cond.native arraycopyName, Cond.static arraycopyName, Cond.initialized "java/lang/System"]
def wsL_begin : List Cond := .codeWith yL_begin cL_begin 6 (some .int) [(0, 12, 15, 21), (0, 12, 19, 13), (0, 12, 23, 15)] :: ((wsL_begin_r1 ++ (wsL_begin_r2 ++ (wsL_begin_r3 ++ (wsL_begin_r4 ++ (wsL_begin_r5 ++ wsL_begin_r6))))) ++ wsX40 ++ wsX30 ++ wsX50 ++ wsJx4a65c0 ++ wsX20 ++ (vx_atS RX5 40 "java/lang/IllegalArgumentException" ["java/lang/RuntimeException", "java/lang/Exception"]).filter goodWord ++ (vx_atS RX5 198 "java/lang/IndexOutOfBoundsException" ["java/lang/RuntimeException", "java/lang/Exception"]).filter goodWord ++ (vx_atS RX5 51 "java/lang/UnsupportedOperationException" ["java/lang/RuntimeException", "java/lang/Exception"]).filter goodWord)
def wsL_deliver_r1 : List Cond := [Cond.classLink RL 21 "java/lang/IndexOutOfBoundsException", Cond.classLink RL 15 "java/lang/UnsupportedOperationException", Cond.methodLink RL 23 yX5_deliver, Cond.instanceMethod yX5_deliver, Cond.selects RX5 yX5_deliver yX5_deliver, Cond.initialized RX5, Cond.code yX5_deliver cX5_deliver 3 (some .boolean), Cond.fieldLink RX5 90 "PurseWorld$Message" "kind" "I", Cond.fieldLink RX5 31 "PurseWorld" "archive" "LPurseWorld$Archive;", Cond.fieldLink RX5 110 "PurseWorld$Message" "teller" "I", Cond.fieldLink RX5 113 "PurseWorld$Message" "terms" "LPurseWorld$Transfer;", Cond.methodLink RX5 82 yX5_messageAt, Cond.instanceMethod yX5_messageAt, Cond.selects RX5 yX5_messageAt yX5_messageAt, Cond.code yX5_messageAt cX5_messageAt 2 (some (.object "PurseWorld$Message")), Cond.classLink RX5 194 "java/lang/IndexOutOfBoundsException", Cond.initialized "java/lang/IndexOutOfBoundsException", Cond.fieldLink RX5 25 "PurseWorld" "sent" "Ljava/util/ArrayList;", Cond.classLink RX5 91 "PurseWorld$Message", Cond.methodLink RX5 43 yJx4a65c_size_8abf5, Cond.instanceMethod yJx4a65c_size_8abf5, Cond.selects RJx4a65c yJx4a65c_size_8abf5 yJx4a65c_size_8abf5, Cond.initialized RJx4a65c, Cond.code yJx4a65c_size_8abf5 cJx4a65c_size_8abf5 1 (some .int)]
def wsL_deliver_r2 : List Cond := [Cond.fieldLink RJx4a65c 48 "java/util/ArrayList" "size" "I", Cond.methodLink RX5 137 yJx4a65c_get_915e3, Cond.instanceMethod yJx4a65c_get_915e3, Cond.selects RJx4a65c yJx4a65c_get_915e3 yJx4a65c_get_915e3, Cond.code yJx4a65c_get_915e3 cJx4a65c_get_915e3 2 (some (.object "java/lang/Object")), Cond.methodLink RJx4a65c 118 yJ15_checkIndex_7cf53, Cond.static yJ15_checkIndex_7cf53, Cond.initialized RJ15, Cond.code yJ15_checkIndex_7cf53 cJ15_checkIndex_7cf53 2 (some .int), Cond.methodLink RJ15 105 yJ3_checkIndex_8e157, Cond.static yJ3_checkIndex_8e157, Cond.initialized RJ3, Cond.code yJ3_checkIndex_8e157 cJ3_checkIndex_8e157 3 (some .int), Cond.methodLink RJx4a65c 123 yJx4a65c_elementData_915e3, Cond.instanceMethod yJx4a65c_elementData_915e3, Cond.selects RJx4a65c yJx4a65c_elementData_915e3 yJx4a65c_elementData_915e3, Cond.code yJx4a65c_elementData_915e3 cJx4a65c_elementData_915e3 2 (some (.object "java/lang/Object")), Cond.fieldLink RJx4a65c 9 "java/util/ArrayList" "elementData" "[Ljava/lang/Object;", Cond.methodLink RX5 86 yX5_mayBeAnswered, Cond.instanceMethod yX5_mayBeAnswered, Cond.selects RX5 yX5_mayBeAnswered yX5_mayBeAnswered, Cond.code yX5_mayBeAnswered cX5_mayBeAnswered 2 (some .boolean), Cond.fieldLink RX5 199 "PurseWorld$Message" "to" "I", Cond.methodLink RX5 61 yX5_purseAt]
def wsL_deliver_r3 : List Cond := [Cond.instanceMethod yX5_purseAt, Cond.selects RX5 yX5_purseAt yX5_purseAt, Cond.code yX5_purseAt cX5_purseAt 2 (some (.object "PurseWorld$Purse")), Cond.fieldLink RX5 21 "PurseWorld" "owners" "Ljava/util/ArrayList;", Cond.classLink RX5 52 "PurseWorld$Purse", Cond.methodLink RX5 230 yX3_does, Cond.instanceMethod yX3_does, Cond.selects RX3 yX3_does yX3_does, Cond.initialized RX3, Cond.code yX3_does cX3_does 3 (some .boolean), Cond.fieldLink RX3 32 "PurseWorld$Purse" "state" "I", Cond.fieldLink RX3 35 "PurseWorld$Purse" "current" "LPurseWorld$Transfer;", Cond.methodLink RX3 42 yX4_same, Cond.instanceMethod yX4_same, Cond.selects RX4 yX4_same yX4_same, Cond.initialized RX4, Cond.code yX4_same cX4_same 2 (some .boolean), Cond.fieldLink RX4 7 "PurseWorld$Transfer" "payer" "I", Cond.fieldLink RX4 13 "PurseWorld$Transfer" "payerSerial" "I", Cond.fieldLink RX4 16 "PurseWorld$Transfer" "payee" "I", Cond.fieldLink RX4 19 "PurseWorld$Transfer" "payeeSerial" "I", Cond.fieldLink RX4 22 "PurseWorld$Transfer" "amount" "I", Cond.methodLink RX5 70 yX5_needRoomFor, Cond.instanceMethod yX5_needRoomFor]
def wsL_deliver_r4 : List Cond := [Cond.selects RX5 yX5_needRoomFor yX5_needRoomFor, Cond.code yX5_needRoomFor cX5_needRoomFor 2 none, Cond.classLink RX5 47 "java/lang/UnsupportedOperationException", Cond.initialized "java/lang/UnsupportedOperationException", Cond.methodLink RX5 95 yX5_takePay, Cond.instanceMethod yX5_takePay, Cond.selects RX5 yX5_takePay yX5_takePay, Cond.code yX5_takePay cX5_takePay 4 (some .boolean), Cond.fieldLink RX5 179 "PurseWorld$Purse" "balance" "I", Cond.fieldLink RX5 182 "PurseWorld$Transfer" "amount" "I", Cond.classLink RX5 7 RX4, Cond.instantiable RX4 5, Cond.fieldLink RX5 237 "PurseWorld$Purse" "number" "I", Cond.fieldLink RX5 74 "PurseWorld$Purse" "serial" "I", Cond.fieldLink RX5 164 "PurseWorld$Transfer" "payee" "I", Cond.fieldLink RX5 223 "PurseWorld$Transfer" "payeeSerial" "I", Cond.methodLink RX5 126 yX3_end, Cond.instanceMethod yX3_end, Cond.selects RX3 yX3_end yX3_end, Cond.code yX3_end cX3_end 1 none, Cond.fieldLink RX3 25 "PurseWorld$Purse" "kept" "Ljava/util/ArrayList;", Cond.fieldLink RX3 29 "PurseWorld$Purse" "serial" "I", Cond.methodLink RX3 52 yJx4a65c_add_9ea2d, Cond.instanceMethod yJx4a65c_add_9ea2d]
def wsL_deliver_r5 : List Cond := [Cond.selects RJx4a65c yJx4a65c_add_9ea2d yJx4a65c_add_9ea2d, Cond.code yJx4a65c_add_9ea2d cJx4a65c_add_9ea2d 2 (some .boolean), Cond.fieldLink RJx4a65c 63 "java/util/ArrayList" "modCount" "I", Cond.sameField "java/util/ArrayList" "java/util/AbstractList" "modCount" "I", Cond.methodLink RJx4a65c 131 yJx4a65c_add_72be8, Cond.instanceMethod yJx4a65c_add_72be8, Cond.selects RJx4a65c yJx4a65c_add_72be8 yJx4a65c_add_72be8, Cond.code yJx4a65c_add_72be8 cJx4a65c_add_72be8 4 none, Cond.methodLink RJx4a65c 129 yJx4a65c_grow_d5877, Cond.instanceMethod yJx4a65c_grow_d5877, Cond.selects RJx4a65c yJx4a65c_grow_d5877 yJx4a65c_grow_d5877, Cond.code yJx4a65c_grow_d5877 cJx4a65c_grow_d5877 1 (some (.array (.object "java/lang/Object"))), Cond.methodLink RJx4a65c 69 yJx4a65c_grow_92f84, Cond.instanceMethod yJx4a65c_grow_92f84, Cond.selects RJx4a65c yJx4a65c_grow_92f84 yJx4a65c_grow_92f84, Cond.code yJx4a65c_grow_92f84 cJx4a65c_grow_92f84 4 (some (.array (.object "java/lang/Object"))), Cond.fieldLink RJx4a65c 39 "java/util/ArrayList" "DEFAULTCAPACITY_EMPTY_ELEMENTDATA" "[Ljava/lang/Object;", Cond.methodLink RJx4a65c 79 Lib.Math.max.name, Cond.static Lib.Math.max.name, Cond.initialized "java/lang/Math", Cond.code Lib.Math.max.name Lib.Math.max.code 2 (some .int), Cond.classLink RJx4a65c 7 "java/lang/Object", Cond.methodLink RJx4a65c 73 yJ8_newLength_cabcc, Cond.static yJ8_newLength_cabcc]
def wsL_deliver_r6 : List Cond := [Cond.initialized RJ8, Cond.code yJ8_newLength_cabcc cJ8_newLength_cabcc 4 (some .int), Cond.methodLink RJ8 194 Lib.Math.max.name, Cond.constant RJ8 200 (2147483639), Cond.methodLink RJ8 201 yJ8_hugeLength_7cf53, Cond.static yJ8_hugeLength_7cf53, Cond.code yJ8_hugeLength_7cf53 cJ8_hugeLength_7cf53 3 (some .int), Cond.methodLink RJx4a65c 66 yJ7_copyOf_1904c, Cond.static yJ7_copyOf_1904c, Cond.initialized RJ7, Cond.code yJ7_copyOf_1904c cJ7_copyOf_1904c 2 (some (.array (.object "java/lang/Object"))), Cond.methodLink RJ7 86 ⟨"java/lang/Object", "getClass", "()Ljava/lang/Class;"⟩, Cond.selects "[Ljava/lang/Object;" ⟨"java/lang/Object", "getClass", "()Ljava/lang/Class;"⟩ ⟨"java/lang/Object", "getClass", "()Ljava/lang/Class;"⟩, Cond.instanceMethod ⟨"java/lang/Object", "getClass", "()Ljava/lang/Class;"⟩, Cond.native ⟨"java/lang/Object", "getClass", "()Ljava/lang/Class;"⟩, Cond.methodLink RJ7 300 yJ7_copyOf_6403c, Cond.static yJ7_copyOf_6403c, Cond.code yJ7_copyOf_6403c cJ7_copyOf_6403c 4 (some (.array (.object "java/lang/Object"))), Cond.classLink RJ7 110 "[Ljava/lang/Object;", Cond.classLink RJ7 2 "java/lang/Object", Cond.methodLink RJ7 304 Lib.Math.min.name, Cond.static Lib.Math.min.name, Cond.code Lib.Math.min.name Lib.Math.min.code 2 (some .int), Cond.methodLink RJ7 150 arraycopyName]
def wsL_deliver_r7 : List Cond := [Cond.native arraycopyName, Cond.static arraycopyName, Cond.initialized "java/lang/System", Cond.methodLink RX3 56 yX3_rest, Cond.instanceMethod yX3_rest, Cond.selects RX3 yX3_rest yX3_rest, Cond.code yX3_rest cX3_rest 1 none, Cond.fieldLink RX3 18 "PurseWorld$Purse" "nothing" "LPurseWorld$Transfer;", Cond.methodLink RX5 233 yX3_logIsFull, Cond.instanceMethod yX3_logIsFull, Cond.selects RX3 yX3_logIsFull yX3_logIsFull, Cond.code yX3_logIsFull cX3_logIsFull 1 (some .boolean), Cond.methodLink RX3 38 yJx4a65c_size_8abf5, Cond.methodLink RX5 11 yX4_init, Cond.instanceMethod yX4_init, Cond.code yX4_init cX4_init 6 none, Cond.methodLink RX4 1 objectInit, Cond.instanceMethod objectInit, Cond.code objectInit ⟨#[0xb1]⟩ 1 none, Cond.methodLink RX5 240 yX3_start, Cond.instanceMethod yX3_start, Cond.selects RX3 yX3_start yX3_start, Cond.code yX3_start cX3_start 3 none, Cond.methodLink RX5 98 yX5_takeEarn]
def wsL_deliver_r8 : List Cond := [Cond.instanceMethod yX5_takeEarn, Cond.selects RX5 yX5_takeEarn yX5_takeEarn, Cond.code yX5_takeEarn cX5_takeEarn 4 (some .boolean), Cond.fieldLink RX5 158 "PurseWorld$Transfer" "payer" "I", Cond.fieldLink RX5 220 "PurseWorld$Transfer" "payerSerial" "I", Cond.fieldLink RX5 187 "PurseWorld$Purse" "current" "LPurseWorld$Transfer;", Cond.methodLink RX5 78 yX5_send, Cond.instanceMethod yX5_send, Cond.selects RX5 yX5_send yX5_send, Cond.code yX5_send cX5_send 5 (some .int), Cond.classLink RX5 91 RX2, Cond.instantiable RX2 5, Cond.initialized RX2, Cond.methodLink RX5 141 yX2_init, Cond.instanceMethod yX2_init, Cond.code yX2_init cX2_init 6 none, Cond.methodLink RX2 1 objectInit, Cond.fieldLink RX2 7 "PurseWorld$Message" "kind" "I", Cond.fieldLink RX2 13 "PurseWorld$Message" "to" "I", Cond.fieldLink RX2 16 "PurseWorld$Message" "terms" "LPurseWorld$Transfer;", Cond.fieldLink RX2 20 "PurseWorld$Message" "teller" "I", Cond.fieldLink RX2 23 "PurseWorld$Message" "archived" "I", Cond.methodLink RX5 57 yJx4a65c_add_9ea2d, Cond.methodLink RX5 101 yX5_takeAsk]
def wsL_deliver_r9 : List Cond := [Cond.instanceMethod yX5_takeAsk, Cond.selects RX5 yX5_takeAsk yX5_takeAsk, Cond.code yX5_takeAsk cX5_takeAsk 3 (some .boolean), Cond.fieldLink RX5 123 "PurseWorld$Purse" "state" "I", Cond.methodLink RX5 104 yX5_takeValue, Cond.instanceMethod yX5_takeValue, Cond.selects RX5 yX5_takeValue yX5_takeValue, Cond.code yX5_takeValue cX5_takeValue 3 (some .boolean), Cond.methodLink RX5 244 yX3_rest, Cond.methodLink RX5 107 yX5_takeThanks, Cond.instanceMethod yX5_takeThanks, Cond.selects RX5 yX5_takeThanks yX5_takeThanks, Cond.code yX5_takeThanks cX5_takeThanks 3 (some .boolean), Cond.methodLink RX5 116 yX0_takeRecord, Cond.instanceMethod yX0_takeRecord, Cond.selects RX0 yX0_takeRecord yX0_takeRecord, Cond.initialized RX0, Cond.code yX0_takeRecord cX0_takeRecord 3 (some .boolean), Cond.fieldLink RX0 10 "PurseWorld$Archive" "rows" "Ljava/util/ArrayList;", Cond.classLink RX0 24 RX1, Cond.instantiable RX1 3, Cond.initialized RX1, Cond.methodLink RX0 48 yX0_has, Cond.instanceMethod yX0_has]
def wsL_deliver_r10 : List Cond := [Cond.selects RX0 yX0_has yX0_has, Cond.code yX0_has cX0_has 3 (some .boolean), Cond.methodLink RX0 16 yJx4a65c_size_8abf5, Cond.methodLink RX0 40 yX0_hadAmong, Cond.instanceMethod yX0_hadAmong, Cond.selects RX0 yX0_hadAmong yX0_hadAmong, Cond.code yX0_hadAmong cX0_hadAmong 6 (some .boolean), Cond.classLink RX0 24 "PurseWorld$Entry", Cond.fieldLink RX0 26 "PurseWorld$Entry" "teller" "I", Cond.fieldLink RX0 30 "PurseWorld$Entry" "terms" "LPurseWorld$Transfer;", Cond.methodLink RX0 20 yJx4a65c_get_915e3, Cond.methodLink RX0 34 yX4_same, Cond.methodLink RX0 52 yX1_init, Cond.instanceMethod yX1_init, Cond.code yX1_init cX1_init 3 none, Cond.methodLink RX1 1 objectInit, Cond.fieldLink RX1 7 "PurseWorld$Entry" "teller" "I", Cond.fieldLink RX1 13 "PurseWorld$Entry" "terms" "LPurseWorld$Transfer;", Cond.methodLink RX0 55 yJx4a65c_add_9ea2d, Cond.methodLink RX5 120 yX5_takeClear, Cond.instanceMethod yX5_takeClear, Cond.selects RX5 yX5_takeClear yX5_takeClear, Cond.code yX5_takeClear cX5_takeClear 4 (some .boolean), Cond.fieldLink RX5 134 "PurseWorld$Purse" "kept" "Ljava/util/ArrayList;"]
def wsL_deliver_r11 : List Cond := [Cond.fieldLink RX5 250 "PurseWorld$Message" "archived" "I", Cond.classLink RX5 7 "PurseWorld$Transfer", Cond.methodLink RX5 247 yJx4a65c_isEmpty_aae02, Cond.instanceMethod yJx4a65c_isEmpty_aae02, Cond.selects RJx4a65c yJx4a65c_isEmpty_aae02 yJx4a65c_isEmpty_aae02, Cond.code yJx4a65c_isEmpty_aae02 cJx4a65c_isEmpty_aae02 1 (some .boolean), Cond.methodLink RX5 253 yX0_hadAmong, Cond.methodLink RX5 257 yJx4a65c_clear_da8c8, Cond.instanceMethod yJx4a65c_clear_da8c8, Cond.selects RJx4a65c yJx4a65c_clear_da8c8 yJx4a65c_clear_da8c8, Cond.code yJx4a65c_clear_da8c8 cJx4a65c_clear_da8c8 4 none]
def wsL_deliver : List Cond := .codeWith yL_deliver cL_deliver 4 (some .int) [(0, 16, 19, 21), (0, 16, 22, 15)] :: ((wsL_deliver_r1 ++ (wsL_deliver_r2 ++ (wsL_deliver_r3 ++ (wsL_deliver_r4 ++ (wsL_deliver_r5 ++ (wsL_deliver_r6 ++ (wsL_deliver_r7 ++ (wsL_deliver_r8 ++ (wsL_deliver_r9 ++ (wsL_deliver_r10 ++ wsL_deliver_r11)))))))))) ++ wsX20 ++ wsX50 ++ wsJx4a65c0 ++ wsX30 ++ wsX40 ++ wsX00 ++ wsX10 ++ (vx_atS RX5 198 "java/lang/IndexOutOfBoundsException" ["java/lang/RuntimeException", "java/lang/Exception"]).filter goodWord ++ (vx_atS RX5 51 "java/lang/UnsupportedOperationException" ["java/lang/RuntimeException", "java/lang/Exception"]).filter goodWord)
def wsL_abort_r1 : List Cond := [Cond.classLink RL 21 "java/lang/IndexOutOfBoundsException", Cond.methodLink RL 27 yX5_abort, Cond.instanceMethod yX5_abort, Cond.selects RX5 yX5_abort yX5_abort, Cond.initialized RX5, Cond.code yX5_abort cX5_abort 4 (some .int), Cond.fieldLink RX5 123 "PurseWorld$Purse" "state" "I", Cond.methodLink RX5 61 yX5_purseAt, Cond.instanceMethod yX5_purseAt, Cond.selects RX5 yX5_purseAt yX5_purseAt, Cond.code yX5_purseAt cX5_purseAt 2 (some (.object "PurseWorld$Purse")), Cond.classLink RX5 194 "java/lang/IndexOutOfBoundsException", Cond.initialized "java/lang/IndexOutOfBoundsException", Cond.fieldLink RX5 21 "PurseWorld" "owners" "Ljava/util/ArrayList;", Cond.classLink RX5 52 "PurseWorld$Purse", Cond.methodLink RX5 43 yJx4a65c_size_8abf5, Cond.instanceMethod yJx4a65c_size_8abf5, Cond.selects RJx4a65c yJx4a65c_size_8abf5 yJx4a65c_size_8abf5, Cond.initialized RJx4a65c, Cond.code yJx4a65c_size_8abf5 cJx4a65c_size_8abf5 1 (some .int), Cond.fieldLink RJx4a65c 48 "java/util/ArrayList" "size" "I", Cond.methodLink RX5 137 yJx4a65c_get_915e3, Cond.instanceMethod yJx4a65c_get_915e3, Cond.selects RJx4a65c yJx4a65c_get_915e3 yJx4a65c_get_915e3]
def wsL_abort_r2 : List Cond := [Cond.code yJx4a65c_get_915e3 cJx4a65c_get_915e3 2 (some (.object "java/lang/Object")), Cond.methodLink RJx4a65c 118 yJ15_checkIndex_7cf53, Cond.static yJ15_checkIndex_7cf53, Cond.initialized RJ15, Cond.code yJ15_checkIndex_7cf53 cJ15_checkIndex_7cf53 2 (some .int), Cond.methodLink RJ15 105 yJ3_checkIndex_8e157, Cond.static yJ3_checkIndex_8e157, Cond.initialized RJ3, Cond.code yJ3_checkIndex_8e157 cJ3_checkIndex_8e157 3 (some .int), Cond.methodLink RJx4a65c 123 yJx4a65c_elementData_915e3, Cond.instanceMethod yJx4a65c_elementData_915e3, Cond.selects RJx4a65c yJx4a65c_elementData_915e3 yJx4a65c_elementData_915e3, Cond.code yJx4a65c_elementData_915e3 cJx4a65c_elementData_915e3 2 (some (.object "java/lang/Object")), Cond.fieldLink RJx4a65c 9 "java/util/ArrayList" "elementData" "[Ljava/lang/Object;", Cond.methodLink RX5 126 yX3_end, Cond.instanceMethod yX3_end, Cond.selects RX3 yX3_end yX3_end, Cond.initialized RX3, Cond.code yX3_end cX3_end 1 none, Cond.fieldLink RX3 32 "PurseWorld$Purse" "state" "I", Cond.fieldLink RX3 25 "PurseWorld$Purse" "kept" "Ljava/util/ArrayList;", Cond.fieldLink RX3 35 "PurseWorld$Purse" "current" "LPurseWorld$Transfer;", Cond.fieldLink RX3 29 "PurseWorld$Purse" "serial" "I", Cond.methodLink RX3 52 yJx4a65c_add_9ea2d]
def wsL_abort_r3 : List Cond := [Cond.instanceMethod yJx4a65c_add_9ea2d, Cond.selects RJx4a65c yJx4a65c_add_9ea2d yJx4a65c_add_9ea2d, Cond.code yJx4a65c_add_9ea2d cJx4a65c_add_9ea2d 2 (some .boolean), Cond.fieldLink RJx4a65c 63 "java/util/ArrayList" "modCount" "I", Cond.sameField "java/util/ArrayList" "java/util/AbstractList" "modCount" "I", Cond.methodLink RJx4a65c 131 yJx4a65c_add_72be8, Cond.instanceMethod yJx4a65c_add_72be8, Cond.selects RJx4a65c yJx4a65c_add_72be8 yJx4a65c_add_72be8, Cond.code yJx4a65c_add_72be8 cJx4a65c_add_72be8 4 none, Cond.methodLink RJx4a65c 129 yJx4a65c_grow_d5877, Cond.instanceMethod yJx4a65c_grow_d5877, Cond.selects RJx4a65c yJx4a65c_grow_d5877 yJx4a65c_grow_d5877, Cond.code yJx4a65c_grow_d5877 cJx4a65c_grow_d5877 1 (some (.array (.object "java/lang/Object"))), Cond.methodLink RJx4a65c 69 yJx4a65c_grow_92f84, Cond.instanceMethod yJx4a65c_grow_92f84, Cond.selects RJx4a65c yJx4a65c_grow_92f84 yJx4a65c_grow_92f84, Cond.code yJx4a65c_grow_92f84 cJx4a65c_grow_92f84 4 (some (.array (.object "java/lang/Object"))), Cond.fieldLink RJx4a65c 39 "java/util/ArrayList" "DEFAULTCAPACITY_EMPTY_ELEMENTDATA" "[Ljava/lang/Object;", Cond.methodLink RJx4a65c 79 Lib.Math.max.name, Cond.static Lib.Math.max.name, Cond.initialized "java/lang/Math", Cond.code Lib.Math.max.name Lib.Math.max.code 2 (some .int), Cond.classLink RJx4a65c 7 "java/lang/Object", Cond.methodLink RJx4a65c 73 yJ8_newLength_cabcc]
def wsL_abort_r4 : List Cond := [Cond.static yJ8_newLength_cabcc, Cond.initialized RJ8, Cond.code yJ8_newLength_cabcc cJ8_newLength_cabcc 4 (some .int), Cond.methodLink RJ8 194 Lib.Math.max.name, Cond.constant RJ8 200 (2147483639), Cond.methodLink RJ8 201 yJ8_hugeLength_7cf53, Cond.static yJ8_hugeLength_7cf53, Cond.code yJ8_hugeLength_7cf53 cJ8_hugeLength_7cf53 3 (some .int), Cond.methodLink RJx4a65c 66 yJ7_copyOf_1904c, Cond.static yJ7_copyOf_1904c, Cond.initialized RJ7, Cond.code yJ7_copyOf_1904c cJ7_copyOf_1904c 2 (some (.array (.object "java/lang/Object"))), Cond.methodLink RJ7 86 ⟨"java/lang/Object", "getClass", "()Ljava/lang/Class;"⟩, Cond.selects "[Ljava/lang/Object;" ⟨"java/lang/Object", "getClass", "()Ljava/lang/Class;"⟩ ⟨"java/lang/Object", "getClass", "()Ljava/lang/Class;"⟩, Cond.instanceMethod ⟨"java/lang/Object", "getClass", "()Ljava/lang/Class;"⟩, Cond.native ⟨"java/lang/Object", "getClass", "()Ljava/lang/Class;"⟩, Cond.methodLink RJ7 300 yJ7_copyOf_6403c, Cond.static yJ7_copyOf_6403c, Cond.code yJ7_copyOf_6403c cJ7_copyOf_6403c 4 (some (.array (.object "java/lang/Object"))), Cond.classLink RJ7 110 "[Ljava/lang/Object;", Cond.classLink RJ7 2 "java/lang/Object", Cond.methodLink RJ7 304 Lib.Math.min.name, Cond.static Lib.Math.min.name, Cond.code Lib.Math.min.name Lib.Math.min.code 2 (some .int)]
def wsL_abort_r5 : List Cond := [Cond.methodLink RJ7 150 arraycopyName, Cond.native arraycopyName, Cond.static arraycopyName, Cond.initialized "java/lang/System", Cond.methodLink RX3 56 yX3_rest, Cond.instanceMethod yX3_rest, Cond.selects RX3 yX3_rest yX3_rest, Cond.code yX3_rest cX3_rest 1 none, Cond.fieldLink RX3 18 "PurseWorld$Purse" "nothing" "LPurseWorld$Transfer;"]
def wsL_abort : List Cond := .codeWith yL_abort cL_abort 4 (some .int) [(0, 9, 12, 21)] :: ((wsL_abort_r1 ++ (wsL_abort_r2 ++ (wsL_abort_r3 ++ (wsL_abort_r4 ++ wsL_abort_r5)))) ++ wsX30 ++ wsX50 ++ wsJx4a65c0 ++ (vx_atS RX5 198 "java/lang/IndexOutOfBoundsException" ["java/lang/RuntimeException", "java/lang/Exception"]).filter goodWord)
def wsL_readLog_r1 : List Cond := [Cond.classLink RL 21 "java/lang/IndexOutOfBoundsException", Cond.classLink RL 33 "java/lang/IllegalStateException", Cond.classLink RL 15 "java/lang/UnsupportedOperationException", Cond.methodLink RL 30 yX5_readLog, Cond.instanceMethod yX5_readLog, Cond.selects RX5 yX5_readLog yX5_readLog, Cond.initialized RX5, Cond.code yX5_readLog cX5_readLog 5 (some .int), Cond.classLink RX5 129 "java/lang/IllegalStateException", Cond.initialized "java/lang/IllegalStateException", Cond.fieldLink RX5 123 "PurseWorld$Purse" "state" "I", Cond.fieldLink RX5 134 "PurseWorld$Purse" "kept" "Ljava/util/ArrayList;", Cond.fieldLink RX5 25 "PurseWorld" "sent" "Ljava/util/ArrayList;", Cond.classLink RX5 91 RX2, Cond.instantiable RX2 5, Cond.initialized RX2, Cond.classLink RX5 7 "PurseWorld$Transfer", Cond.methodLink RX5 61 yX5_purseAt, Cond.instanceMethod yX5_purseAt, Cond.selects RX5 yX5_purseAt yX5_purseAt, Cond.code yX5_purseAt cX5_purseAt 2 (some (.object "PurseWorld$Purse")), Cond.classLink RX5 194 "java/lang/IndexOutOfBoundsException", Cond.initialized "java/lang/IndexOutOfBoundsException", Cond.fieldLink RX5 21 "PurseWorld" "owners" "Ljava/util/ArrayList;"]
def wsL_readLog_r2 : List Cond := [Cond.classLink RX5 52 "PurseWorld$Purse", Cond.methodLink RX5 43 yJx4a65c_size_8abf5, Cond.instanceMethod yJx4a65c_size_8abf5, Cond.selects RJx4a65c yJx4a65c_size_8abf5 yJx4a65c_size_8abf5, Cond.initialized RJx4a65c, Cond.code yJx4a65c_size_8abf5 cJx4a65c_size_8abf5 1 (some .int), Cond.fieldLink RJx4a65c 48 "java/util/ArrayList" "size" "I", Cond.methodLink RX5 137 yJx4a65c_get_915e3, Cond.instanceMethod yJx4a65c_get_915e3, Cond.selects RJx4a65c yJx4a65c_get_915e3 yJx4a65c_get_915e3, Cond.code yJx4a65c_get_915e3 cJx4a65c_get_915e3 2 (some (.object "java/lang/Object")), Cond.methodLink RJx4a65c 118 yJ15_checkIndex_7cf53, Cond.static yJ15_checkIndex_7cf53, Cond.initialized RJ15, Cond.code yJ15_checkIndex_7cf53 cJ15_checkIndex_7cf53 2 (some .int), Cond.methodLink RJ15 105 yJ3_checkIndex_8e157, Cond.static yJ3_checkIndex_8e157, Cond.initialized RJ3, Cond.code yJ3_checkIndex_8e157 cJ3_checkIndex_8e157 3 (some .int), Cond.methodLink RJx4a65c 123 yJx4a65c_elementData_915e3, Cond.instanceMethod yJx4a65c_elementData_915e3, Cond.selects RJx4a65c yJx4a65c_elementData_915e3 yJx4a65c_elementData_915e3, Cond.code yJx4a65c_elementData_915e3 cJx4a65c_elementData_915e3 2 (some (.object "java/lang/Object")), Cond.fieldLink RJx4a65c 9 "java/util/ArrayList" "elementData" "[Ljava/lang/Object;"]
def wsL_readLog_r3 : List Cond := [Cond.methodLink RX5 70 yX5_needRoomFor, Cond.instanceMethod yX5_needRoomFor, Cond.selects RX5 yX5_needRoomFor yX5_needRoomFor, Cond.code yX5_needRoomFor cX5_needRoomFor 2 none, Cond.classLink RX5 47 "java/lang/UnsupportedOperationException", Cond.initialized "java/lang/UnsupportedOperationException", Cond.methodLink RX5 141 yX2_init, Cond.instanceMethod yX2_init, Cond.code yX2_init cX2_init 6 none, Cond.methodLink RX2 1 objectInit, Cond.instanceMethod objectInit, Cond.code objectInit ⟨#[0xb1]⟩ 1 none, Cond.fieldLink RX2 7 "PurseWorld$Message" "kind" "I", Cond.fieldLink RX2 13 "PurseWorld$Message" "to" "I", Cond.fieldLink RX2 16 "PurseWorld$Message" "terms" "LPurseWorld$Transfer;", Cond.fieldLink RX2 20 "PurseWorld$Message" "teller" "I", Cond.fieldLink RX2 23 "PurseWorld$Message" "archived" "I", Cond.methodLink RX5 57 yJx4a65c_add_9ea2d, Cond.instanceMethod yJx4a65c_add_9ea2d, Cond.selects RJx4a65c yJx4a65c_add_9ea2d yJx4a65c_add_9ea2d, Cond.code yJx4a65c_add_9ea2d cJx4a65c_add_9ea2d 2 (some .boolean), Cond.fieldLink RJx4a65c 63 "java/util/ArrayList" "modCount" "I", Cond.sameField "java/util/ArrayList" "java/util/AbstractList" "modCount" "I", Cond.methodLink RJx4a65c 131 yJx4a65c_add_72be8]
def wsL_readLog_r4 : List Cond := [Cond.instanceMethod yJx4a65c_add_72be8, Cond.selects RJx4a65c yJx4a65c_add_72be8 yJx4a65c_add_72be8, Cond.code yJx4a65c_add_72be8 cJx4a65c_add_72be8 4 none, Cond.methodLink RJx4a65c 129 yJx4a65c_grow_d5877, Cond.instanceMethod yJx4a65c_grow_d5877, Cond.selects RJx4a65c yJx4a65c_grow_d5877 yJx4a65c_grow_d5877, Cond.code yJx4a65c_grow_d5877 cJx4a65c_grow_d5877 1 (some (.array (.object "java/lang/Object"))), Cond.methodLink RJx4a65c 69 yJx4a65c_grow_92f84, Cond.instanceMethod yJx4a65c_grow_92f84, Cond.selects RJx4a65c yJx4a65c_grow_92f84 yJx4a65c_grow_92f84, Cond.code yJx4a65c_grow_92f84 cJx4a65c_grow_92f84 4 (some (.array (.object "java/lang/Object"))), Cond.fieldLink RJx4a65c 39 "java/util/ArrayList" "DEFAULTCAPACITY_EMPTY_ELEMENTDATA" "[Ljava/lang/Object;", Cond.methodLink RJx4a65c 79 Lib.Math.max.name, Cond.static Lib.Math.max.name, Cond.initialized "java/lang/Math", Cond.code Lib.Math.max.name Lib.Math.max.code 2 (some .int), Cond.classLink RJx4a65c 7 "java/lang/Object", Cond.methodLink RJx4a65c 73 yJ8_newLength_cabcc, Cond.static yJ8_newLength_cabcc, Cond.initialized RJ8, Cond.code yJ8_newLength_cabcc cJ8_newLength_cabcc 4 (some .int), Cond.methodLink RJ8 194 Lib.Math.max.name, Cond.constant RJ8 200 (2147483639), Cond.methodLink RJ8 201 yJ8_hugeLength_7cf53]
def wsL_readLog_r5 : List Cond := [Cond.static yJ8_hugeLength_7cf53, Cond.code yJ8_hugeLength_7cf53 cJ8_hugeLength_7cf53 3 (some .int), Cond.methodLink RJx4a65c 66 yJ7_copyOf_1904c, Cond.static yJ7_copyOf_1904c, Cond.initialized RJ7, Cond.code yJ7_copyOf_1904c cJ7_copyOf_1904c 2 (some (.array (.object "java/lang/Object"))), Cond.methodLink RJ7 86 ⟨"java/lang/Object", "getClass", "()Ljava/lang/Class;"⟩, Cond.selects "[Ljava/lang/Object;" ⟨"java/lang/Object", "getClass", "()Ljava/lang/Class;"⟩ ⟨"java/lang/Object", "getClass", "()Ljava/lang/Class;"⟩, Cond.instanceMethod ⟨"java/lang/Object", "getClass", "()Ljava/lang/Class;"⟩, Cond.native ⟨"java/lang/Object", "getClass", "()Ljava/lang/Class;"⟩, Cond.methodLink RJ7 300 yJ7_copyOf_6403c, Cond.static yJ7_copyOf_6403c, Cond.code yJ7_copyOf_6403c cJ7_copyOf_6403c 4 (some (.array (.object "java/lang/Object"))), Cond.classLink RJ7 110 "[Ljava/lang/Object;", Cond.classLink RJ7 2 "java/lang/Object", Cond.methodLink RJ7 304 Lib.Math.min.name, Cond.static Lib.Math.min.name, Cond.code Lib.Math.min.name Lib.Math.min.code 2 (some .int), Cond.methodLink RJ7 150 arraycopyName, Cond.native arraycopyName, Cond.static arraycopyName, Cond.initialized "java/lang/System"]
def wsL_readLog : List Cond := .codeWith yL_readLog cL_readLog 4 (some .int) [(0, 9, 12, 21), (0, 9, 15, 33), (0, 9, 18, 15)] :: ((wsL_readLog_r1 ++ (wsL_readLog_r2 ++ (wsL_readLog_r3 ++ (wsL_readLog_r4 ++ wsL_readLog_r5)))) ++ wsX30 ++ wsX50 ++ wsX20 ++ wsJx4a65c0 ++ (vx_atS RX5 133 "java/lang/IllegalStateException" ["java/lang/RuntimeException", "java/lang/Exception"]).filter goodWord ++ (vx_atS RX5 198 "java/lang/IndexOutOfBoundsException" ["java/lang/RuntimeException", "java/lang/Exception"]).filter goodWord ++ (vx_atS RX5 51 "java/lang/UnsupportedOperationException" ["java/lang/RuntimeException", "java/lang/Exception"]).filter goodWord)
def wsL_authorise_r1 : List Cond := [Cond.classLink RL 21 "java/lang/IndexOutOfBoundsException", Cond.classLink RL 33 "java/lang/IllegalStateException", Cond.classLink RL 15 "java/lang/UnsupportedOperationException", Cond.methodLink RL 35 yX5_authorise, Cond.instanceMethod yX5_authorise, Cond.selects RX5 yX5_authorise yX5_authorise, Cond.initialized RX5, Cond.code yX5_authorise cX5_authorise 3 (some .int), Cond.classLink RX5 129 "java/lang/IllegalStateException", Cond.initialized "java/lang/IllegalStateException", Cond.fieldLink RX5 31 "PurseWorld" "archive" "LPurseWorld$Archive;", Cond.fieldLink RX5 25 "PurseWorld" "sent" "Ljava/util/ArrayList;", Cond.classLink RX5 91 RX2, Cond.instantiable RX2 5, Cond.initialized RX2, Cond.fieldLink RX5 14 "PurseWorld" "nothing" "LPurseWorld$Transfer;", Cond.methodLink RX5 61 yX5_purseAt, Cond.instanceMethod yX5_purseAt, Cond.selects RX5 yX5_purseAt yX5_purseAt, Cond.code yX5_purseAt cX5_purseAt 2 (some (.object "PurseWorld$Purse")), Cond.classLink RX5 194 "java/lang/IndexOutOfBoundsException", Cond.initialized "java/lang/IndexOutOfBoundsException", Cond.fieldLink RX5 21 "PurseWorld" "owners" "Ljava/util/ArrayList;", Cond.classLink RX5 52 "PurseWorld$Purse"]
def wsL_authorise_r2 : List Cond := [Cond.methodLink RX5 43 yJx4a65c_size_8abf5, Cond.instanceMethod yJx4a65c_size_8abf5, Cond.selects RJx4a65c yJx4a65c_size_8abf5 yJx4a65c_size_8abf5, Cond.initialized RJx4a65c, Cond.code yJx4a65c_size_8abf5 cJx4a65c_size_8abf5 1 (some .int), Cond.fieldLink RJx4a65c 48 "java/util/ArrayList" "size" "I", Cond.methodLink RX5 137 yJx4a65c_get_915e3, Cond.instanceMethod yJx4a65c_get_915e3, Cond.selects RJx4a65c yJx4a65c_get_915e3 yJx4a65c_get_915e3, Cond.code yJx4a65c_get_915e3 cJx4a65c_get_915e3 2 (some (.object "java/lang/Object")), Cond.methodLink RJx4a65c 118 yJ15_checkIndex_7cf53, Cond.static yJ15_checkIndex_7cf53, Cond.initialized RJ15, Cond.code yJ15_checkIndex_7cf53 cJ15_checkIndex_7cf53 2 (some .int), Cond.methodLink RJ15 105 yJ3_checkIndex_8e157, Cond.static yJ3_checkIndex_8e157, Cond.initialized RJ3, Cond.code yJ3_checkIndex_8e157 cJ3_checkIndex_8e157 3 (some .int), Cond.methodLink RJx4a65c 123 yJx4a65c_elementData_915e3, Cond.instanceMethod yJx4a65c_elementData_915e3, Cond.selects RJx4a65c yJx4a65c_elementData_915e3 yJx4a65c_elementData_915e3, Cond.code yJx4a65c_elementData_915e3 cJx4a65c_elementData_915e3 2 (some (.object "java/lang/Object")), Cond.fieldLink RJx4a65c 9 "java/util/ArrayList" "elementData" "[Ljava/lang/Object;", Cond.methodLink RX5 144 yX0_hasAnyOf]
def wsL_authorise_r3 : List Cond := [Cond.instanceMethod yX0_hasAnyOf, Cond.selects RX0 yX0_hasAnyOf yX0_hasAnyOf, Cond.initialized RX0, Cond.code yX0_hasAnyOf cX0_hasAnyOf 3 (some .boolean), Cond.fieldLink RX0 10 "PurseWorld$Archive" "rows" "Ljava/util/ArrayList;", Cond.classLink RX0 24 "PurseWorld$Entry", Cond.fieldLink RX0 26 "PurseWorld$Entry" "teller" "I", Cond.methodLink RX0 16 yJx4a65c_size_8abf5, Cond.methodLink RX0 20 yJx4a65c_get_915e3, Cond.methodLink RX5 70 yX5_needRoomFor, Cond.instanceMethod yX5_needRoomFor, Cond.selects RX5 yX5_needRoomFor yX5_needRoomFor, Cond.code yX5_needRoomFor cX5_needRoomFor 2 none, Cond.classLink RX5 47 "java/lang/UnsupportedOperationException", Cond.initialized "java/lang/UnsupportedOperationException", Cond.methodLink RX5 150 yX0_size, Cond.instanceMethod yX0_size, Cond.selects RX0 yX0_size yX0_size, Cond.code yX0_size cX0_size 1 (some .int), Cond.methodLink RX5 141 yX2_init, Cond.instanceMethod yX2_init, Cond.code yX2_init cX2_init 6 none, Cond.methodLink RX2 1 objectInit, Cond.instanceMethod objectInit]
def wsL_authorise_r4 : List Cond := [Cond.code objectInit ⟨#[0xb1]⟩ 1 none, Cond.fieldLink RX2 7 "PurseWorld$Message" "kind" "I", Cond.fieldLink RX2 13 "PurseWorld$Message" "to" "I", Cond.fieldLink RX2 16 "PurseWorld$Message" "terms" "LPurseWorld$Transfer;", Cond.fieldLink RX2 20 "PurseWorld$Message" "teller" "I", Cond.fieldLink RX2 23 "PurseWorld$Message" "archived" "I", Cond.methodLink RX5 57 yJx4a65c_add_9ea2d, Cond.instanceMethod yJx4a65c_add_9ea2d, Cond.selects RJx4a65c yJx4a65c_add_9ea2d yJx4a65c_add_9ea2d, Cond.code yJx4a65c_add_9ea2d cJx4a65c_add_9ea2d 2 (some .boolean), Cond.fieldLink RJx4a65c 63 "java/util/ArrayList" "modCount" "I", Cond.sameField "java/util/ArrayList" "java/util/AbstractList" "modCount" "I", Cond.methodLink RJx4a65c 131 yJx4a65c_add_72be8, Cond.instanceMethod yJx4a65c_add_72be8, Cond.selects RJx4a65c yJx4a65c_add_72be8 yJx4a65c_add_72be8, Cond.code yJx4a65c_add_72be8 cJx4a65c_add_72be8 4 none, Cond.methodLink RJx4a65c 129 yJx4a65c_grow_d5877, Cond.instanceMethod yJx4a65c_grow_d5877, Cond.selects RJx4a65c yJx4a65c_grow_d5877 yJx4a65c_grow_d5877, Cond.code yJx4a65c_grow_d5877 cJx4a65c_grow_d5877 1 (some (.array (.object "java/lang/Object"))), Cond.methodLink RJx4a65c 69 yJx4a65c_grow_92f84, Cond.instanceMethod yJx4a65c_grow_92f84, Cond.selects RJx4a65c yJx4a65c_grow_92f84 yJx4a65c_grow_92f84, Cond.code yJx4a65c_grow_92f84 cJx4a65c_grow_92f84 4 (some (.array (.object "java/lang/Object")))]
def wsL_authorise_r5 : List Cond := [Cond.fieldLink RJx4a65c 39 "java/util/ArrayList" "DEFAULTCAPACITY_EMPTY_ELEMENTDATA" "[Ljava/lang/Object;", Cond.methodLink RJx4a65c 79 Lib.Math.max.name, Cond.static Lib.Math.max.name, Cond.initialized "java/lang/Math", Cond.code Lib.Math.max.name Lib.Math.max.code 2 (some .int), Cond.classLink RJx4a65c 7 "java/lang/Object", Cond.methodLink RJx4a65c 73 yJ8_newLength_cabcc, Cond.static yJ8_newLength_cabcc, Cond.initialized RJ8, Cond.code yJ8_newLength_cabcc cJ8_newLength_cabcc 4 (some .int), Cond.methodLink RJ8 194 Lib.Math.max.name, Cond.constant RJ8 200 (2147483639), Cond.methodLink RJ8 201 yJ8_hugeLength_7cf53, Cond.static yJ8_hugeLength_7cf53, Cond.code yJ8_hugeLength_7cf53 cJ8_hugeLength_7cf53 3 (some .int), Cond.methodLink RJx4a65c 66 yJ7_copyOf_1904c, Cond.static yJ7_copyOf_1904c, Cond.initialized RJ7, Cond.code yJ7_copyOf_1904c cJ7_copyOf_1904c 2 (some (.array (.object "java/lang/Object"))), Cond.methodLink RJ7 86 ⟨"java/lang/Object", "getClass", "()Ljava/lang/Class;"⟩, Cond.selects "[Ljava/lang/Object;" ⟨"java/lang/Object", "getClass", "()Ljava/lang/Class;"⟩ ⟨"java/lang/Object", "getClass", "()Ljava/lang/Class;"⟩, Cond.instanceMethod ⟨"java/lang/Object", "getClass", "()Ljava/lang/Class;"⟩, Cond.native ⟨"java/lang/Object", "getClass", "()Ljava/lang/Class;"⟩, Cond.methodLink RJ7 300 yJ7_copyOf_6403c]
def wsL_authorise_r6 : List Cond := [Cond.static yJ7_copyOf_6403c, Cond.code yJ7_copyOf_6403c cJ7_copyOf_6403c 4 (some (.array (.object "java/lang/Object"))), Cond.classLink RJ7 110 "[Ljava/lang/Object;", Cond.classLink RJ7 2 "java/lang/Object", Cond.methodLink RJ7 304 Lib.Math.min.name, Cond.static Lib.Math.min.name, Cond.code Lib.Math.min.name Lib.Math.min.code 2 (some .int), Cond.methodLink RJ7 150 arraycopyName, Cond.native arraycopyName, Cond.static arraycopyName, Cond.initialized "java/lang/System"]
def wsL_authorise : List Cond := .codeWith yL_authorise cL_authorise 4 (some .int) [(0, 9, 12, 21), (0, 9, 15, 33), (0, 9, 18, 15)] :: ((wsL_authorise_r1 ++ (wsL_authorise_r2 ++ (wsL_authorise_r3 ++ (wsL_authorise_r4 ++ (wsL_authorise_r5 ++ wsL_authorise_r6))))) ++ wsX50 ++ wsX20 ++ wsJx4a65c0 ++ wsX00 ++ wsX10 ++ (vx_atS RX5 133 "java/lang/IllegalStateException" ["java/lang/RuntimeException", "java/lang/Exception"]).filter goodWord ++ (vx_atS RX5 198 "java/lang/IndexOutOfBoundsException" ["java/lang/RuntimeException", "java/lang/Exception"]).filter goodWord ++ (vx_atS RX5 51 "java/lang/UnsupportedOperationException" ["java/lang/RuntimeException", "java/lang/Exception"]).filter goodWord)
def wsL_refund_r1 : List Cond := [Cond.classLink RL 21 "java/lang/IndexOutOfBoundsException", Cond.classLink RL 33 "java/lang/IllegalStateException", Cond.methodLink RL 38 yX5_refund, Cond.instanceMethod yX5_refund, Cond.selects RX5 yX5_refund yX5_refund, Cond.initialized RX5, Cond.code yX5_refund cX5_refund 4 (some .int), Cond.classLink RX5 129 "java/lang/IllegalStateException", Cond.initialized "java/lang/IllegalStateException", Cond.fieldLink RX5 31 "PurseWorld" "archive" "LPurseWorld$Archive;", Cond.fieldLink RX5 155 "PurseWorld$Entry" "terms" "LPurseWorld$Transfer;", Cond.fieldLink RX5 158 "PurseWorld$Transfer" "payer" "I", Cond.fieldLink RX5 164 "PurseWorld$Transfer" "payee" "I", Cond.fieldLink RX5 169 "PurseWorld$Entry" "refunded" "Z", Cond.fieldLink RX5 179 "PurseWorld$Purse" "balance" "I", Cond.fieldLink RX5 182 "PurseWorld$Transfer" "amount" "I", Cond.methodLink RX5 151 yX5_entryAt, Cond.instanceMethod yX5_entryAt, Cond.selects RX5 yX5_entryAt yX5_entryAt, Cond.code yX5_entryAt cX5_entryAt 2 (some (.object "PurseWorld$Entry")), Cond.classLink RX5 194 "java/lang/IndexOutOfBoundsException", Cond.initialized "java/lang/IndexOutOfBoundsException", Cond.fieldLink RX5 207 "PurseWorld$Archive" "rows" "Ljava/util/ArrayList;", Cond.classLink RX5 156 "PurseWorld$Entry"]
def wsL_refund_r2 : List Cond := [Cond.methodLink RX5 150 yX0_size, Cond.instanceMethod yX0_size, Cond.selects RX0 yX0_size yX0_size, Cond.initialized RX0, Cond.code yX0_size cX0_size 1 (some .int), Cond.fieldLink RX0 10 "PurseWorld$Archive" "rows" "Ljava/util/ArrayList;", Cond.methodLink RX0 16 yJx4a65c_size_8abf5, Cond.instanceMethod yJx4a65c_size_8abf5, Cond.selects RJx4a65c yJx4a65c_size_8abf5 yJx4a65c_size_8abf5, Cond.initialized RJx4a65c, Cond.code yJx4a65c_size_8abf5 cJx4a65c_size_8abf5 1 (some .int), Cond.fieldLink RJx4a65c 48 "java/util/ArrayList" "size" "I", Cond.methodLink RX5 137 yJx4a65c_get_915e3, Cond.instanceMethod yJx4a65c_get_915e3, Cond.selects RJx4a65c yJx4a65c_get_915e3 yJx4a65c_get_915e3, Cond.code yJx4a65c_get_915e3 cJx4a65c_get_915e3 2 (some (.object "java/lang/Object")), Cond.methodLink RJx4a65c 118 yJ15_checkIndex_7cf53, Cond.static yJ15_checkIndex_7cf53, Cond.initialized RJ15, Cond.code yJ15_checkIndex_7cf53 cJ15_checkIndex_7cf53 2 (some .int), Cond.methodLink RJ15 105 yJ3_checkIndex_8e157, Cond.static yJ3_checkIndex_8e157, Cond.initialized RJ3, Cond.code yJ3_checkIndex_8e157 cJ3_checkIndex_8e157 3 (some .int)]
def wsL_refund_r3 : List Cond := [Cond.methodLink RJx4a65c 123 yJx4a65c_elementData_915e3, Cond.instanceMethod yJx4a65c_elementData_915e3, Cond.selects RJx4a65c yJx4a65c_elementData_915e3 yJx4a65c_elementData_915e3, Cond.code yJx4a65c_elementData_915e3 cJx4a65c_elementData_915e3 2 (some (.object "java/lang/Object")), Cond.fieldLink RJx4a65c 9 "java/util/ArrayList" "elementData" "[Ljava/lang/Object;", Cond.methodLink RX5 161 yX0_has, Cond.instanceMethod yX0_has, Cond.selects RX0 yX0_has yX0_has, Cond.code yX0_has cX0_has 3 (some .boolean), Cond.methodLink RX0 40 yX0_hadAmong, Cond.instanceMethod yX0_hadAmong, Cond.selects RX0 yX0_hadAmong yX0_hadAmong, Cond.code yX0_hadAmong cX0_hadAmong 6 (some .boolean), Cond.classLink RX0 24 "PurseWorld$Entry", Cond.fieldLink RX0 26 "PurseWorld$Entry" "teller" "I", Cond.fieldLink RX0 30 "PurseWorld$Entry" "terms" "LPurseWorld$Transfer;", Cond.methodLink RX0 20 yJx4a65c_get_915e3, Cond.methodLink RX0 34 yX4_same, Cond.instanceMethod yX4_same, Cond.selects RX4 yX4_same yX4_same, Cond.initialized RX4, Cond.code yX4_same cX4_same 2 (some .boolean), Cond.fieldLink RX4 7 "PurseWorld$Transfer" "payer" "I", Cond.fieldLink RX4 13 "PurseWorld$Transfer" "payerSerial" "I"]
def wsL_refund_r4 : List Cond := [Cond.fieldLink RX4 16 "PurseWorld$Transfer" "payee" "I", Cond.fieldLink RX4 19 "PurseWorld$Transfer" "payeeSerial" "I", Cond.fieldLink RX4 22 "PurseWorld$Transfer" "amount" "I", Cond.methodLink RX5 175 yX0_markRefunded, Cond.instanceMethod yX0_markRefunded, Cond.selects RX0 yX0_markRefunded yX0_markRefunded, Cond.code yX0_markRefunded cX0_markRefunded 4 none, Cond.fieldLink RX0 44 "PurseWorld$Entry" "refunded" "Z", Cond.methodLink RX5 61 yX5_purseAt, Cond.instanceMethod yX5_purseAt, Cond.selects RX5 yX5_purseAt yX5_purseAt, Cond.code yX5_purseAt cX5_purseAt 2 (some (.object "PurseWorld$Purse")), Cond.fieldLink RX5 21 "PurseWorld" "owners" "Ljava/util/ArrayList;", Cond.classLink RX5 52 "PurseWorld$Purse", Cond.methodLink RX5 43 yJx4a65c_size_8abf5]
def wsL_refund : List Cond := .codeWith yL_refund cL_refund 4 (some .int) [(0, 9, 12, 21), (0, 9, 15, 33)] :: ((wsL_refund_r1 ++ (wsL_refund_r2 ++ (wsL_refund_r3 ++ wsL_refund_r4))) ++ wsX50 ++ wsX10 ++ wsX40 ++ wsX30 ++ wsX00 ++ wsJx4a65c0 ++ (vx_atS RX5 133 "java/lang/IllegalStateException" ["java/lang/RuntimeException", "java/lang/Exception"]).filter goodWord ++ (vx_atS RX5 198 "java/lang/IndexOutOfBoundsException" ["java/lang/RuntimeException", "java/lang/Exception"]).filter goodWord)
def wsL_told_r1 : List Cond := [Cond.classLink RL 21 "java/lang/IndexOutOfBoundsException", Cond.classLink RL 13 "java/lang/IllegalArgumentException", Cond.methodLink RL 41 yX5_told, Cond.instanceMethod yX5_told, Cond.selects RX5 yX5_told yX5_told, Cond.initialized RX5, Cond.code yX5_told cX5_told 4 (some .int), Cond.classLink RX5 36 "java/lang/IllegalArgumentException", Cond.initialized "java/lang/IllegalArgumentException", Cond.fieldLink RX5 179 "PurseWorld$Purse" "balance" "I", Cond.fieldLink RX5 74 "PurseWorld$Purse" "serial" "I", Cond.fieldLink RX5 123 "PurseWorld$Purse" "state" "I", Cond.fieldLink RX5 134 "PurseWorld$Purse" "kept" "Ljava/util/ArrayList;", Cond.methodLink RX5 61 yX5_purseAt, Cond.instanceMethod yX5_purseAt, Cond.selects RX5 yX5_purseAt yX5_purseAt, Cond.code yX5_purseAt cX5_purseAt 2 (some (.object "PurseWorld$Purse")), Cond.classLink RX5 194 "java/lang/IndexOutOfBoundsException", Cond.initialized "java/lang/IndexOutOfBoundsException", Cond.fieldLink RX5 21 "PurseWorld" "owners" "Ljava/util/ArrayList;", Cond.classLink RX5 52 "PurseWorld$Purse", Cond.methodLink RX5 43 yJx4a65c_size_8abf5, Cond.instanceMethod yJx4a65c_size_8abf5, Cond.selects RJx4a65c yJx4a65c_size_8abf5 yJx4a65c_size_8abf5]
def wsL_told_r2 : List Cond := [Cond.initialized RJx4a65c, Cond.code yJx4a65c_size_8abf5 cJx4a65c_size_8abf5 1 (some .int), Cond.fieldLink RJx4a65c 48 "java/util/ArrayList" "size" "I", Cond.methodLink RX5 137 yJx4a65c_get_915e3, Cond.instanceMethod yJx4a65c_get_915e3, Cond.selects RJx4a65c yJx4a65c_get_915e3 yJx4a65c_get_915e3, Cond.code yJx4a65c_get_915e3 cJx4a65c_get_915e3 2 (some (.object "java/lang/Object")), Cond.methodLink RJx4a65c 118 yJ15_checkIndex_7cf53, Cond.static yJ15_checkIndex_7cf53, Cond.initialized RJ15, Cond.code yJ15_checkIndex_7cf53 cJ15_checkIndex_7cf53 2 (some .int), Cond.methodLink RJ15 105 yJ3_checkIndex_8e157, Cond.static yJ3_checkIndex_8e157, Cond.initialized RJ3, Cond.code yJ3_checkIndex_8e157 cJ3_checkIndex_8e157 3 (some .int), Cond.methodLink RJx4a65c 123 yJx4a65c_elementData_915e3, Cond.instanceMethod yJx4a65c_elementData_915e3, Cond.selects RJx4a65c yJx4a65c_elementData_915e3 yJx4a65c_elementData_915e3, Cond.code yJx4a65c_elementData_915e3 cJx4a65c_elementData_915e3 2 (some (.object "java/lang/Object")), Cond.fieldLink RJx4a65c 9 "java/util/ArrayList" "elementData" "[Ljava/lang/Object;"]
def wsL_told : List Cond := .codeWith yL_told cL_told 5 (some .int) [(0, 10, 13, 21), (0, 10, 17, 13)] :: ((wsL_told_r1 ++ wsL_told_r2) ++ wsX30 ++ wsX50 ++ wsJx4a65c0 ++ (vx_atS RX5 40 "java/lang/IllegalArgumentException" ["java/lang/RuntimeException", "java/lang/Exception"]).filter goodWord ++ (vx_atS RX5 198 "java/lang/IndexOutOfBoundsException" ["java/lang/RuntimeException", "java/lang/Exception"]).filter goodWord)
def wsL_transfer_r1 : List Cond := [Cond.classLink RL 21 "java/lang/IndexOutOfBoundsException", Cond.classLink RL 13 "java/lang/IllegalArgumentException", Cond.methodLink RL 45 yX5_transfer, Cond.instanceMethod yX5_transfer, Cond.selects RX5 yX5_transfer yX5_transfer, Cond.initialized RX5, Cond.code yX5_transfer cX5_transfer 3 (some .int), Cond.fieldLink RX5 187 "PurseWorld$Purse" "current" "LPurseWorld$Transfer;", Cond.methodLink RX5 61 yX5_purseAt, Cond.instanceMethod yX5_purseAt, Cond.selects RX5 yX5_purseAt yX5_purseAt, Cond.code yX5_purseAt cX5_purseAt 2 (some (.object "PurseWorld$Purse")), Cond.classLink RX5 194 "java/lang/IndexOutOfBoundsException", Cond.initialized "java/lang/IndexOutOfBoundsException", Cond.fieldLink RX5 21 "PurseWorld" "owners" "Ljava/util/ArrayList;", Cond.classLink RX5 52 "PurseWorld$Purse", Cond.methodLink RX5 43 yJx4a65c_size_8abf5, Cond.instanceMethod yJx4a65c_size_8abf5, Cond.selects RJx4a65c yJx4a65c_size_8abf5 yJx4a65c_size_8abf5, Cond.initialized RJx4a65c, Cond.code yJx4a65c_size_8abf5 cJx4a65c_size_8abf5 1 (some .int), Cond.fieldLink RJx4a65c 48 "java/util/ArrayList" "size" "I", Cond.methodLink RX5 137 yJx4a65c_get_915e3, Cond.instanceMethod yJx4a65c_get_915e3]
def wsL_transfer_r2 : List Cond := [Cond.selects RJx4a65c yJx4a65c_get_915e3 yJx4a65c_get_915e3, Cond.code yJx4a65c_get_915e3 cJx4a65c_get_915e3 2 (some (.object "java/lang/Object")), Cond.methodLink RJx4a65c 118 yJ15_checkIndex_7cf53, Cond.static yJ15_checkIndex_7cf53, Cond.initialized RJ15, Cond.code yJ15_checkIndex_7cf53 cJ15_checkIndex_7cf53 2 (some .int), Cond.methodLink RJ15 105 yJ3_checkIndex_8e157, Cond.static yJ3_checkIndex_8e157, Cond.initialized RJ3, Cond.code yJ3_checkIndex_8e157 cJ3_checkIndex_8e157 3 (some .int), Cond.methodLink RJx4a65c 123 yJx4a65c_elementData_915e3, Cond.instanceMethod yJx4a65c_elementData_915e3, Cond.selects RJx4a65c yJx4a65c_elementData_915e3 yJx4a65c_elementData_915e3, Cond.code yJx4a65c_elementData_915e3 cJx4a65c_elementData_915e3 2 (some (.object "java/lang/Object")), Cond.fieldLink RJx4a65c 9 "java/util/ArrayList" "elementData" "[Ljava/lang/Object;", Cond.methodLink RX5 190 yX5_partOf, Cond.static yX5_partOf, Cond.code yX5_partOf cX5_partOf 2 (some .int), Cond.classLink RX5 36 "java/lang/IllegalArgumentException", Cond.initialized "java/lang/IllegalArgumentException", Cond.fieldLink RX5 158 "PurseWorld$Transfer" "payer" "I", Cond.fieldLink RX5 220 "PurseWorld$Transfer" "payerSerial" "I", Cond.fieldLink RX5 164 "PurseWorld$Transfer" "payee" "I", Cond.fieldLink RX5 223 "PurseWorld$Transfer" "payeeSerial" "I"]
def wsL_transfer_r3 : List Cond := [Cond.fieldLink RX5 182 "PurseWorld$Transfer" "amount" "I"]
def wsL_transfer : List Cond := .codeWith yL_transfer cL_transfer 5 (some .int) [(0, 10, 13, 21), (0, 10, 17, 13)] :: ((wsL_transfer_r1 ++ (wsL_transfer_r2 ++ wsL_transfer_r3)) ++ wsX30 ++ wsX50 ++ wsJx4a65c0 ++ wsX40 ++ (vx_atS RX5 198 "java/lang/IndexOutOfBoundsException" ["java/lang/RuntimeException", "java/lang/Exception"]).filter goodWord ++ (vx_atS RX5 40 "java/lang/IllegalArgumentException" ["java/lang/RuntimeException", "java/lang/Exception"]).filter goodWord)
def wsL_log_r1 : List Cond := [Cond.classLink RL 21 "java/lang/IndexOutOfBoundsException", Cond.classLink RL 13 "java/lang/IllegalArgumentException", Cond.methodLink RL 48 yX5_log, Cond.instanceMethod yX5_log, Cond.selects RX5 yX5_log yX5_log, Cond.initialized RX5, Cond.code yX5_log cX5_log 5 (some .int), Cond.classLink RX5 194 "java/lang/IndexOutOfBoundsException", Cond.initialized "java/lang/IndexOutOfBoundsException", Cond.fieldLink RX5 134 "PurseWorld$Purse" "kept" "Ljava/util/ArrayList;", Cond.classLink RX5 7 "PurseWorld$Transfer", Cond.methodLink RX5 61 yX5_purseAt, Cond.instanceMethod yX5_purseAt, Cond.selects RX5 yX5_purseAt yX5_purseAt, Cond.code yX5_purseAt cX5_purseAt 2 (some (.object "PurseWorld$Purse")), Cond.fieldLink RX5 21 "PurseWorld" "owners" "Ljava/util/ArrayList;", Cond.classLink RX5 52 "PurseWorld$Purse", Cond.methodLink RX5 43 yJx4a65c_size_8abf5, Cond.instanceMethod yJx4a65c_size_8abf5, Cond.selects RJx4a65c yJx4a65c_size_8abf5 yJx4a65c_size_8abf5, Cond.initialized RJx4a65c, Cond.code yJx4a65c_size_8abf5 cJx4a65c_size_8abf5 1 (some .int), Cond.fieldLink RJx4a65c 48 "java/util/ArrayList" "size" "I", Cond.methodLink RX5 137 yJx4a65c_get_915e3]
def wsL_log_r2 : List Cond := [Cond.instanceMethod yJx4a65c_get_915e3, Cond.selects RJx4a65c yJx4a65c_get_915e3 yJx4a65c_get_915e3, Cond.code yJx4a65c_get_915e3 cJx4a65c_get_915e3 2 (some (.object "java/lang/Object")), Cond.methodLink RJx4a65c 118 yJ15_checkIndex_7cf53, Cond.static yJ15_checkIndex_7cf53, Cond.initialized RJ15, Cond.code yJ15_checkIndex_7cf53 cJ15_checkIndex_7cf53 2 (some .int), Cond.methodLink RJ15 105 yJ3_checkIndex_8e157, Cond.static yJ3_checkIndex_8e157, Cond.initialized RJ3, Cond.code yJ3_checkIndex_8e157 cJ3_checkIndex_8e157 3 (some .int), Cond.methodLink RJx4a65c 123 yJx4a65c_elementData_915e3, Cond.instanceMethod yJx4a65c_elementData_915e3, Cond.selects RJx4a65c yJx4a65c_elementData_915e3 yJx4a65c_elementData_915e3, Cond.code yJx4a65c_elementData_915e3 cJx4a65c_elementData_915e3 2 (some (.object "java/lang/Object")), Cond.fieldLink RJx4a65c 9 "java/util/ArrayList" "elementData" "[Ljava/lang/Object;", Cond.methodLink RX5 190 yX5_partOf, Cond.static yX5_partOf, Cond.code yX5_partOf cX5_partOf 2 (some .int), Cond.classLink RX5 36 "java/lang/IllegalArgumentException", Cond.initialized "java/lang/IllegalArgumentException", Cond.fieldLink RX5 158 "PurseWorld$Transfer" "payer" "I", Cond.fieldLink RX5 220 "PurseWorld$Transfer" "payerSerial" "I", Cond.fieldLink RX5 164 "PurseWorld$Transfer" "payee" "I"]
def wsL_log_r3 : List Cond := [Cond.fieldLink RX5 223 "PurseWorld$Transfer" "payeeSerial" "I", Cond.fieldLink RX5 182 "PurseWorld$Transfer" "amount" "I"]
def wsL_log : List Cond := .codeWith yL_log cL_log 6 (some .int) [(0, 12, 15, 21), (0, 12, 19, 13)] :: ((wsL_log_r1 ++ (wsL_log_r2 ++ wsL_log_r3)) ++ wsX30 ++ wsX50 ++ wsJx4a65c0 ++ wsX40 ++ (vx_atS RX5 198 "java/lang/IndexOutOfBoundsException" ["java/lang/RuntimeException", "java/lang/Exception"]).filter goodWord ++ (vx_atS RX5 40 "java/lang/IllegalArgumentException" ["java/lang/RuntimeException", "java/lang/Exception"]).filter goodWord)
def wsL_message_r1 : List Cond := [Cond.classLink RL 21 "java/lang/IndexOutOfBoundsException", Cond.classLink RL 13 "java/lang/IllegalArgumentException", Cond.methodLink RL 51 yX5_message, Cond.instanceMethod yX5_message, Cond.selects RX5 yX5_message yX5_message, Cond.initialized RX5, Cond.code yX5_message cX5_message 4 (some .int), Cond.fieldLink RX5 90 "PurseWorld$Message" "kind" "I", Cond.fieldLink RX5 199 "PurseWorld$Message" "to" "I", Cond.fieldLink RX5 113 "PurseWorld$Message" "terms" "LPurseWorld$Transfer;", Cond.methodLink RX5 82 yX5_messageAt, Cond.instanceMethod yX5_messageAt, Cond.selects RX5 yX5_messageAt yX5_messageAt, Cond.code yX5_messageAt cX5_messageAt 2 (some (.object "PurseWorld$Message")), Cond.classLink RX5 194 "java/lang/IndexOutOfBoundsException", Cond.initialized "java/lang/IndexOutOfBoundsException", Cond.fieldLink RX5 25 "PurseWorld" "sent" "Ljava/util/ArrayList;", Cond.classLink RX5 91 "PurseWorld$Message", Cond.methodLink RX5 43 yJx4a65c_size_8abf5, Cond.instanceMethod yJx4a65c_size_8abf5, Cond.selects RJx4a65c yJx4a65c_size_8abf5 yJx4a65c_size_8abf5, Cond.initialized RJx4a65c, Cond.code yJx4a65c_size_8abf5 cJx4a65c_size_8abf5 1 (some .int), Cond.fieldLink RJx4a65c 48 "java/util/ArrayList" "size" "I"]
def wsL_message_r2 : List Cond := [Cond.methodLink RX5 137 yJx4a65c_get_915e3, Cond.instanceMethod yJx4a65c_get_915e3, Cond.selects RJx4a65c yJx4a65c_get_915e3 yJx4a65c_get_915e3, Cond.code yJx4a65c_get_915e3 cJx4a65c_get_915e3 2 (some (.object "java/lang/Object")), Cond.methodLink RJx4a65c 118 yJ15_checkIndex_7cf53, Cond.static yJ15_checkIndex_7cf53, Cond.initialized RJ15, Cond.code yJ15_checkIndex_7cf53 cJ15_checkIndex_7cf53 2 (some .int), Cond.methodLink RJ15 105 yJ3_checkIndex_8e157, Cond.static yJ3_checkIndex_8e157, Cond.initialized RJ3, Cond.code yJ3_checkIndex_8e157 cJ3_checkIndex_8e157 3 (some .int), Cond.methodLink RJx4a65c 123 yJx4a65c_elementData_915e3, Cond.instanceMethod yJx4a65c_elementData_915e3, Cond.selects RJx4a65c yJx4a65c_elementData_915e3 yJx4a65c_elementData_915e3, Cond.code yJx4a65c_elementData_915e3 cJx4a65c_elementData_915e3 2 (some (.object "java/lang/Object")), Cond.fieldLink RJx4a65c 9 "java/util/ArrayList" "elementData" "[Ljava/lang/Object;", Cond.methodLink RX5 190 yX5_partOf, Cond.static yX5_partOf, Cond.code yX5_partOf cX5_partOf 2 (some .int), Cond.classLink RX5 36 "java/lang/IllegalArgumentException", Cond.initialized "java/lang/IllegalArgumentException", Cond.fieldLink RX5 158 "PurseWorld$Transfer" "payer" "I", Cond.fieldLink RX5 220 "PurseWorld$Transfer" "payerSerial" "I"]
def wsL_message_r3 : List Cond := [Cond.fieldLink RX5 164 "PurseWorld$Transfer" "payee" "I", Cond.fieldLink RX5 223 "PurseWorld$Transfer" "payeeSerial" "I", Cond.fieldLink RX5 182 "PurseWorld$Transfer" "amount" "I"]
def wsL_message : List Cond := .codeWith yL_message cL_message 5 (some .int) [(0, 10, 13, 21), (0, 10, 17, 13)] :: ((wsL_message_r1 ++ (wsL_message_r2 ++ wsL_message_r3)) ++ wsX20 ++ wsX50 ++ wsJx4a65c0 ++ wsX40 ++ (vx_atS RX5 198 "java/lang/IndexOutOfBoundsException" ["java/lang/RuntimeException", "java/lang/Exception"]).filter goodWord ++ (vx_atS RX5 40 "java/lang/IllegalArgumentException" ["java/lang/RuntimeException", "java/lang/Exception"]).filter goodWord)
def wsL_entry_r1 : List Cond := [Cond.classLink RL 21 "java/lang/IndexOutOfBoundsException", Cond.classLink RL 13 "java/lang/IllegalArgumentException", Cond.methodLink RL 54 yX5_entry, Cond.instanceMethod yX5_entry, Cond.selects RX5 yX5_entry yX5_entry, Cond.initialized RX5, Cond.code yX5_entry cX5_entry 4 (some .int), Cond.fieldLink RX5 202 "PurseWorld$Entry" "teller" "I", Cond.fieldLink RX5 169 "PurseWorld$Entry" "refunded" "Z", Cond.fieldLink RX5 155 "PurseWorld$Entry" "terms" "LPurseWorld$Transfer;", Cond.methodLink RX5 151 yX5_entryAt, Cond.instanceMethod yX5_entryAt, Cond.selects RX5 yX5_entryAt yX5_entryAt, Cond.code yX5_entryAt cX5_entryAt 2 (some (.object "PurseWorld$Entry")), Cond.classLink RX5 194 "java/lang/IndexOutOfBoundsException", Cond.initialized "java/lang/IndexOutOfBoundsException", Cond.fieldLink RX5 31 "PurseWorld" "archive" "LPurseWorld$Archive;", Cond.fieldLink RX5 207 "PurseWorld$Archive" "rows" "Ljava/util/ArrayList;", Cond.classLink RX5 156 "PurseWorld$Entry", Cond.methodLink RX5 150 yX0_size, Cond.instanceMethod yX0_size, Cond.selects RX0 yX0_size yX0_size, Cond.initialized RX0, Cond.code yX0_size cX0_size 1 (some .int)]
def wsL_entry_r2 : List Cond := [Cond.fieldLink RX0 10 "PurseWorld$Archive" "rows" "Ljava/util/ArrayList;", Cond.methodLink RX0 16 yJx4a65c_size_8abf5, Cond.instanceMethod yJx4a65c_size_8abf5, Cond.selects RJx4a65c yJx4a65c_size_8abf5 yJx4a65c_size_8abf5, Cond.initialized RJx4a65c, Cond.code yJx4a65c_size_8abf5 cJx4a65c_size_8abf5 1 (some .int), Cond.fieldLink RJx4a65c 48 "java/util/ArrayList" "size" "I", Cond.methodLink RX5 137 yJx4a65c_get_915e3, Cond.instanceMethod yJx4a65c_get_915e3, Cond.selects RJx4a65c yJx4a65c_get_915e3 yJx4a65c_get_915e3, Cond.code yJx4a65c_get_915e3 cJx4a65c_get_915e3 2 (some (.object "java/lang/Object")), Cond.methodLink RJx4a65c 118 yJ15_checkIndex_7cf53, Cond.static yJ15_checkIndex_7cf53, Cond.initialized RJ15, Cond.code yJ15_checkIndex_7cf53 cJ15_checkIndex_7cf53 2 (some .int), Cond.methodLink RJ15 105 yJ3_checkIndex_8e157, Cond.static yJ3_checkIndex_8e157, Cond.initialized RJ3, Cond.code yJ3_checkIndex_8e157 cJ3_checkIndex_8e157 3 (some .int), Cond.methodLink RJx4a65c 123 yJx4a65c_elementData_915e3, Cond.instanceMethod yJx4a65c_elementData_915e3, Cond.selects RJx4a65c yJx4a65c_elementData_915e3 yJx4a65c_elementData_915e3, Cond.code yJx4a65c_elementData_915e3 cJx4a65c_elementData_915e3 2 (some (.object "java/lang/Object")), Cond.fieldLink RJx4a65c 9 "java/util/ArrayList" "elementData" "[Ljava/lang/Object;"]
def wsL_entry_r3 : List Cond := [Cond.methodLink RX5 190 yX5_partOf, Cond.static yX5_partOf, Cond.code yX5_partOf cX5_partOf 2 (some .int), Cond.classLink RX5 36 "java/lang/IllegalArgumentException", Cond.initialized "java/lang/IllegalArgumentException", Cond.fieldLink RX5 158 "PurseWorld$Transfer" "payer" "I", Cond.fieldLink RX5 220 "PurseWorld$Transfer" "payerSerial" "I", Cond.fieldLink RX5 164 "PurseWorld$Transfer" "payee" "I", Cond.fieldLink RX5 223 "PurseWorld$Transfer" "payeeSerial" "I", Cond.fieldLink RX5 182 "PurseWorld$Transfer" "amount" "I"]
def wsL_entry : List Cond := .codeWith yL_entry cL_entry 5 (some .int) [(0, 10, 13, 21), (0, 10, 17, 13)] :: ((wsL_entry_r1 ++ (wsL_entry_r2 ++ wsL_entry_r3)) ++ wsX10 ++ wsX50 ++ wsX00 ++ wsJx4a65c0 ++ wsX40 ++ (vx_atS RX5 198 "java/lang/IndexOutOfBoundsException" ["java/lang/RuntimeException", "java/lang/Exception"]).filter goodWord ++ (vx_atS RX5 40 "java/lang/IllegalArgumentException" ["java/lang/RuntimeException", "java/lang/Exception"]).filter goodWord)
def wsL_law0_r1 : List Cond := [Cond.classLink RL 8 RX5, Cond.instantiable RX5 4, Cond.initialized RX5, Cond.classLink RL 58 RX6, Cond.instantiable RX6 14, Cond.initialized RX6, Cond.arrayClass .long, Cond.methodLink RL 57 yX5_init, Cond.instanceMethod yX5_init, Cond.code yX5_init cX5_init 1 none, Cond.methodLink RX5 1 objectInit, Cond.instanceMethod objectInit, Cond.code objectInit ⟨#[0xb1]⟩ 1 none, Cond.classLink RX5 7 RX4, Cond.instantiable RX4 5, Cond.initialized RX4, Cond.fieldLink RX5 14 "PurseWorld" "nothing" "LPurseWorld$Transfer;", Cond.classLink RX5 18 RJx4a65c, Cond.instantiable RJx4a65c 3, Cond.initialized RJx4a65c, Cond.fieldLink RX5 21 "PurseWorld" "owners" "Ljava/util/ArrayList;", Cond.fieldLink RX5 25 "PurseWorld" "sent" "Ljava/util/ArrayList;", Cond.classLink RX5 28 RX0, Cond.instantiable RX0 1]
def wsL_law0_r2 : List Cond := [Cond.initialized RX0, Cond.fieldLink RX5 31 "PurseWorld" "archive" "LPurseWorld$Archive;", Cond.methodLink RX5 11 yX4_init, Cond.instanceMethod yX4_init, Cond.code yX4_init cX4_init 6 none, Cond.methodLink RX4 1 objectInit, Cond.fieldLink RX4 7 "PurseWorld$Transfer" "payer" "I", Cond.fieldLink RX4 13 "PurseWorld$Transfer" "payerSerial" "I", Cond.fieldLink RX4 16 "PurseWorld$Transfer" "payee" "I", Cond.fieldLink RX4 19 "PurseWorld$Transfer" "payeeSerial" "I", Cond.fieldLink RX4 22 "PurseWorld$Transfer" "amount" "I", Cond.methodLink RX5 20 yJx4a65c_init_da8c8, Cond.instanceMethod yJx4a65c_init_da8c8, Cond.code yJx4a65c_init_da8c8 cJx4a65c_init_da8c8 1 none, Cond.fieldLink RJx4a65c 39 "java/util/ArrayList" "DEFAULTCAPACITY_EMPTY_ELEMENTDATA" "[Ljava/lang/Object;", Cond.fieldLink RJx4a65c 9 "java/util/ArrayList" "elementData" "[Ljava/lang/Object;", Cond.methodLink RJx4a65c 1 yJxc12de_init_da8c8, Cond.instanceMethod yJxc12de_init_da8c8, Cond.initialized RJxc12de, Cond.code yJxc12de_init_da8c8 cJxc12de_init_da8c8 1 none, Cond.fieldLink RJxc12de 7 "java/util/AbstractList" "modCount" "I", Cond.methodLink RJxc12de 1 yJxa1e45_init_da8c8, Cond.instanceMethod yJxa1e45_init_da8c8, Cond.initialized RJxa1e45]
def wsL_law0_r3 : List Cond := [Cond.code yJxa1e45_init_da8c8 cJxa1e45_init_da8c8 1 none, Cond.methodLink RJxa1e45 1 objectInit, Cond.methodLink RX5 30 yX0_init, Cond.instanceMethod yX0_init, Cond.code yX0_init cX0_init 1 none, Cond.methodLink RX0 1 objectInit, Cond.classLink RX0 7 RJx4a65c, Cond.fieldLink RX0 10 "PurseWorld$Archive" "rows" "Ljava/util/ArrayList;", Cond.methodLink RX0 9 yJx4a65c_init_da8c8, Cond.methodLink RL 60 yX6_init, Cond.instanceMethod yX6_init, Cond.code yX6_init cX6_init 1 none, Cond.methodLink RX6 1 objectInit, Cond.arrayClass .int, Cond.fieldLink RX6 7 "PurseWorldModel" "balances" "[I", Cond.fieldLink RX6 13 "PurseWorldModel" "serials" "[I", Cond.fieldLink RX6 16 "PurseWorldModel" "states" "[I", Cond.fieldLink RX6 19 "PurseWorldModel" "logSize" "[I", Cond.fieldLink RX6 22 "PurseWorldModel" "kinds" "[I", Cond.fieldLink RX6 25 "PurseWorldModel" "targets" "[I", Cond.fieldLink RX6 28 "PurseWorldModel" "of" "[I", Cond.fieldLink RX6 31 "PurseWorldModel" "tellers" "[I", Cond.arrayClass .boolean, Cond.fieldLink RX6 34 "PurseWorldModel" "refunded" "[Z"]
def wsL_law0_r4 : List Cond := [Cond.fieldLink RX6 38 "PurseWorldModel" "transfers" "[I", Cond.methodLink RL 61 yL_purse, Cond.static yL_purse, Cond.initialized RL, Cond.codeWith yL_purse cL_purse 4 (some .int) [(0, 9, 12, 13), (0, 9, 15, 15)], Cond.classLink RL 13 "java/lang/IllegalArgumentException", Cond.classLink RL 15 "java/lang/UnsupportedOperationException", Cond.methodLink RL 7 yX5_purse, Cond.instanceMethod yX5_purse, Cond.selects RX5 yX5_purse yX5_purse, Cond.code yX5_purse cX5_purse 3 (some .int), Cond.classLink RX5 36 "java/lang/IllegalArgumentException", Cond.initialized "java/lang/IllegalArgumentException", Cond.classLink RX5 47 "java/lang/UnsupportedOperationException", Cond.initialized "java/lang/UnsupportedOperationException", Cond.constant RX5 35 (1000000000), Cond.classLink RX5 52 RX3, Cond.instantiable RX3 7, Cond.initialized RX3, Cond.methodLink RX5 43 yJx4a65c_size_8abf5, Cond.instanceMethod yJx4a65c_size_8abf5, Cond.selects RJx4a65c yJx4a65c_size_8abf5 yJx4a65c_size_8abf5, Cond.code yJx4a65c_size_8abf5 cJx4a65c_size_8abf5 1 (some .int), Cond.fieldLink RJx4a65c 48 "java/util/ArrayList" "size" "I"]
def wsL_law0_r5 : List Cond := [Cond.methodLink RX5 54 yX3_init, Cond.instanceMethod yX3_init, Cond.code yX3_init cX3_init 4 none, Cond.methodLink RX3 3 objectInit, Cond.fieldLink RX3 9 "PurseWorld$Purse" "number" "I", Cond.fieldLink RX3 15 "PurseWorld$Purse" "balance" "I", Cond.fieldLink RX3 18 "PurseWorld$Purse" "nothing" "LPurseWorld$Transfer;", Cond.classLink RX3 22 RJx4a65c, Cond.fieldLink RX3 25 "PurseWorld$Purse" "kept" "Ljava/util/ArrayList;", Cond.fieldLink RX3 29 "PurseWorld$Purse" "serial" "I", Cond.fieldLink RX3 32 "PurseWorld$Purse" "state" "I", Cond.fieldLink RX3 35 "PurseWorld$Purse" "current" "LPurseWorld$Transfer;", Cond.methodLink RX3 24 yJx4a65c_init_da8c8, Cond.methodLink RX5 57 yJx4a65c_add_9ea2d, Cond.instanceMethod yJx4a65c_add_9ea2d, Cond.selects RJx4a65c yJx4a65c_add_9ea2d yJx4a65c_add_9ea2d, Cond.code yJx4a65c_add_9ea2d cJx4a65c_add_9ea2d 2 (some .boolean), Cond.fieldLink RJx4a65c 63 "java/util/ArrayList" "modCount" "I", Cond.sameField "java/util/ArrayList" "java/util/AbstractList" "modCount" "I", Cond.methodLink RJx4a65c 131 yJx4a65c_add_72be8, Cond.instanceMethod yJx4a65c_add_72be8, Cond.selects RJx4a65c yJx4a65c_add_72be8 yJx4a65c_add_72be8, Cond.code yJx4a65c_add_72be8 cJx4a65c_add_72be8 4 none, Cond.methodLink RJx4a65c 129 yJx4a65c_grow_d5877]
def wsL_law0_r6 : List Cond := [Cond.instanceMethod yJx4a65c_grow_d5877, Cond.selects RJx4a65c yJx4a65c_grow_d5877 yJx4a65c_grow_d5877, Cond.code yJx4a65c_grow_d5877 cJx4a65c_grow_d5877 1 (some (.array (.object "java/lang/Object"))), Cond.methodLink RJx4a65c 69 yJx4a65c_grow_92f84, Cond.instanceMethod yJx4a65c_grow_92f84, Cond.selects RJx4a65c yJx4a65c_grow_92f84 yJx4a65c_grow_92f84, Cond.code yJx4a65c_grow_92f84 cJx4a65c_grow_92f84 4 (some (.array (.object "java/lang/Object"))), Cond.methodLink RJx4a65c 79 Lib.Math.max.name, Cond.static Lib.Math.max.name, Cond.initialized "java/lang/Math", Cond.code Lib.Math.max.name Lib.Math.max.code 2 (some .int), Cond.classLink RJx4a65c 7 "java/lang/Object", Cond.methodLink RJx4a65c 73 yJ8_newLength_cabcc, Cond.static yJ8_newLength_cabcc, Cond.initialized RJ8, Cond.code yJ8_newLength_cabcc cJ8_newLength_cabcc 4 (some .int), Cond.methodLink RJ8 194 Lib.Math.max.name, Cond.constant RJ8 200 (2147483639), Cond.methodLink RJ8 201 yJ8_hugeLength_7cf53, Cond.static yJ8_hugeLength_7cf53, Cond.code yJ8_hugeLength_7cf53 cJ8_hugeLength_7cf53 3 (some .int), Cond.methodLink RJx4a65c 66 yJ7_copyOf_1904c, Cond.static yJ7_copyOf_1904c, Cond.initialized RJ7]
def wsL_law0_r7 : List Cond := [Cond.code yJ7_copyOf_1904c cJ7_copyOf_1904c 2 (some (.array (.object "java/lang/Object"))), Cond.methodLink RJ7 86 ⟨"java/lang/Object", "getClass", "()Ljava/lang/Class;"⟩, Cond.selects "[Ljava/lang/Object;" ⟨"java/lang/Object", "getClass", "()Ljava/lang/Class;"⟩ ⟨"java/lang/Object", "getClass", "()Ljava/lang/Class;"⟩, Cond.instanceMethod ⟨"java/lang/Object", "getClass", "()Ljava/lang/Class;"⟩, Cond.native ⟨"java/lang/Object", "getClass", "()Ljava/lang/Class;"⟩, Cond.methodLink RJ7 300 yJ7_copyOf_6403c, Cond.static yJ7_copyOf_6403c, Cond.code yJ7_copyOf_6403c cJ7_copyOf_6403c 4 (some (.array (.object "java/lang/Object"))), Cond.classLink RJ7 110 "[Ljava/lang/Object;", Cond.classLink RJ7 2 "java/lang/Object", Cond.methodLink RJ7 304 Lib.Math.min.name, Cond.static Lib.Math.min.name, Cond.code Lib.Math.min.name Lib.Math.min.code 2 (some .int), Cond.methodLink RJ7 150 arraycopyName, Cond.native arraycopyName, Cond.static arraycopyName, Cond.initialized "java/lang/System", Cond.methodLink RL 66 yX6_purse, Cond.instanceMethod yX6_purse, Cond.selects RX6 yX6_purse yX6_purse, Cond.code yX6_purse cX6_purse 2 (some .int), Cond.constant RX6 84 (1000000000), Cond.fieldLink RX6 45 "PurseWorldModel" "purses" "I", Cond.fieldLink RX6 41 "PurseWorldModel" "code" "I"]
def wsL_law0_r8 : List Cond := [Cond.methodLink RX6 48 yX6_in, Cond.static yX6_in, Cond.code yX6_in cX6_in 3 (some .boolean), Cond.methodLink RL 67 yX6_thrown, Cond.instanceMethod yX6_thrown, Cond.selects RX6 yX6_thrown yX6_thrown, Cond.code yX6_thrown cX6_thrown 1 (some .int), Cond.methodLink RL 71 yL_begin, Cond.static yL_begin, Cond.codeWith yL_begin cL_begin 6 (some .int) [(0, 12, 15, 21), (0, 12, 19, 13), (0, 12, 23, 15)], Cond.classLink RL 21 "java/lang/IndexOutOfBoundsException", Cond.methodLink RL 17 yX5_begin, Cond.instanceMethod yX5_begin, Cond.selects RX5 yX5_begin yX5_begin, Cond.code yX5_begin cX5_begin 7 (some .int), Cond.constant RX5 67 (1000000), Cond.fieldLink RX5 74 "PurseWorld$Purse" "serial" "I", Cond.methodLink RX5 61 yX5_purseAt, Cond.instanceMethod yX5_purseAt, Cond.selects RX5 yX5_purseAt yX5_purseAt, Cond.code yX5_purseAt cX5_purseAt 2 (some (.object "PurseWorld$Purse")), Cond.classLink RX5 194 "java/lang/IndexOutOfBoundsException", Cond.initialized "java/lang/IndexOutOfBoundsException", Cond.classLink RX5 52 "PurseWorld$Purse"]
def wsL_law0_r9 : List Cond := [Cond.methodLink RX5 137 yJx4a65c_get_915e3, Cond.instanceMethod yJx4a65c_get_915e3, Cond.selects RJx4a65c yJx4a65c_get_915e3 yJx4a65c_get_915e3, Cond.code yJx4a65c_get_915e3 cJx4a65c_get_915e3 2 (some (.object "java/lang/Object")), Cond.methodLink RJx4a65c 118 yJ15_checkIndex_7cf53, Cond.static yJ15_checkIndex_7cf53, Cond.initialized RJ15, Cond.code yJ15_checkIndex_7cf53 cJ15_checkIndex_7cf53 2 (some .int), Cond.methodLink RJ15 105 yJ3_checkIndex_8e157, Cond.static yJ3_checkIndex_8e157, Cond.initialized RJ3, Cond.code yJ3_checkIndex_8e157 cJ3_checkIndex_8e157 3 (some .int), Cond.methodLink RJx4a65c 123 yJx4a65c_elementData_915e3, Cond.instanceMethod yJx4a65c_elementData_915e3, Cond.selects RJx4a65c yJx4a65c_elementData_915e3 yJx4a65c_elementData_915e3, Cond.code yJx4a65c_elementData_915e3 cJx4a65c_elementData_915e3 2 (some (.object "java/lang/Object")), Cond.methodLink RX5 70 yX5_needRoomFor, Cond.instanceMethod yX5_needRoomFor, Cond.selects RX5 yX5_needRoomFor yX5_needRoomFor, Cond.code yX5_needRoomFor cX5_needRoomFor 2 none, Cond.methodLink RX5 78 yX5_send, Cond.instanceMethod yX5_send, Cond.selects RX5 yX5_send yX5_send, Cond.code yX5_send cX5_send 5 (some .int)]
def wsL_law0_r10 : List Cond := [Cond.classLink RX5 91 RX2, Cond.instantiable RX2 5, Cond.initialized RX2, Cond.methodLink RX5 141 yX2_init, Cond.instanceMethod yX2_init, Cond.code yX2_init cX2_init 6 none, Cond.methodLink RX2 1 objectInit, Cond.fieldLink RX2 7 "PurseWorld$Message" "kind" "I", Cond.fieldLink RX2 13 "PurseWorld$Message" "to" "I", Cond.fieldLink RX2 16 "PurseWorld$Message" "terms" "LPurseWorld$Transfer;", Cond.fieldLink RX2 20 "PurseWorld$Message" "teller" "I", Cond.fieldLink RX2 23 "PurseWorld$Message" "archived" "I", Cond.methodLink RL 74 yX6_begin, Cond.instanceMethod yX6_begin, Cond.selects RX6 yX6_begin yX6_begin, Cond.code yX6_begin cX6_begin 4 (some .int), Cond.constant RX6 89 (1000000), Cond.fieldLink RX6 59 "PurseWorldModel" "messages" "I", Cond.methodLink RX6 85 yX6_isPurse, Cond.instanceMethod yX6_isPurse, Cond.selects RX6 yX6_isPurse yX6_isPurse, Cond.code yX6_isPurse cX6_isPurse 2 (some .boolean), Cond.methodLink RX6 90 yX6_lay, Cond.instanceMethod yX6_lay]
def wsL_law0_r11 : List Cond := [Cond.selects RX6 yX6_lay yX6_lay, Cond.code yX6_lay cX6_lay 7 none, Cond.methodLink RX6 74 yX6_send, Cond.instanceMethod yX6_send, Cond.selects RX6 yX6_send yX6_send, Cond.code yX6_send cX6_send 4 none, Cond.methodLink RX6 62 yX6_copy, Cond.instanceMethod yX6_copy, Cond.selects RX6 yX6_copy yX6_copy, Cond.code yX6_copy cX6_copy 4 none, Cond.methodLink RL 75 yL_deliver, Cond.static yL_deliver, Cond.codeWith yL_deliver cL_deliver 4 (some .int) [(0, 16, 19, 21), (0, 16, 22, 15)], Cond.methodLink RL 23 yX5_deliver, Cond.instanceMethod yX5_deliver, Cond.selects RX5 yX5_deliver yX5_deliver, Cond.code yX5_deliver cX5_deliver 3 (some .boolean), Cond.fieldLink RX5 90 "PurseWorld$Message" "kind" "I", Cond.fieldLink RX5 110 "PurseWorld$Message" "teller" "I", Cond.fieldLink RX5 113 "PurseWorld$Message" "terms" "LPurseWorld$Transfer;", Cond.methodLink RX5 82 yX5_messageAt, Cond.instanceMethod yX5_messageAt, Cond.selects RX5 yX5_messageAt yX5_messageAt, Cond.code yX5_messageAt cX5_messageAt 2 (some (.object "PurseWorld$Message"))]
def wsL_law0_r12 : List Cond := [Cond.classLink RX5 91 "PurseWorld$Message", Cond.methodLink RX5 86 yX5_mayBeAnswered, Cond.instanceMethod yX5_mayBeAnswered, Cond.selects RX5 yX5_mayBeAnswered yX5_mayBeAnswered, Cond.code yX5_mayBeAnswered cX5_mayBeAnswered 2 (some .boolean), Cond.fieldLink RX5 199 "PurseWorld$Message" "to" "I", Cond.methodLink RX5 230 yX3_does, Cond.instanceMethod yX3_does, Cond.selects RX3 yX3_does yX3_does, Cond.code yX3_does cX3_does 3 (some .boolean), Cond.methodLink RX3 42 yX4_same, Cond.instanceMethod yX4_same, Cond.selects RX4 yX4_same yX4_same, Cond.code yX4_same cX4_same 2 (some .boolean), Cond.methodLink RX5 95 yX5_takePay, Cond.instanceMethod yX5_takePay, Cond.selects RX5 yX5_takePay yX5_takePay, Cond.code yX5_takePay cX5_takePay 4 (some .boolean), Cond.fieldLink RX5 179 "PurseWorld$Purse" "balance" "I", Cond.fieldLink RX5 182 "PurseWorld$Transfer" "amount" "I", Cond.fieldLink RX5 237 "PurseWorld$Purse" "number" "I", Cond.fieldLink RX5 164 "PurseWorld$Transfer" "payee" "I", Cond.fieldLink RX5 223 "PurseWorld$Transfer" "payeeSerial" "I", Cond.methodLink RX5 126 yX3_end]
def wsL_law0_r13 : List Cond := [Cond.instanceMethod yX3_end, Cond.selects RX3 yX3_end yX3_end, Cond.code yX3_end cX3_end 1 none, Cond.methodLink RX3 52 yJx4a65c_add_9ea2d, Cond.methodLink RX3 56 yX3_rest, Cond.instanceMethod yX3_rest, Cond.selects RX3 yX3_rest yX3_rest, Cond.code yX3_rest cX3_rest 1 none, Cond.methodLink RX5 233 yX3_logIsFull, Cond.instanceMethod yX3_logIsFull, Cond.selects RX3 yX3_logIsFull yX3_logIsFull, Cond.code yX3_logIsFull cX3_logIsFull 1 (some .boolean), Cond.methodLink RX3 38 yJx4a65c_size_8abf5, Cond.methodLink RX5 240 yX3_start, Cond.instanceMethod yX3_start, Cond.selects RX3 yX3_start yX3_start, Cond.code yX3_start cX3_start 3 none, Cond.methodLink RX5 98 yX5_takeEarn, Cond.instanceMethod yX5_takeEarn, Cond.selects RX5 yX5_takeEarn yX5_takeEarn, Cond.code yX5_takeEarn cX5_takeEarn 4 (some .boolean), Cond.fieldLink RX5 158 "PurseWorld$Transfer" "payer" "I", Cond.fieldLink RX5 220 "PurseWorld$Transfer" "payerSerial" "I", Cond.fieldLink RX5 187 "PurseWorld$Purse" "current" "LPurseWorld$Transfer;"]
def wsL_law0_r14 : List Cond := [Cond.methodLink RX5 101 yX5_takeAsk, Cond.instanceMethod yX5_takeAsk, Cond.selects RX5 yX5_takeAsk yX5_takeAsk, Cond.code yX5_takeAsk cX5_takeAsk 3 (some .boolean), Cond.fieldLink RX5 123 "PurseWorld$Purse" "state" "I", Cond.methodLink RX5 104 yX5_takeValue, Cond.instanceMethod yX5_takeValue, Cond.selects RX5 yX5_takeValue yX5_takeValue, Cond.code yX5_takeValue cX5_takeValue 3 (some .boolean), Cond.methodLink RX5 244 yX3_rest, Cond.methodLink RX5 107 yX5_takeThanks, Cond.instanceMethod yX5_takeThanks, Cond.selects RX5 yX5_takeThanks yX5_takeThanks, Cond.code yX5_takeThanks cX5_takeThanks 3 (some .boolean), Cond.methodLink RX5 116 yX0_takeRecord, Cond.instanceMethod yX0_takeRecord, Cond.selects RX0 yX0_takeRecord yX0_takeRecord, Cond.code yX0_takeRecord cX0_takeRecord 3 (some .boolean), Cond.classLink RX0 24 RX1, Cond.instantiable RX1 3, Cond.initialized RX1, Cond.methodLink RX0 48 yX0_has, Cond.instanceMethod yX0_has, Cond.selects RX0 yX0_has yX0_has]
def wsL_law0_r15 : List Cond := [Cond.code yX0_has cX0_has 3 (some .boolean), Cond.methodLink RX0 16 yJx4a65c_size_8abf5, Cond.methodLink RX0 40 yX0_hadAmong, Cond.instanceMethod yX0_hadAmong, Cond.selects RX0 yX0_hadAmong yX0_hadAmong, Cond.code yX0_hadAmong cX0_hadAmong 6 (some .boolean), Cond.classLink RX0 24 "PurseWorld$Entry", Cond.fieldLink RX0 26 "PurseWorld$Entry" "teller" "I", Cond.fieldLink RX0 30 "PurseWorld$Entry" "terms" "LPurseWorld$Transfer;", Cond.methodLink RX0 20 yJx4a65c_get_915e3, Cond.methodLink RX0 34 yX4_same, Cond.methodLink RX0 52 yX1_init, Cond.instanceMethod yX1_init, Cond.code yX1_init cX1_init 3 none, Cond.methodLink RX1 1 objectInit, Cond.fieldLink RX1 7 "PurseWorld$Entry" "teller" "I", Cond.fieldLink RX1 13 "PurseWorld$Entry" "terms" "LPurseWorld$Transfer;", Cond.methodLink RX0 55 yJx4a65c_add_9ea2d, Cond.methodLink RX5 120 yX5_takeClear, Cond.instanceMethod yX5_takeClear, Cond.selects RX5 yX5_takeClear yX5_takeClear, Cond.code yX5_takeClear cX5_takeClear 4 (some .boolean), Cond.fieldLink RX5 134 "PurseWorld$Purse" "kept" "Ljava/util/ArrayList;", Cond.fieldLink RX5 250 "PurseWorld$Message" "archived" "I"]
def wsL_law0_r16 : List Cond := [Cond.classLink RX5 7 "PurseWorld$Transfer", Cond.methodLink RX5 247 yJx4a65c_isEmpty_aae02, Cond.instanceMethod yJx4a65c_isEmpty_aae02, Cond.selects RJx4a65c yJx4a65c_isEmpty_aae02 yJx4a65c_isEmpty_aae02, Cond.code yJx4a65c_isEmpty_aae02 cJx4a65c_isEmpty_aae02 1 (some .boolean), Cond.methodLink RX5 253 yX0_hadAmong, Cond.methodLink RX5 257 yJx4a65c_clear_da8c8, Cond.instanceMethod yJx4a65c_clear_da8c8, Cond.selects RJx4a65c yJx4a65c_clear_da8c8 yJx4a65c_clear_da8c8, Cond.code yJx4a65c_clear_da8c8 cJx4a65c_clear_da8c8 4 none, Cond.methodLink RL 77 yX6_deliver, Cond.instanceMethod yX6_deliver, Cond.selects RX6 yX6_deliver yX6_deliver, Cond.code yX6_deliver cX6_deliver 6 (some .boolean), Cond.methodLink RX6 78 yX6_waits, Cond.instanceMethod yX6_waits, Cond.selects RX6 yX6_waits yX6_waits, Cond.code yX6_waits cX6_waits 4 (some .boolean), Cond.methodLink RX6 52 yX6_same, Cond.instanceMethod yX6_same, Cond.selects RX6 yX6_same yX6_same, Cond.code yX6_same cX6_same 5 (some .boolean), Cond.methodLink RX6 94 yX6_takesBegin, Cond.instanceMethod yX6_takesBegin]
def wsL_law0_r17 : List Cond := [Cond.selects RX6 yX6_takesBegin yX6_takesBegin, Cond.code yX6_takesBegin cX6_takesBegin 4 (some .boolean), Cond.methodLink RX6 66 yX6_endIt, Cond.instanceMethod yX6_endIt, Cond.selects RX6 yX6_endIt yX6_endIt, Cond.code yX6_endIt cX6_endIt 2 none, Cond.methodLink RX6 70 yX6_part, Cond.instanceMethod yX6_part, Cond.selects RX6 yX6_part yX6_part, Cond.code yX6_part cX6_part 3 (some .int), Cond.methodLink RX6 98 yX6_takesOther, Cond.instanceMethod yX6_takesOther, Cond.selects RX6 yX6_takesOther yX6_takesOther, Cond.code yX6_takesOther cX6_takesOther 5 (some .boolean), Cond.methodLink RX6 101 yX6_takesRecord, Cond.instanceMethod yX6_takesRecord, Cond.selects RX6 yX6_takesRecord yX6_takesRecord, Cond.code yX6_takesRecord cX6_takesRecord 2 (some .boolean), Cond.fieldLink RX6 56 "PurseWorldModel" "entries" "I", Cond.methodLink RX6 81 yX6_isKept, Cond.instanceMethod yX6_isKept, Cond.selects RX6 yX6_isKept yX6_isKept, Cond.code yX6_isKept cX6_isKept 6 (some .boolean), Cond.methodLink RX6 104 yX6_takesClearing]
def wsL_law0_r18 : List Cond := [Cond.instanceMethod yX6_takesClearing, Cond.selects RX6 yX6_takesClearing yX6_takesClearing, Cond.code yX6_takesClearing cX6_takesClearing 5 (some .boolean), Cond.methodLink RL 78 yL_abort, Cond.static yL_abort, Cond.codeWith yL_abort cL_abort 4 (some .int) [(0, 9, 12, 21)], Cond.methodLink RL 27 yX5_abort, Cond.instanceMethod yX5_abort, Cond.selects RX5 yX5_abort yX5_abort, Cond.code yX5_abort cX5_abort 4 (some .int), Cond.methodLink RL 80 yX6_abort, Cond.instanceMethod yX6_abort, Cond.selects RX6 yX6_abort yX6_abort, Cond.code yX6_abort cX6_abort 3 (some .int), Cond.methodLink RL 81 yL_readLog, Cond.static yL_readLog, Cond.codeWith yL_readLog cL_readLog 4 (some .int) [(0, 9, 12, 21), (0, 9, 15, 33), (0, 9, 18, 15)], Cond.classLink RL 33 "java/lang/IllegalStateException", Cond.methodLink RL 30 yX5_readLog, Cond.instanceMethod yX5_readLog, Cond.selects RX5 yX5_readLog yX5_readLog, Cond.code yX5_readLog cX5_readLog 5 (some .int), Cond.classLink RX5 129 "java/lang/IllegalStateException", Cond.initialized "java/lang/IllegalStateException"]
def wsL_law0_r19 : List Cond := [Cond.methodLink RL 83 yX6_readLog, Cond.instanceMethod yX6_readLog, Cond.selects RX6 yX6_readLog yX6_readLog, Cond.code yX6_readLog cX6_readLog 3 (some .int), Cond.methodLink RL 84 yL_authorise, Cond.static yL_authorise, Cond.codeWith yL_authorise cL_authorise 4 (some .int) [(0, 9, 12, 21), (0, 9, 15, 33), (0, 9, 18, 15)], Cond.methodLink RL 35 yX5_authorise, Cond.instanceMethod yX5_authorise, Cond.selects RX5 yX5_authorise yX5_authorise, Cond.code yX5_authorise cX5_authorise 3 (some .int), Cond.methodLink RX5 144 yX0_hasAnyOf, Cond.instanceMethod yX0_hasAnyOf, Cond.selects RX0 yX0_hasAnyOf yX0_hasAnyOf, Cond.code yX0_hasAnyOf cX0_hasAnyOf 3 (some .boolean), Cond.methodLink RX5 150 yX0_size, Cond.instanceMethod yX0_size, Cond.selects RX0 yX0_size yX0_size, Cond.code yX0_size cX0_size 1 (some .int), Cond.methodLink RL 86 yX6_authorise, Cond.instanceMethod yX6_authorise, Cond.selects RX6 yX6_authorise yX6_authorise, Cond.code yX6_authorise cX6_authorise 4 (some .int), Cond.methodLink RL 87 yL_refund]
def wsL_law0_r20 : List Cond := [Cond.static yL_refund, Cond.codeWith yL_refund cL_refund 4 (some .int) [(0, 9, 12, 21), (0, 9, 15, 33)], Cond.methodLink RL 38 yX5_refund, Cond.instanceMethod yX5_refund, Cond.selects RX5 yX5_refund yX5_refund, Cond.code yX5_refund cX5_refund 4 (some .int), Cond.fieldLink RX5 155 "PurseWorld$Entry" "terms" "LPurseWorld$Transfer;", Cond.fieldLink RX5 169 "PurseWorld$Entry" "refunded" "Z", Cond.methodLink RX5 151 yX5_entryAt, Cond.instanceMethod yX5_entryAt, Cond.selects RX5 yX5_entryAt yX5_entryAt, Cond.code yX5_entryAt cX5_entryAt 2 (some (.object "PurseWorld$Entry")), Cond.fieldLink RX5 207 "PurseWorld$Archive" "rows" "Ljava/util/ArrayList;", Cond.classLink RX5 156 "PurseWorld$Entry", Cond.methodLink RX5 161 yX0_has, Cond.methodLink RX5 175 yX0_markRefunded, Cond.instanceMethod yX0_markRefunded, Cond.selects RX0 yX0_markRefunded yX0_markRefunded, Cond.code yX0_markRefunded cX0_markRefunded 4 none, Cond.fieldLink RX0 44 "PurseWorld$Entry" "refunded" "Z", Cond.methodLink RL 89 yX6_refund, Cond.instanceMethod yX6_refund, Cond.selects RX6 yX6_refund yX6_refund, Cond.code yX6_refund cX6_refund 4 (some .int)]
def wsL_law0_r21 : List Cond := [Cond.methodLink RX6 107 yX6_isRefunded, Cond.instanceMethod yX6_isRefunded, Cond.selects RX6 yX6_isRefunded yX6_isRefunded, Cond.code yX6_isRefunded cX6_isRefunded 4 (some .boolean), Cond.methodLink RL 90 yL_told, Cond.static yL_told, Cond.codeWith yL_told cL_told 5 (some .int) [(0, 10, 13, 21), (0, 10, 17, 13)], Cond.methodLink RL 41 yX5_told, Cond.instanceMethod yX5_told, Cond.selects RX5 yX5_told yX5_told, Cond.code yX5_told cX5_told 4 (some .int), Cond.methodLink RL 93 yX6_told, Cond.instanceMethod yX6_told, Cond.selects RX6 yX6_told yX6_told, Cond.code yX6_told cX6_told 3 (some .int), Cond.methodLink RL 94 yL_transfer, Cond.static yL_transfer, Cond.codeWith yL_transfer cL_transfer 5 (some .int) [(0, 10, 13, 21), (0, 10, 17, 13)], Cond.methodLink RL 45 yX5_transfer, Cond.instanceMethod yX5_transfer, Cond.selects RX5 yX5_transfer yX5_transfer, Cond.code yX5_transfer cX5_transfer 3 (some .int), Cond.methodLink RX5 190 yX5_partOf, Cond.static yX5_partOf]
def wsL_law0_r22 : List Cond := [Cond.code yX5_partOf cX5_partOf 2 (some .int), Cond.methodLink RL 96 yX6_transfer, Cond.instanceMethod yX6_transfer, Cond.selects RX6 yX6_transfer yX6_transfer, Cond.code yX6_transfer cX6_transfer 3 (some .int), Cond.methodLink RL 97 yL_log, Cond.static yL_log, Cond.codeWith yL_log cL_log 6 (some .int) [(0, 12, 15, 21), (0, 12, 19, 13)], Cond.methodLink RL 48 yX5_log, Cond.instanceMethod yX5_log, Cond.selects RX5 yX5_log yX5_log, Cond.code yX5_log cX5_log 5 (some .int), Cond.methodLink RL 99 yX6_log, Cond.instanceMethod yX6_log, Cond.selects RX6 yX6_log yX6_log, Cond.code yX6_log cX6_log 4 (some .int), Cond.methodLink RL 100 yX5_messages, Cond.instanceMethod yX5_messages, Cond.selects RX5 yX5_messages yX5_messages, Cond.code yX5_messages cX5_messages 1 (some .int), Cond.methodLink RL 103 yX6_messages, Cond.instanceMethod yX6_messages, Cond.selects RX6 yX6_messages yX6_messages, Cond.code yX6_messages cX6_messages 1 (some .int)]
def wsL_law0_r23 : List Cond := [Cond.methodLink RL 104 yL_message, Cond.static yL_message, Cond.codeWith yL_message cL_message 5 (some .int) [(0, 10, 13, 21), (0, 10, 17, 13)], Cond.methodLink RL 51 yX5_message, Cond.instanceMethod yX5_message, Cond.selects RX5 yX5_message yX5_message, Cond.code yX5_message cX5_message 4 (some .int), Cond.methodLink RL 106 yX6_message, Cond.instanceMethod yX6_message, Cond.selects RX6 yX6_message yX6_message, Cond.code yX6_message cX6_message 3 (some .int), Cond.methodLink RL 107 yX5_entries, Cond.instanceMethod yX5_entries, Cond.selects RX5 yX5_entries yX5_entries, Cond.code yX5_entries cX5_entries 1 (some .int), Cond.methodLink RL 110 yX6_entries, Cond.instanceMethod yX6_entries, Cond.selects RX6 yX6_entries yX6_entries, Cond.code yX6_entries cX6_entries 1 (some .int), Cond.methodLink RL 111 yL_entry, Cond.static yL_entry, Cond.codeWith yL_entry cL_entry 5 (some .int) [(0, 10, 13, 21), (0, 10, 17, 13)], Cond.methodLink RL 54 yX5_entry, Cond.instanceMethod yX5_entry]
def wsL_law0_r24 : List Cond := [Cond.selects RX5 yX5_entry yX5_entry, Cond.code yX5_entry cX5_entry 4 (some .int), Cond.fieldLink RX5 202 "PurseWorld$Entry" "teller" "I", Cond.methodLink RL 113 yX6_entry, Cond.instanceMethod yX6_entry, Cond.selects RX6 yX6_entry yX6_entry, Cond.code yX6_entry cX6_entry 3 (some .int), Cond.methodLink RL 114 yX5_balances, Cond.instanceMethod yX5_balances, Cond.selects RX5 yX5_balances yX5_balances, Cond.code yX5_balances cX5_balances 4 (some .long), Cond.methodLink RL 118 yX6_balances, Cond.instanceMethod yX6_balances, Cond.selects RX6 yX6_balances yX6_balances, Cond.code yX6_balances cX6_balances 4 (some .long), Cond.methodLink RL 119 yX5_pending, Cond.instanceMethod yX5_pending, Cond.selects RX5 yX5_pending yX5_pending, Cond.code yX5_pending cX5_pending 5 (some .long), Cond.methodLink RX5 203 yX5_pendingOfPayer, Cond.instanceMethod yX5_pendingOfPayer, Cond.selects RX5 yX5_pendingOfPayer yX5_pendingOfPayer, Cond.code yX5_pendingOfPayer cX5_pendingOfPayer 6 (some .long), Cond.methodLink RX5 210 yX5_amountIfPayeeWaits]
def wsL_law0_r25 : List Cond := [Cond.instanceMethod yX5_amountIfPayeeWaits, Cond.selects RX5 yX5_amountIfPayeeWaits yX5_amountIfPayeeWaits, Cond.code yX5_amountIfPayeeWaits cX5_amountIfPayeeWaits 4 (some .long), Cond.methodLink RX5 260 yX3_hasKept, Cond.instanceMethod yX3_hasKept, Cond.selects RX3 yX3_hasKept yX3_hasKept, Cond.code yX3_hasKept cX3_hasKept 3 (some .boolean), Cond.classLink RX3 43 "PurseWorld$Transfer", Cond.methodLink RX3 48 yJx4a65c_get_915e3, Cond.methodLink RX5 264 yX0_hasRefunded, Cond.instanceMethod yX0_hasRefunded, Cond.selects RX0 yX0_hasRefunded yX0_hasRefunded, Cond.code yX0_hasRefunded cX0_hasRefunded 4 (some .boolean), Cond.methodLink RL 122 yX6_pending, Cond.instanceMethod yX6_pending, Cond.selects RX6 yX6_pending yX6_pending, Cond.code yX6_pending cX6_pending 5 (some .long), Cond.methodLink RX6 116 yX6_amountOf, Cond.instanceMethod yX6_amountOf, Cond.selects RX6 yX6_amountOf yX6_amountOf, Cond.code yX6_amountOf cX6_amountOf 4 (some .long), Cond.methodLink RX6 113 yX6_holds, Cond.instanceMethod yX6_holds, Cond.selects RX6 yX6_holds yX6_holds]
def wsL_law0_r26 : List Cond := [Cond.code yX6_holds cX6_holds 3 (some .boolean), Cond.methodLink RX6 110 yX6_isInLog, Cond.instanceMethod yX6_isInLog, Cond.selects RX6 yX6_isInLog yX6_isInLog, Cond.code yX6_isInLog cX6_isInLog 5 (some .boolean), Cond.methodLink RL 123 yX5_purses, Cond.instanceMethod yX5_purses, Cond.selects RX5 yX5_purses yX5_purses, Cond.code yX5_purses cX5_purses 1 (some .int), Cond.methodLink RL 126 yX6_purses, Cond.instanceMethod yX6_purses, Cond.selects RX6 yX6_purses yX6_purses, Cond.code yX6_purses cX6_purses 1 (some .int)]
def wsL_law0 : List Cond := (wsL_law0_r1 ++ (wsL_law0_r2 ++ (wsL_law0_r3 ++ (wsL_law0_r4 ++ (wsL_law0_r5 ++ (wsL_law0_r6 ++ (wsL_law0_r7 ++ (wsL_law0_r8 ++ (wsL_law0_r9 ++ (wsL_law0_r10 ++ (wsL_law0_r11 ++ (wsL_law0_r12 ++ (wsL_law0_r13 ++ (wsL_law0_r14 ++ (wsL_law0_r15 ++ (wsL_law0_r16 ++ (wsL_law0_r17 ++ (wsL_law0_r18 ++ (wsL_law0_r19 ++ (wsL_law0_r20 ++ (wsL_law0_r21 ++ (wsL_law0_r22 ++ (wsL_law0_r23 ++ (wsL_law0_r24 ++ (wsL_law0_r25 ++ wsL_law0_r26))))))))))))))))))))))))) ++ wsX50 ++ wsX60 ++ wsX40 ++ wsJx4a65c0 ++ wsX00 ++ wsX30 ++ wsX20 ++ wsX10 ++ ([] : List Cond)
def wsL_law : List Cond := wsL_law0 ++ (vx_atS RX5 40 "java/lang/IllegalArgumentException" ["java/lang/RuntimeException", "java/lang/Exception"]).filter goodWord ++ (vx_atS RX5 51 "java/lang/UnsupportedOperationException" ["java/lang/RuntimeException", "java/lang/Exception"]).filter goodWord ++ (vx_atS RX5 198 "java/lang/IndexOutOfBoundsException" ["java/lang/RuntimeException", "java/lang/Exception"]).filter goodWord ++ (vx_atS RX5 133 "java/lang/IllegalStateException" ["java/lang/RuntimeException", "java/lang/Exception"]).filter goodWord
abbrev vwCl : List vw_C := [(RJx4a65c, TJx4a65c, 3), (RX0, TX0, 1), (RX1, TX1, 3), (RX2, TX2, 5), (RX3, TX3, 7), (RX4, TX4, 5), (RX5, TX5, 4), (RX6, TX6, 14)]
end
section
theorem dJ9_max_7cf53_0 : decode cJ9_max_7cf53 0 = .ok (.iload_n 0, 1) := by decide +kernel
theorem dJ9_max_7cf53_1 : decode cJ9_max_7cf53 1 = .ok (.iload_n 1, 1) := by decide +kernel
theorem dJ9_max_7cf53_2 : decode cJ9_max_7cf53 2 = .ok (.if_icmp .lt 7, 3) := by decide +kernel
theorem dJ9_max_7cf53_5 : decode cJ9_max_7cf53 5 = .ok (.iload_n 0, 1) := by decide +kernel
theorem dJ9_max_7cf53_6 : decode cJ9_max_7cf53 6 = .ok (.goto 4, 3) := by decide +kernel
theorem dJ9_max_7cf53_9 : decode cJ9_max_7cf53 9 = .ok (.iload_n 1, 1) := by decide +kernel
theorem dJ9_max_7cf53_10 : decode cJ9_max_7cf53 10 = .ok (.ireturn, 1) := by decide +kernel
theorem dJ9_min_7cf53_0 : decode cJ9_min_7cf53 0 = .ok (.iload_n 0, 1) := by decide +kernel
theorem dJ9_min_7cf53_1 : decode cJ9_min_7cf53 1 = .ok (.iload_n 1, 1) := by decide +kernel
theorem dJ9_min_7cf53_2 : decode cJ9_min_7cf53 2 = .ok (.if_icmp .gt 7, 3) := by decide +kernel
theorem dJ9_min_7cf53_5 : decode cJ9_min_7cf53 5 = .ok (.iload_n 0, 1) := by decide +kernel
theorem dJ9_min_7cf53_6 : decode cJ9_min_7cf53 6 = .ok (.goto 4, 3) := by decide +kernel
theorem dJ9_min_7cf53_9 : decode cJ9_min_7cf53 9 = .ok (.iload_n 1, 1) := by decide +kernel
theorem dJ9_min_7cf53_10 : decode cJ9_min_7cf53 10 = .ok (.ireturn, 1) := by decide +kernel
theorem dJxa1e45_init_da8c8_0 : decode cJxa1e45_init_da8c8 0 = .ok (.aload_n 0, 1) := by decide +kernel
theorem dJxa1e45_init_da8c8_1 : decode cJxa1e45_init_da8c8 1 = .ok (.invokespecial 1, 3) := by decide +kernel
theorem dJxa1e45_init_da8c8_4 : decode cJxa1e45_init_da8c8 4 = .ok (.return_, 1) := by decide +kernel
theorem dJxc12de_init_da8c8_0 : decode cJxc12de_init_da8c8 0 = .ok (.aload_n 0, 1) := by decide +kernel
theorem dJxc12de_init_da8c8_1 : decode cJxc12de_init_da8c8 1 = .ok (.invokespecial 1, 3) := by decide +kernel
theorem dJxc12de_init_da8c8_4 : decode cJxc12de_init_da8c8 4 = .ok (.aload_n 0, 1) := by decide +kernel
theorem dJxc12de_init_da8c8_5 : decode cJxc12de_init_da8c8 5 = .ok (.iconst 0, 1) := by decide +kernel
theorem dJxc12de_init_da8c8_6 : decode cJxc12de_init_da8c8 6 = .ok (.putfield 7, 3) := by decide +kernel
theorem dJxc12de_init_da8c8_9 : decode cJxc12de_init_da8c8 9 = .ok (.return_, 1) := by decide +kernel
theorem dJx4a65c_init_da8c8_0 : decode cJx4a65c_init_da8c8 0 = .ok (.aload_n 0, 1) := by decide +kernel
theorem dJx4a65c_init_da8c8_1 : decode cJx4a65c_init_da8c8 1 = .ok (.invokespecial 1, 3) := by decide +kernel
theorem dJx4a65c_init_da8c8_4 : decode cJx4a65c_init_da8c8 4 = .ok (.aload_n 0, 1) := by decide +kernel
theorem dJx4a65c_init_da8c8_5 : decode cJx4a65c_init_da8c8 5 = .ok (.getstatic 39, 3) := by decide +kernel
theorem dJx4a65c_init_da8c8_8 : decode cJx4a65c_init_da8c8 8 = .ok (.putfield 9, 3) := by decide +kernel
theorem dJx4a65c_init_da8c8_11 : decode cJx4a65c_init_da8c8 11 = .ok (.return_, 1) := by decide +kernel
theorem dJx4a65c_grow_92f84_0 : decode cJx4a65c_grow_92f84 0 = .ok (.aload_n 0, 1) := by decide +kernel
theorem dJx4a65c_grow_92f84_1 : decode cJx4a65c_grow_92f84 1 = .ok (.getfield 9, 3) := by decide +kernel
theorem dJx4a65c_grow_92f84_4 : decode cJx4a65c_grow_92f84 4 = .ok (.arraylength, 1) := by decide +kernel
theorem dJx4a65c_grow_92f84_5 : decode cJx4a65c_grow_92f84 5 = .ok (.istore_n 2, 1) := by decide +kernel
theorem dJx4a65c_grow_92f84_6 : decode cJx4a65c_grow_92f84 6 = .ok (.iload_n 2, 1) := by decide +kernel
theorem dJx4a65c_grow_92f84_7 : decode cJx4a65c_grow_92f84 7 = .ok (.ifCond .gt 13, 3) := by decide +kernel
theorem dJx4a65c_grow_92f84_10 : decode cJx4a65c_grow_92f84 10 = .ok (.aload_n 0, 1) := by decide +kernel
theorem dJx4a65c_grow_92f84_11 : decode cJx4a65c_grow_92f84 11 = .ok (.getfield 9, 3) := by decide +kernel
theorem dJx4a65c_grow_92f84_14 : decode cJx4a65c_grow_92f84 14 = .ok (.getstatic 39, 3) := by decide +kernel
theorem dJx4a65c_grow_92f84_17 : decode cJx4a65c_grow_92f84 17 = .ok (.if_acmp .eq 28, 3) := by decide +kernel
theorem dJx4a65c_grow_92f84_20 : decode cJx4a65c_grow_92f84 20 = .ok (.iload_n 2, 1) := by decide +kernel
theorem dJx4a65c_grow_92f84_21 : decode cJx4a65c_grow_92f84 21 = .ok (.iload_n 1, 1) := by decide +kernel
theorem dJx4a65c_grow_92f84_22 : decode cJx4a65c_grow_92f84 22 = .ok (.iload_n 2, 1) := by decide +kernel
theorem dJx4a65c_grow_92f84_23 : decode cJx4a65c_grow_92f84 23 = .ok (.isub, 1) := by decide +kernel
theorem dJx4a65c_grow_92f84_24 : decode cJx4a65c_grow_92f84 24 = .ok (.iload_n 2, 1) := by decide +kernel
theorem dJx4a65c_grow_92f84_25 : decode cJx4a65c_grow_92f84 25 = .ok (.iconst 1, 1) := by decide +kernel
theorem dJx4a65c_grow_92f84_26 : decode cJx4a65c_grow_92f84 26 = .ok (.ishr, 1) := by decide +kernel
theorem dJx4a65c_grow_92f84_27 : decode cJx4a65c_grow_92f84 27 = .ok (.invokestatic 73, 3) := by decide +kernel
theorem dJx4a65c_grow_92f84_30 : decode cJx4a65c_grow_92f84 30 = .ok (.istore_n 3, 1) := by decide +kernel
theorem dJx4a65c_grow_92f84_31 : decode cJx4a65c_grow_92f84 31 = .ok (.aload_n 0, 1) := by decide +kernel
theorem dJx4a65c_grow_92f84_32 : decode cJx4a65c_grow_92f84 32 = .ok (.aload_n 0, 1) := by decide +kernel
theorem dJx4a65c_grow_92f84_33 : decode cJx4a65c_grow_92f84 33 = .ok (.getfield 9, 3) := by decide +kernel
theorem dJx4a65c_grow_92f84_36 : decode cJx4a65c_grow_92f84 36 = .ok (.iload_n 3, 1) := by decide +kernel
theorem dJx4a65c_grow_92f84_37 : decode cJx4a65c_grow_92f84 37 = .ok (.invokestatic 66, 3) := by decide +kernel
theorem dJx4a65c_grow_92f84_40 : decode cJx4a65c_grow_92f84 40 = .ok (.dup_x1, 1) := by decide +kernel
theorem dJx4a65c_grow_92f84_41 : decode cJx4a65c_grow_92f84 41 = .ok (.putfield 9, 3) := by decide +kernel
theorem dJx4a65c_grow_92f84_44 : decode cJx4a65c_grow_92f84 44 = .ok (.areturn, 1) := by decide +kernel
theorem dJx4a65c_grow_92f84_45 : decode cJx4a65c_grow_92f84 45 = .ok (.aload_n 0, 1) := by decide +kernel
theorem dJx4a65c_grow_92f84_46 : decode cJx4a65c_grow_92f84 46 = .ok (.bipush 10, 2) := by decide +kernel
theorem dJx4a65c_grow_92f84_48 : decode cJx4a65c_grow_92f84 48 = .ok (.iload_n 1, 1) := by decide +kernel
theorem dJx4a65c_grow_92f84_49 : decode cJx4a65c_grow_92f84 49 = .ok (.invokestatic 79, 3) := by decide +kernel
theorem dJx4a65c_grow_92f84_52 : decode cJx4a65c_grow_92f84 52 = .ok (.anewarray 7, 3) := by decide +kernel
theorem dJx4a65c_grow_92f84_55 : decode cJx4a65c_grow_92f84 55 = .ok (.dup_x1, 1) := by decide +kernel
theorem dJx4a65c_grow_92f84_56 : decode cJx4a65c_grow_92f84 56 = .ok (.putfield 9, 3) := by decide +kernel
theorem dJx4a65c_grow_92f84_59 : decode cJx4a65c_grow_92f84 59 = .ok (.areturn, 1) := by decide +kernel
theorem dJx4a65c_grow_d5877_0 : decode cJx4a65c_grow_d5877 0 = .ok (.aload_n 0, 1) := by decide +kernel
theorem dJx4a65c_grow_d5877_1 : decode cJx4a65c_grow_d5877 1 = .ok (.aload_n 0, 1) := by decide +kernel
theorem dJx4a65c_grow_d5877_2 : decode cJx4a65c_grow_d5877 2 = .ok (.getfield 48, 3) := by decide +kernel
theorem dJx4a65c_grow_d5877_5 : decode cJx4a65c_grow_d5877 5 = .ok (.iconst 1, 1) := by decide +kernel
theorem dJx4a65c_grow_d5877_6 : decode cJx4a65c_grow_d5877 6 = .ok (.iadd, 1) := by decide +kernel
theorem dJx4a65c_grow_d5877_7 : decode cJx4a65c_grow_d5877 7 = .ok (.invokevirtual 69, 3) := by decide +kernel
theorem dJx4a65c_grow_d5877_10 : decode cJx4a65c_grow_d5877 10 = .ok (.areturn, 1) := by decide +kernel
theorem dJx4a65c_size_8abf5_0 : decode cJx4a65c_size_8abf5 0 = .ok (.aload_n 0, 1) := by decide +kernel
theorem dJx4a65c_size_8abf5_1 : decode cJx4a65c_size_8abf5 1 = .ok (.getfield 48, 3) := by decide +kernel
theorem dJx4a65c_size_8abf5_4 : decode cJx4a65c_size_8abf5 4 = .ok (.ireturn, 1) := by decide +kernel
theorem dJx4a65c_isEmpty_aae02_0 : decode cJx4a65c_isEmpty_aae02 0 = .ok (.aload_n 0, 1) := by decide +kernel
theorem dJx4a65c_isEmpty_aae02_1 : decode cJx4a65c_isEmpty_aae02 1 = .ok (.getfield 48, 3) := by decide +kernel
theorem dJx4a65c_isEmpty_aae02_4 : decode cJx4a65c_isEmpty_aae02 4 = .ok (.ifCond .ne 7, 3) := by decide +kernel
theorem dJx4a65c_isEmpty_aae02_7 : decode cJx4a65c_isEmpty_aae02 7 = .ok (.iconst 1, 1) := by decide +kernel
theorem dJx4a65c_isEmpty_aae02_8 : decode cJx4a65c_isEmpty_aae02 8 = .ok (.goto 4, 3) := by decide +kernel
theorem dJx4a65c_isEmpty_aae02_11 : decode cJx4a65c_isEmpty_aae02 11 = .ok (.iconst 0, 1) := by decide +kernel
theorem dJx4a65c_isEmpty_aae02_12 : decode cJx4a65c_isEmpty_aae02 12 = .ok (.ireturn, 1) := by decide +kernel
theorem dJx4a65c_elementData_915e3_0 : decode cJx4a65c_elementData_915e3 0 = .ok (.aload_n 0, 1) := by decide +kernel
theorem dJx4a65c_elementData_915e3_1 : decode cJx4a65c_elementData_915e3 1 = .ok (.getfield 9, 3) := by decide +kernel
theorem dJx4a65c_elementData_915e3_4 : decode cJx4a65c_elementData_915e3 4 = .ok (.iload_n 1, 1) := by decide +kernel
theorem dJx4a65c_elementData_915e3_5 : decode cJx4a65c_elementData_915e3 5 = .ok (.aaload, 1) := by decide +kernel
theorem dJx4a65c_elementData_915e3_6 : decode cJx4a65c_elementData_915e3 6 = .ok (.areturn, 1) := by decide +kernel
theorem dJx4a65c_get_915e3_0 : decode cJx4a65c_get_915e3 0 = .ok (.iload_n 1, 1) := by decide +kernel
theorem dJx4a65c_get_915e3_1 : decode cJx4a65c_get_915e3 1 = .ok (.aload_n 0, 1) := by decide +kernel
theorem dJx4a65c_get_915e3_2 : decode cJx4a65c_get_915e3 2 = .ok (.getfield 48, 3) := by decide +kernel
theorem dJx4a65c_get_915e3_5 : decode cJx4a65c_get_915e3 5 = .ok (.invokestatic 118, 3) := by decide +kernel
theorem dJx4a65c_get_915e3_8 : decode cJx4a65c_get_915e3 8 = .ok (.pop, 1) := by decide +kernel
theorem dJx4a65c_get_915e3_9 : decode cJx4a65c_get_915e3 9 = .ok (.aload_n 0, 1) := by decide +kernel
theorem dJx4a65c_get_915e3_10 : decode cJx4a65c_get_915e3 10 = .ok (.iload_n 1, 1) := by decide +kernel
theorem dJx4a65c_get_915e3_11 : decode cJx4a65c_get_915e3 11 = .ok (.invokevirtual 123, 3) := by decide +kernel
theorem dJx4a65c_get_915e3_14 : decode cJx4a65c_get_915e3 14 = .ok (.areturn, 1) := by decide +kernel
theorem dJx4a65c_add_72be8_0 : decode cJx4a65c_add_72be8 0 = .ok (.iload_n 3, 1) := by decide +kernel
theorem dJx4a65c_add_72be8_1 : decode cJx4a65c_add_72be8 1 = .ok (.aload_n 2, 1) := by decide +kernel
theorem dJx4a65c_add_72be8_2 : decode cJx4a65c_add_72be8 2 = .ok (.arraylength, 1) := by decide +kernel
theorem dJx4a65c_add_72be8_3 : decode cJx4a65c_add_72be8 3 = .ok (.if_icmp .ne 8, 3) := by decide +kernel
theorem dJx4a65c_add_72be8_6 : decode cJx4a65c_add_72be8 6 = .ok (.aload_n 0, 1) := by decide +kernel
theorem dJx4a65c_add_72be8_7 : decode cJx4a65c_add_72be8 7 = .ok (.invokevirtual 129, 3) := by decide +kernel
theorem dJx4a65c_add_72be8_10 : decode cJx4a65c_add_72be8 10 = .ok (.astore_n 2, 1) := by decide +kernel
theorem dJx4a65c_add_72be8_11 : decode cJx4a65c_add_72be8 11 = .ok (.aload_n 2, 1) := by decide +kernel
theorem dJx4a65c_add_72be8_12 : decode cJx4a65c_add_72be8 12 = .ok (.iload_n 3, 1) := by decide +kernel
theorem dJx4a65c_add_72be8_13 : decode cJx4a65c_add_72be8 13 = .ok (.aload_n 1, 1) := by decide +kernel
theorem dJx4a65c_add_72be8_14 : decode cJx4a65c_add_72be8 14 = .ok (.aastore, 1) := by decide +kernel
theorem dJx4a65c_add_72be8_15 : decode cJx4a65c_add_72be8 15 = .ok (.aload_n 0, 1) := by decide +kernel
theorem dJx4a65c_add_72be8_16 : decode cJx4a65c_add_72be8 16 = .ok (.iload_n 3, 1) := by decide +kernel
theorem dJx4a65c_add_72be8_17 : decode cJx4a65c_add_72be8 17 = .ok (.iconst 1, 1) := by decide +kernel
theorem dJx4a65c_add_72be8_18 : decode cJx4a65c_add_72be8 18 = .ok (.iadd, 1) := by decide +kernel
theorem dJx4a65c_add_72be8_19 : decode cJx4a65c_add_72be8 19 = .ok (.putfield 48, 3) := by decide +kernel
theorem dJx4a65c_add_72be8_22 : decode cJx4a65c_add_72be8 22 = .ok (.return_, 1) := by decide +kernel
theorem dJx4a65c_add_9ea2d_0 : decode cJx4a65c_add_9ea2d 0 = .ok (.aload_n 0, 1) := by decide +kernel
theorem dJx4a65c_add_9ea2d_1 : decode cJx4a65c_add_9ea2d 1 = .ok (.dup, 1) := by decide +kernel
theorem dJx4a65c_add_9ea2d_2 : decode cJx4a65c_add_9ea2d 2 = .ok (.getfield 63, 3) := by decide +kernel
theorem dJx4a65c_add_9ea2d_5 : decode cJx4a65c_add_9ea2d 5 = .ok (.iconst 1, 1) := by decide +kernel
theorem dJx4a65c_add_9ea2d_6 : decode cJx4a65c_add_9ea2d 6 = .ok (.iadd, 1) := by decide +kernel
theorem dJx4a65c_add_9ea2d_7 : decode cJx4a65c_add_9ea2d 7 = .ok (.putfield 63, 3) := by decide +kernel
theorem dJx4a65c_add_9ea2d_10 : decode cJx4a65c_add_9ea2d 10 = .ok (.aload_n 0, 1) := by decide +kernel
theorem dJx4a65c_add_9ea2d_11 : decode cJx4a65c_add_9ea2d 11 = .ok (.aload_n 1, 1) := by decide +kernel
theorem dJx4a65c_add_9ea2d_12 : decode cJx4a65c_add_9ea2d 12 = .ok (.aload_n 0, 1) := by decide +kernel
theorem dJx4a65c_add_9ea2d_13 : decode cJx4a65c_add_9ea2d 13 = .ok (.getfield 9, 3) := by decide +kernel
theorem dJx4a65c_add_9ea2d_16 : decode cJx4a65c_add_9ea2d 16 = .ok (.aload_n 0, 1) := by decide +kernel
theorem dJx4a65c_add_9ea2d_17 : decode cJx4a65c_add_9ea2d 17 = .ok (.getfield 48, 3) := by decide +kernel
theorem dJx4a65c_add_9ea2d_20 : decode cJx4a65c_add_9ea2d 20 = .ok (.invokevirtual 131, 3) := by decide +kernel
theorem dJx4a65c_add_9ea2d_23 : decode cJx4a65c_add_9ea2d 23 = .ok (.iconst 1, 1) := by decide +kernel
theorem dJx4a65c_add_9ea2d_24 : decode cJx4a65c_add_9ea2d 24 = .ok (.ireturn, 1) := by decide +kernel
theorem dJx4a65c_clear_da8c8_0 : decode cJx4a65c_clear_da8c8 0 = .ok (.aload_n 0, 1) := by decide +kernel
theorem dJx4a65c_clear_da8c8_1 : decode cJx4a65c_clear_da8c8 1 = .ok (.dup, 1) := by decide +kernel
theorem dJx4a65c_clear_da8c8_2 : decode cJx4a65c_clear_da8c8 2 = .ok (.getfield 63, 3) := by decide +kernel
theorem dJx4a65c_clear_da8c8_5 : decode cJx4a65c_clear_da8c8 5 = .ok (.iconst 1, 1) := by decide +kernel
theorem dJx4a65c_clear_da8c8_6 : decode cJx4a65c_clear_da8c8 6 = .ok (.iadd, 1) := by decide +kernel
theorem dJx4a65c_clear_da8c8_7 : decode cJx4a65c_clear_da8c8 7 = .ok (.putfield 63, 3) := by decide +kernel
theorem dJx4a65c_clear_da8c8_10 : decode cJx4a65c_clear_da8c8 10 = .ok (.aload_n 0, 1) := by decide +kernel
theorem dJx4a65c_clear_da8c8_11 : decode cJx4a65c_clear_da8c8 11 = .ok (.getfield 9, 3) := by decide +kernel
theorem dJx4a65c_clear_da8c8_14 : decode cJx4a65c_clear_da8c8 14 = .ok (.astore_n 1, 1) := by decide +kernel
theorem dJx4a65c_clear_da8c8_15 : decode cJx4a65c_clear_da8c8 15 = .ok (.aload_n 0, 1) := by decide +kernel
theorem dJx4a65c_clear_da8c8_16 : decode cJx4a65c_clear_da8c8 16 = .ok (.getfield 48, 3) := by decide +kernel
theorem dJx4a65c_clear_da8c8_19 : decode cJx4a65c_clear_da8c8 19 = .ok (.istore_n 2, 1) := by decide +kernel
theorem dJx4a65c_clear_da8c8_20 : decode cJx4a65c_clear_da8c8 20 = .ok (.aload_n 0, 1) := by decide +kernel
theorem dJx4a65c_clear_da8c8_21 : decode cJx4a65c_clear_da8c8 21 = .ok (.iconst 0, 1) := by decide +kernel
theorem dJx4a65c_clear_da8c8_22 : decode cJx4a65c_clear_da8c8 22 = .ok (.dup_x1, 1) := by decide +kernel
theorem dJx4a65c_clear_da8c8_23 : decode cJx4a65c_clear_da8c8 23 = .ok (.putfield 48, 3) := by decide +kernel
theorem dJx4a65c_clear_da8c8_26 : decode cJx4a65c_clear_da8c8 26 = .ok (.istore_n 3, 1) := by decide +kernel
theorem dJx4a65c_clear_da8c8_27 : decode cJx4a65c_clear_da8c8 27 = .ok (.iload_n 3, 1) := by decide +kernel
theorem dJx4a65c_clear_da8c8_28 : decode cJx4a65c_clear_da8c8 28 = .ok (.iload_n 2, 1) := by decide +kernel
theorem dJx4a65c_clear_da8c8_29 : decode cJx4a65c_clear_da8c8 29 = .ok (.if_icmp .ge 13, 3) := by decide +kernel
theorem dJx4a65c_clear_da8c8_32 : decode cJx4a65c_clear_da8c8 32 = .ok (.aload_n 1, 1) := by decide +kernel
theorem dJx4a65c_clear_da8c8_33 : decode cJx4a65c_clear_da8c8 33 = .ok (.iload_n 3, 1) := by decide +kernel
theorem dJx4a65c_clear_da8c8_34 : decode cJx4a65c_clear_da8c8 34 = .ok (.aconst_null, 1) := by decide +kernel
theorem dJx4a65c_clear_da8c8_35 : decode cJx4a65c_clear_da8c8 35 = .ok (.aastore, 1) := by decide +kernel
theorem dJx4a65c_clear_da8c8_36 : decode cJx4a65c_clear_da8c8 36 = .ok (.iinc 3 1, 3) := by decide +kernel
theorem dJx4a65c_clear_da8c8_39 : decode cJx4a65c_clear_da8c8 39 = .ok (.goto (-12), 3) := by decide +kernel
theorem dJx4a65c_clear_da8c8_42 : decode cJx4a65c_clear_da8c8 42 = .ok (.return_, 1) := by decide +kernel
theorem dJ7_copyOf_1904c_0 : decode cJ7_copyOf_1904c 0 = .ok (.aload_n 0, 1) := by decide +kernel
theorem dJ7_copyOf_1904c_1 : decode cJ7_copyOf_1904c 1 = .ok (.iload_n 1, 1) := by decide +kernel
theorem dJ7_copyOf_1904c_2 : decode cJ7_copyOf_1904c 2 = .ok (.aload_n 0, 1) := by decide +kernel
theorem dJ7_copyOf_1904c_3 : decode cJ7_copyOf_1904c 3 = .ok (.invokevirtual 86, 3) := by decide +kernel
theorem dJ7_copyOf_1904c_6 : decode cJ7_copyOf_1904c 6 = .ok (.invokestatic 300, 3) := by decide +kernel
theorem dJ7_copyOf_1904c_9 : decode cJ7_copyOf_1904c 9 = .ok (.areturn, 1) := by decide +kernel
theorem dJ7_copyOf_6403c_0 : decode cJ7_copyOf_6403c 0 = .ok (.aload_n 2, 1) := by decide +kernel
theorem dJ7_copyOf_6403c_1 : decode cJ7_copyOf_6403c 1 = .ok (.ldc 110, 2) := by decide +kernel
theorem dJ7_copyOf_6403c_3 : decode cJ7_copyOf_6403c 3 = .ok (.if_acmp .ne 10, 3) := by decide +kernel
theorem dJ7_copyOf_6403c_6 : decode cJ7_copyOf_6403c 6 = .ok (.iload_n 1, 1) := by decide +kernel
theorem dJ7_copyOf_6403c_7 : decode cJ7_copyOf_6403c 7 = .ok (.anewarray 2, 3) := by decide +kernel
theorem dJ7_copyOf_6403c_10 : decode cJ7_copyOf_6403c 10 = .ok (.goto 14, 3) := by decide +kernel
theorem dJ7_copyOf_6403c_13 : decode cJ7_copyOf_6403c 13 = .ok (.aload_n 2, 1) := by decide +kernel
theorem dJ7_copyOf_6403c_14 : decode cJ7_copyOf_6403c 14 = .ok (.invokevirtual 90, 3) := by decide +kernel
theorem dJ7_copyOf_6403c_17 : decode cJ7_copyOf_6403c 17 = .ok (.iload_n 1, 1) := by decide +kernel
theorem dJ7_copyOf_6403c_18 : decode cJ7_copyOf_6403c 18 = .ok (.invokestatic 95, 3) := by decide +kernel
theorem dJ7_copyOf_6403c_21 : decode cJ7_copyOf_6403c 21 = .ok (.checkcast 110, 3) := by decide +kernel
theorem dJ7_copyOf_6403c_24 : decode cJ7_copyOf_6403c 24 = .ok (.astore_n 3, 1) := by decide +kernel
theorem dJ7_copyOf_6403c_25 : decode cJ7_copyOf_6403c 25 = .ok (.aload_n 0, 1) := by decide +kernel
theorem dJ7_copyOf_6403c_26 : decode cJ7_copyOf_6403c 26 = .ok (.iconst 0, 1) := by decide +kernel
theorem dJ7_copyOf_6403c_27 : decode cJ7_copyOf_6403c 27 = .ok (.aload_n 3, 1) := by decide +kernel
theorem dJ7_copyOf_6403c_28 : decode cJ7_copyOf_6403c 28 = .ok (.iconst 0, 1) := by decide +kernel
theorem dJ7_copyOf_6403c_29 : decode cJ7_copyOf_6403c 29 = .ok (.aload_n 0, 1) := by decide +kernel
theorem dJ7_copyOf_6403c_30 : decode cJ7_copyOf_6403c 30 = .ok (.arraylength, 1) := by decide +kernel
theorem dJ7_copyOf_6403c_31 : decode cJ7_copyOf_6403c 31 = .ok (.iload_n 1, 1) := by decide +kernel
theorem dJ7_copyOf_6403c_32 : decode cJ7_copyOf_6403c 32 = .ok (.invokestatic 304, 3) := by decide +kernel
theorem dJ7_copyOf_6403c_35 : decode cJ7_copyOf_6403c 35 = .ok (.invokestatic 150, 3) := by decide +kernel
theorem dJ7_copyOf_6403c_38 : decode cJ7_copyOf_6403c 38 = .ok (.aload_n 3, 1) := by decide +kernel
theorem dJ7_copyOf_6403c_39 : decode cJ7_copyOf_6403c 39 = .ok (.areturn, 1) := by decide +kernel
theorem dJ15_checkIndex_7cf53_0 : decode cJ15_checkIndex_7cf53 0 = .ok (.iload_n 0, 1) := by decide +kernel
theorem dJ15_checkIndex_7cf53_1 : decode cJ15_checkIndex_7cf53 1 = .ok (.iload_n 1, 1) := by decide +kernel
theorem dJ15_checkIndex_7cf53_2 : decode cJ15_checkIndex_7cf53 2 = .ok (.aconst_null, 1) := by decide +kernel
theorem dJ15_checkIndex_7cf53_3 : decode cJ15_checkIndex_7cf53 3 = .ok (.invokestatic 105, 3) := by decide +kernel
theorem dJ15_checkIndex_7cf53_6 : decode cJ15_checkIndex_7cf53 6 = .ok (.ireturn, 1) := by decide +kernel
theorem dJ8_newLength_cabcc_0 : decode cJ8_newLength_cabcc 0 = .ok (.iload_n 0, 1) := by decide +kernel
theorem dJ8_newLength_cabcc_1 : decode cJ8_newLength_cabcc 1 = .ok (.iload_n 1, 1) := by decide +kernel
theorem dJ8_newLength_cabcc_2 : decode cJ8_newLength_cabcc 2 = .ok (.iload_n 2, 1) := by decide +kernel
theorem dJ8_newLength_cabcc_3 : decode cJ8_newLength_cabcc 3 = .ok (.invokestatic 194, 3) := by decide +kernel
theorem dJ8_newLength_cabcc_6 : decode cJ8_newLength_cabcc 6 = .ok (.iadd, 1) := by decide +kernel
theorem dJ8_newLength_cabcc_7 : decode cJ8_newLength_cabcc 7 = .ok (.istore_n 3, 1) := by decide +kernel
theorem dJ8_newLength_cabcc_8 : decode cJ8_newLength_cabcc 8 = .ok (.iconst 0, 1) := by decide +kernel
theorem dJ8_newLength_cabcc_9 : decode cJ8_newLength_cabcc 9 = .ok (.iload_n 3, 1) := by decide +kernel
theorem dJ8_newLength_cabcc_10 : decode cJ8_newLength_cabcc 10 = .ok (.if_icmp .ge 11, 3) := by decide +kernel
theorem dJ8_newLength_cabcc_13 : decode cJ8_newLength_cabcc 13 = .ok (.iload_n 3, 1) := by decide +kernel
theorem dJ8_newLength_cabcc_14 : decode cJ8_newLength_cabcc 14 = .ok (.ldc 200, 2) := by decide +kernel
theorem dJ8_newLength_cabcc_16 : decode cJ8_newLength_cabcc 16 = .ok (.if_icmp .gt 5, 3) := by decide +kernel
theorem dJ8_newLength_cabcc_19 : decode cJ8_newLength_cabcc 19 = .ok (.iload_n 3, 1) := by decide +kernel
theorem dJ8_newLength_cabcc_20 : decode cJ8_newLength_cabcc 20 = .ok (.ireturn, 1) := by decide +kernel
theorem dJ8_newLength_cabcc_21 : decode cJ8_newLength_cabcc 21 = .ok (.iload_n 0, 1) := by decide +kernel
theorem dJ8_newLength_cabcc_22 : decode cJ8_newLength_cabcc 22 = .ok (.iload_n 1, 1) := by decide +kernel
theorem dJ8_newLength_cabcc_23 : decode cJ8_newLength_cabcc 23 = .ok (.invokestatic 201, 3) := by decide +kernel
theorem dJ8_newLength_cabcc_26 : decode cJ8_newLength_cabcc 26 = .ok (.ireturn, 1) := by decide +kernel
theorem dJ8_hugeLength_7cf53_0 : decode cJ8_hugeLength_7cf53 0 = .ok (.iload_n 0, 1) := by decide +kernel
theorem dJ8_hugeLength_7cf53_1 : decode cJ8_hugeLength_7cf53 1 = .ok (.iload_n 1, 1) := by decide +kernel
theorem dJ8_hugeLength_7cf53_2 : decode cJ8_hugeLength_7cf53 2 = .ok (.iadd, 1) := by decide +kernel
theorem dJ8_hugeLength_7cf53_3 : decode cJ8_hugeLength_7cf53 3 = .ok (.istore_n 2, 1) := by decide +kernel
theorem dJ8_hugeLength_7cf53_4 : decode cJ8_hugeLength_7cf53 4 = .ok (.iload_n 2, 1) := by decide +kernel
theorem dJ8_hugeLength_7cf53_5 : decode cJ8_hugeLength_7cf53 5 = .ok (.ifCond .ge 44, 3) := by decide +kernel
theorem dJ8_hugeLength_7cf53_8 : decode cJ8_hugeLength_7cf53 8 = .ok (.new 204, 3) := by decide +kernel
theorem dJ8_hugeLength_7cf53_11 : decode cJ8_hugeLength_7cf53 11 = .ok (.dup, 1) := by decide +kernel
theorem dJ8_hugeLength_7cf53_12 : decode cJ8_hugeLength_7cf53 12 = .ok (.new 89, 3) := by decide +kernel
theorem dJ8_hugeLength_7cf53_15 : decode cJ8_hugeLength_7cf53 15 = .ok (.dup, 1) := by decide +kernel
theorem dJ8_hugeLength_7cf53_16 : decode cJ8_hugeLength_7cf53 16 = .ok (.invokespecial 91, 3) := by decide +kernel
theorem dJ8_hugeLength_7cf53_19 : decode cJ8_hugeLength_7cf53 19 = .ok (.ldc 206, 2) := by decide +kernel
theorem dJ8_hugeLength_7cf53_21 : decode cJ8_hugeLength_7cf53 21 = .ok (.invokevirtual 94, 3) := by decide +kernel
theorem dJ8_hugeLength_7cf53_24 : decode cJ8_hugeLength_7cf53 24 = .ok (.iload_n 0, 1) := by decide +kernel
theorem dJ8_hugeLength_7cf53_25 : decode cJ8_hugeLength_7cf53 25 = .ok (.invokevirtual 98, 3) := by decide +kernel
theorem dJ8_hugeLength_7cf53_28 : decode cJ8_hugeLength_7cf53 28 = .ok (.ldc 208, 2) := by decide +kernel
theorem dJ8_hugeLength_7cf53_30 : decode cJ8_hugeLength_7cf53 30 = .ok (.invokevirtual 94, 3) := by decide +kernel
theorem dJ8_hugeLength_7cf53_33 : decode cJ8_hugeLength_7cf53 33 = .ok (.iload_n 1, 1) := by decide +kernel
theorem dJ8_hugeLength_7cf53_34 : decode cJ8_hugeLength_7cf53 34 = .ok (.invokevirtual 98, 3) := by decide +kernel
theorem dJ8_hugeLength_7cf53_37 : decode cJ8_hugeLength_7cf53 37 = .ok (.ldc 210, 2) := by decide +kernel
theorem dJ8_hugeLength_7cf53_39 : decode cJ8_hugeLength_7cf53 39 = .ok (.invokevirtual 94, 3) := by decide +kernel
theorem dJ8_hugeLength_7cf53_42 : decode cJ8_hugeLength_7cf53 42 = .ok (.invokevirtual 101, 3) := by decide +kernel
theorem dJ8_hugeLength_7cf53_45 : decode cJ8_hugeLength_7cf53 45 = .ok (.invokespecial 212, 3) := by decide +kernel
theorem dJ8_hugeLength_7cf53_48 : decode cJ8_hugeLength_7cf53 48 = .ok (.athrow, 1) := by decide +kernel
theorem dJ8_hugeLength_7cf53_49 : decode cJ8_hugeLength_7cf53 49 = .ok (.iload_n 2, 1) := by decide +kernel
theorem dJ8_hugeLength_7cf53_50 : decode cJ8_hugeLength_7cf53 50 = .ok (.ldc 200, 2) := by decide +kernel
theorem dJ8_hugeLength_7cf53_52 : decode cJ8_hugeLength_7cf53 52 = .ok (.if_icmp .gt 6, 3) := by decide +kernel
theorem dJ8_hugeLength_7cf53_55 : decode cJ8_hugeLength_7cf53 55 = .ok (.ldc 200, 2) := by decide +kernel
theorem dJ8_hugeLength_7cf53_57 : decode cJ8_hugeLength_7cf53 57 = .ok (.ireturn, 1) := by decide +kernel
theorem dJ8_hugeLength_7cf53_58 : decode cJ8_hugeLength_7cf53 58 = .ok (.iload_n 2, 1) := by decide +kernel
theorem dJ8_hugeLength_7cf53_59 : decode cJ8_hugeLength_7cf53 59 = .ok (.ireturn, 1) := by decide +kernel
theorem dJ3_checkIndex_8e157_0 : decode cJ3_checkIndex_8e157 0 = .ok (.iload_n 0, 1) := by decide +kernel
theorem dJ3_checkIndex_8e157_1 : decode cJ3_checkIndex_8e157 1 = .ok (.ifCond .lt 8, 3) := by decide +kernel
theorem dJ3_checkIndex_8e157_4 : decode cJ3_checkIndex_8e157 4 = .ok (.iload_n 0, 1) := by decide +kernel
theorem dJ3_checkIndex_8e157_5 : decode cJ3_checkIndex_8e157 5 = .ok (.iload_n 1, 1) := by decide +kernel
theorem dJ3_checkIndex_8e157_6 : decode cJ3_checkIndex_8e157 6 = .ok (.if_icmp .lt 10, 3) := by decide +kernel
theorem dJ3_checkIndex_8e157_9 : decode cJ3_checkIndex_8e157 9 = .ok (.aload_n 2, 1) := by decide +kernel
theorem dJ3_checkIndex_8e157_10 : decode cJ3_checkIndex_8e157 10 = .ok (.iload_n 0, 1) := by decide +kernel
theorem dJ3_checkIndex_8e157_11 : decode cJ3_checkIndex_8e157 11 = .ok (.iload_n 1, 1) := by decide +kernel
theorem dJ3_checkIndex_8e157_12 : decode cJ3_checkIndex_8e157 12 = .ok (.invokestatic 95, 3) := by decide +kernel
theorem dJ3_checkIndex_8e157_15 : decode cJ3_checkIndex_8e157 15 = .ok (.athrow, 1) := by decide +kernel
theorem dJ3_checkIndex_8e157_16 : decode cJ3_checkIndex_8e157 16 = .ok (.iload_n 0, 1) := by decide +kernel
theorem dJ3_checkIndex_8e157_17 : decode cJ3_checkIndex_8e157 17 = .ok (.ireturn, 1) := by decide +kernel
end
section
set_option maxRecDepth 20000 in
theorem ggJxc12de_init_da8c8_Jxa1e45_init_da8c8 : GoodIn wsJxc12de_init_da8c8 wsJxa1e45_init_da8c8 := goodIn_r _ [5, 6, 7, 8] (by decide +kernel) (by decide +kernel)
set_option maxRecDepth 20000 in
theorem gJxc12de_init_da8c8_Jxa1e45_init_da8c8 : GoodIn wsJxc12de_init_da8c8 (wsJxa1e45_init_da8c8) := ggJxc12de_init_da8c8_Jxa1e45_init_da8c8
set_option maxRecDepth 20000 in
theorem ggJx4a65c_init_da8c8_Jxc12de_init_da8c8 : GoodIn wsJx4a65c_init_da8c8 wsJxc12de_init_da8c8 := goodIn_r _ [6, 7, 8, 9, 10, 11, 12, 13, 14, 15, 16, 17] (by decide +kernel) (by decide +kernel)
set_option maxRecDepth 20000 in
theorem gJx4a65c_init_da8c8_Jxc12de_init_da8c8 : GoodIn wsJx4a65c_init_da8c8 (wsJxc12de_init_da8c8) := ggJx4a65c_init_da8c8_Jxc12de_init_da8c8
set_option maxRecDepth 20000 in
theorem ggJx4a65c_grow_92f84_J8_newLength_cabcc : GoodIn wsJx4a65c_grow_92f84 wsJ8_newLength_cabcc := goodIn_r _ [11, 12, 4, 5, 6, 13, 14, 15, 10, 16] (by decide +kernel) (by decide +kernel)
set_option maxRecDepth 20000 in
theorem gJx4a65c_grow_92f84_J8_newLength_cabcc : GoodIn wsJx4a65c_grow_92f84 (va_wsS RJx4a65c 73 yJ8_newLength_cabcc wsJ8_newLength_cabcc) := goodIn_app (goodIn_of _ (by decide +kernel)) ggJx4a65c_grow_92f84_J8_newLength_cabcc
set_option maxRecDepth 20000 in
theorem ggJx4a65c_grow_92f84_J7_copyOf_1904c : GoodIn wsJx4a65c_grow_92f84 wsJ7_copyOf_1904c := goodIn_r _ [20, 21, 22, 23, 24, 25, 26, 19, 27, 28, 29, 30, 31, 5, 32, 33, 34, 35, 36] (by decide +kernel) (by decide +kernel)
set_option maxRecDepth 20000 in
theorem gJx4a65c_grow_92f84_J7_copyOf_1904c : GoodIn wsJx4a65c_grow_92f84 (va_wsS RJx4a65c 66 yJ7_copyOf_1904c wsJ7_copyOf_1904c) := goodIn_app (goodIn_of _ (by decide +kernel)) ggJx4a65c_grow_92f84_J7_copyOf_1904c
set_option maxRecDepth 20000 in
theorem ggJx4a65c_grow_d5877_Jx4a65c_grow_92f84 : GoodIn wsJx4a65c_grow_d5877 wsJx4a65c_grow_92f84 := goodIn_r _ [6, 7, 8, 9, 10, 11, 12, 13, 14, 15, 16, 17, 18, 19, 20, 21, 22, 23, 24, 25, 26, 27, 28, 29, 30, 31, 32, 33, 34, 35, 36, 37, 38, 39, 40, 41, 42, 43, 44, 45] (by decide +kernel) (by decide +kernel)
set_option maxRecDepth 20000 in
theorem gJx4a65c_grow_d5877_Jx4a65c_grow_92f84 : GoodIn wsJx4a65c_grow_d5877 (wsV RJx4a65c 69 RJx4a65c yJx4a65c_grow_92f84 wsJx4a65c_grow_92f84) := goodIn_app (goodIn_of _ (by decide +kernel)) ggJx4a65c_grow_d5877_Jx4a65c_grow_92f84
set_option maxRecDepth 20000 in
theorem ggJx4a65c_get_915e3_J15_checkIndex_7cf53 : GoodIn wsJx4a65c_get_915e3 wsJ15_checkIndex_7cf53 := goodIn_r _ [5, 6, 7, 8, 9] (by decide +kernel) (by decide +kernel)
set_option maxRecDepth 20000 in
theorem gJx4a65c_get_915e3_J15_checkIndex_7cf53 : GoodIn wsJx4a65c_get_915e3 (va_wsS RJx4a65c 118 yJ15_checkIndex_7cf53 wsJ15_checkIndex_7cf53) := goodIn_app (goodIn_of _ (by decide +kernel)) ggJx4a65c_get_915e3_J15_checkIndex_7cf53
set_option maxRecDepth 20000 in
theorem ggJx4a65c_get_915e3_Jx4a65c_elementData_915e3 : GoodIn wsJx4a65c_get_915e3 wsJx4a65c_elementData_915e3 := goodIn_r _ [14, 15, 16, 17, 18] (by decide +kernel) (by decide +kernel)
set_option maxRecDepth 20000 in
theorem gJx4a65c_get_915e3_Jx4a65c_elementData_915e3 : GoodIn wsJx4a65c_get_915e3 (wsV RJx4a65c 123 RJx4a65c yJx4a65c_elementData_915e3 wsJx4a65c_elementData_915e3) := goodIn_app (goodIn_of _ (by decide +kernel)) ggJx4a65c_get_915e3_Jx4a65c_elementData_915e3
set_option maxRecDepth 20000 in
theorem ggJx4a65c_add_72be8_Jx4a65c_grow_d5877 : GoodIn wsJx4a65c_add_72be8 wsJx4a65c_grow_d5877 := goodIn_r _ [6, 1, 7, 8, 9, 5, 10, 11, 12, 13, 14, 15, 16, 17, 18, 19, 20, 21, 22, 23, 24, 25, 26, 27, 28, 29, 30, 31, 32, 33, 34, 35, 36, 37, 38, 39, 40, 41, 42, 43, 44, 45, 46, 47, 48, 49] (by decide +kernel) (by decide +kernel)
set_option maxRecDepth 20000 in
theorem gJx4a65c_add_72be8_Jx4a65c_grow_d5877 : GoodIn wsJx4a65c_add_72be8 (wsV RJx4a65c 129 RJx4a65c yJx4a65c_grow_d5877 wsJx4a65c_grow_d5877) := goodIn_app (goodIn_of _ (by decide +kernel)) ggJx4a65c_add_72be8_Jx4a65c_grow_d5877
set_option maxRecDepth 20000 in
theorem ggJx4a65c_add_9ea2d_Jx4a65c_add_72be8 : GoodIn wsJx4a65c_add_9ea2d wsJx4a65c_add_72be8 := goodIn_r _ [9, 4, 10, 11, 12, 8, 13, 14, 15, 16, 17, 3, 18, 19, 20, 21, 22, 23, 24, 25, 26, 27, 28, 29, 30, 31, 32, 33, 34, 35, 36, 37, 38, 39, 40, 41, 42, 43, 44, 45, 46, 47, 48, 49, 50, 51, 52, 53, 54, 55] (by decide +kernel) (by decide +kernel)
set_option maxRecDepth 20000 in
theorem gJx4a65c_add_9ea2d_Jx4a65c_add_72be8 : GoodIn wsJx4a65c_add_9ea2d (wsV RJx4a65c 131 RJx4a65c yJx4a65c_add_72be8 wsJx4a65c_add_72be8) := goodIn_app (goodIn_of _ (by decide +kernel)) ggJx4a65c_add_9ea2d_Jx4a65c_add_72be8
set_option maxRecDepth 20000 in
theorem ggJ7_copyOf_1904c_J7_copyOf_6403c : GoodIn wsJ7_copyOf_1904c wsJ7_copyOf_6403c := goodIn_r _ [8, 9, 10, 11, 12, 13, 14, 15, 16, 17, 18] (by decide +kernel) (by decide +kernel)
set_option maxRecDepth 20000 in
theorem gJ7_copyOf_1904c_J7_copyOf_6403c : GoodIn wsJ7_copyOf_1904c (va_wsS RJ7 300 yJ7_copyOf_6403c wsJ7_copyOf_6403c) := goodIn_app (goodIn_of _ (by decide +kernel)) ggJ7_copyOf_1904c_J7_copyOf_6403c
set_option maxRecDepth 20000 in
theorem ggJ15_checkIndex_7cf53_J3_checkIndex_8e157 : GoodIn wsJ15_checkIndex_7cf53 wsJ3_checkIndex_8e157 := goodIn_r _ [4] (by decide +kernel) (by decide +kernel)
set_option maxRecDepth 20000 in
theorem gJ15_checkIndex_7cf53_J3_checkIndex_8e157 : GoodIn wsJ15_checkIndex_7cf53 (va_wsS RJ15 105 yJ3_checkIndex_8e157 wsJ3_checkIndex_8e157) := goodIn_app (goodIn_of _ (by decide +kernel)) ggJ15_checkIndex_7cf53_J3_checkIndex_8e157
set_option maxRecDepth 20000 in
theorem ggJ8_newLength_cabcc_J8_hugeLength_7cf53 : GoodIn wsJ8_newLength_cabcc wsJ8_hugeLength_7cf53 := goodIn_r _ [9, 5] (by decide +kernel) (by decide +kernel)
set_option maxRecDepth 20000 in
theorem gJ8_newLength_cabcc_J8_hugeLength_7cf53 : GoodIn wsJ8_newLength_cabcc (va_wsS RJ8 201 yJ8_hugeLength_7cf53 wsJ8_hugeLength_7cf53) := goodIn_app (goodIn_of _ (by decide +kernel)) ggJ8_newLength_cabcc_J8_hugeLength_7cf53
end
section
theorem dX0_init_0 : decode cX0_init 0 = .ok (.aload_n 0, 1) := by decide +kernel
theorem dX0_init_1 : decode cX0_init 1 = .ok (.invokespecial 1, 3) := by decide +kernel
theorem dX0_init_4 : decode cX0_init 4 = .ok (.aload_n 0, 1) := by decide +kernel
theorem dX0_init_5 : decode cX0_init 5 = .ok (.new 7, 3) := by decide +kernel
theorem dX0_init_8 : decode cX0_init 8 = .ok (.dup, 1) := by decide +kernel
theorem dX0_init_9 : decode cX0_init 9 = .ok (.invokespecial 9, 3) := by decide +kernel
theorem dX0_init_12 : decode cX0_init 12 = .ok (.putfield 10, 3) := by decide +kernel
theorem dX0_init_15 : decode cX0_init 15 = .ok (.return_, 1) := by decide +kernel
theorem dX0_size_0 : decode cX0_size 0 = .ok (.aload_n 0, 1) := by decide +kernel
theorem dX0_size_1 : decode cX0_size 1 = .ok (.getfield 10, 3) := by decide +kernel
theorem dX0_size_4 : decode cX0_size 4 = .ok (.invokevirtual 16, 3) := by decide +kernel
theorem dX0_size_7 : decode cX0_size 7 = .ok (.ireturn, 1) := by decide +kernel
theorem dX0_hadAmong_0 : decode cX0_hadAmong 0 = .ok (.iconst 0, 1) := by decide +kernel
theorem dX0_hadAmong_1 : decode cX0_hadAmong 1 = .ok (.istore 4, 2) := by decide +kernel
theorem dX0_hadAmong_3 : decode cX0_hadAmong 3 = .ok (.iload 4, 2) := by decide +kernel
theorem dX0_hadAmong_5 : decode cX0_hadAmong 5 = .ok (.iload_n 1, 1) := by decide +kernel
theorem dX0_hadAmong_6 : decode cX0_hadAmong 6 = .ok (.if_icmp .ge 58, 3) := by decide +kernel
theorem dX0_hadAmong_9 : decode cX0_hadAmong 9 = .ok (.iload 4, 2) := by decide +kernel
theorem dX0_hadAmong_11 : decode cX0_hadAmong 11 = .ok (.aload_n 0, 1) := by decide +kernel
theorem dX0_hadAmong_12 : decode cX0_hadAmong 12 = .ok (.getfield 10, 3) := by decide +kernel
theorem dX0_hadAmong_15 : decode cX0_hadAmong 15 = .ok (.invokevirtual 16, 3) := by decide +kernel
theorem dX0_hadAmong_18 : decode cX0_hadAmong 18 = .ok (.if_icmp .ge 46, 3) := by decide +kernel
theorem dX0_hadAmong_21 : decode cX0_hadAmong 21 = .ok (.aload_n 0, 1) := by decide +kernel
theorem dX0_hadAmong_22 : decode cX0_hadAmong 22 = .ok (.getfield 10, 3) := by decide +kernel
theorem dX0_hadAmong_25 : decode cX0_hadAmong 25 = .ok (.iload 4, 2) := by decide +kernel
theorem dX0_hadAmong_27 : decode cX0_hadAmong 27 = .ok (.invokevirtual 20, 3) := by decide +kernel
theorem dX0_hadAmong_30 : decode cX0_hadAmong 30 = .ok (.checkcast 24, 3) := by decide +kernel
theorem dX0_hadAmong_33 : decode cX0_hadAmong 33 = .ok (.astore 5, 2) := by decide +kernel
theorem dX0_hadAmong_35 : decode cX0_hadAmong 35 = .ok (.aload 5, 2) := by decide +kernel
theorem dX0_hadAmong_37 : decode cX0_hadAmong 37 = .ok (.getfield 26, 3) := by decide +kernel
theorem dX0_hadAmong_40 : decode cX0_hadAmong 40 = .ok (.iload_n 2, 1) := by decide +kernel
theorem dX0_hadAmong_41 : decode cX0_hadAmong 41 = .ok (.if_icmp .ne 17, 3) := by decide +kernel
theorem dX0_hadAmong_44 : decode cX0_hadAmong 44 = .ok (.aload 5, 2) := by decide +kernel
theorem dX0_hadAmong_46 : decode cX0_hadAmong 46 = .ok (.getfield 30, 3) := by decide +kernel
theorem dX0_hadAmong_49 : decode cX0_hadAmong 49 = .ok (.aload_n 3, 1) := by decide +kernel
theorem dX0_hadAmong_50 : decode cX0_hadAmong 50 = .ok (.invokevirtual 34, 3) := by decide +kernel
theorem dX0_hadAmong_53 : decode cX0_hadAmong 53 = .ok (.ifCond .eq 5, 3) := by decide +kernel
theorem dX0_hadAmong_56 : decode cX0_hadAmong 56 = .ok (.iconst 1, 1) := by decide +kernel
theorem dX0_hadAmong_57 : decode cX0_hadAmong 57 = .ok (.ireturn, 1) := by decide +kernel
theorem dX0_hadAmong_58 : decode cX0_hadAmong 58 = .ok (.iinc 4 1, 3) := by decide +kernel
theorem dX0_hadAmong_61 : decode cX0_hadAmong 61 = .ok (.goto (-58), 3) := by decide +kernel
theorem dX0_hadAmong_64 : decode cX0_hadAmong 64 = .ok (.iconst 0, 1) := by decide +kernel
theorem dX0_hadAmong_65 : decode cX0_hadAmong 65 = .ok (.ireturn, 1) := by decide +kernel
theorem dX0_has_0 : decode cX0_has 0 = .ok (.aload_n 0, 1) := by decide +kernel
theorem dX0_has_1 : decode cX0_has 1 = .ok (.aload_n 0, 1) := by decide +kernel
theorem dX0_has_2 : decode cX0_has 2 = .ok (.getfield 10, 3) := by decide +kernel
theorem dX0_has_5 : decode cX0_has 5 = .ok (.invokevirtual 16, 3) := by decide +kernel
theorem dX0_has_8 : decode cX0_has 8 = .ok (.iload_n 1, 1) := by decide +kernel
theorem dX0_has_9 : decode cX0_has 9 = .ok (.aload_n 2, 1) := by decide +kernel
theorem dX0_has_10 : decode cX0_has 10 = .ok (.invokevirtual 40, 3) := by decide +kernel
theorem dX0_has_13 : decode cX0_has 13 = .ok (.ireturn, 1) := by decide +kernel
theorem dX0_hasAnyOf_0 : decode cX0_hasAnyOf 0 = .ok (.iconst 0, 1) := by decide +kernel
theorem dX0_hasAnyOf_1 : decode cX0_hasAnyOf 1 = .ok (.istore_n 2, 1) := by decide +kernel
theorem dX0_hasAnyOf_2 : decode cX0_hasAnyOf 2 = .ok (.iload_n 2, 1) := by decide +kernel
theorem dX0_hasAnyOf_3 : decode cX0_hasAnyOf 3 = .ok (.aload_n 0, 1) := by decide +kernel
theorem dX0_hasAnyOf_4 : decode cX0_hasAnyOf 4 = .ok (.getfield 10, 3) := by decide +kernel
theorem dX0_hasAnyOf_7 : decode cX0_hasAnyOf 7 = .ok (.invokevirtual 16, 3) := by decide +kernel
theorem dX0_hasAnyOf_10 : decode cX0_hasAnyOf 10 = .ok (.if_icmp .ge 29, 3) := by decide +kernel
theorem dX0_hasAnyOf_13 : decode cX0_hasAnyOf 13 = .ok (.aload_n 0, 1) := by decide +kernel
theorem dX0_hasAnyOf_14 : decode cX0_hasAnyOf 14 = .ok (.getfield 10, 3) := by decide +kernel
theorem dX0_hasAnyOf_17 : decode cX0_hasAnyOf 17 = .ok (.iload_n 2, 1) := by decide +kernel
theorem dX0_hasAnyOf_18 : decode cX0_hasAnyOf 18 = .ok (.invokevirtual 20, 3) := by decide +kernel
theorem dX0_hasAnyOf_21 : decode cX0_hasAnyOf 21 = .ok (.checkcast 24, 3) := by decide +kernel
theorem dX0_hasAnyOf_24 : decode cX0_hasAnyOf 24 = .ok (.getfield 26, 3) := by decide +kernel
theorem dX0_hasAnyOf_27 : decode cX0_hasAnyOf 27 = .ok (.iload_n 1, 1) := by decide +kernel
theorem dX0_hasAnyOf_28 : decode cX0_hasAnyOf 28 = .ok (.if_icmp .ne 5, 3) := by decide +kernel
theorem dX0_hasAnyOf_31 : decode cX0_hasAnyOf 31 = .ok (.iconst 1, 1) := by decide +kernel
theorem dX0_hasAnyOf_32 : decode cX0_hasAnyOf 32 = .ok (.ireturn, 1) := by decide +kernel
theorem dX0_hasAnyOf_33 : decode cX0_hasAnyOf 33 = .ok (.iinc 2 1, 3) := by decide +kernel
theorem dX0_hasAnyOf_36 : decode cX0_hasAnyOf 36 = .ok (.goto (-34), 3) := by decide +kernel
theorem dX0_hasAnyOf_39 : decode cX0_hasAnyOf 39 = .ok (.iconst 0, 1) := by decide +kernel
theorem dX0_hasAnyOf_40 : decode cX0_hasAnyOf 40 = .ok (.ireturn, 1) := by decide +kernel
theorem dX0_hasRefunded_0 : decode cX0_hasRefunded 0 = .ok (.iconst 0, 1) := by decide +kernel
theorem dX0_hasRefunded_1 : decode cX0_hasRefunded 1 = .ok (.istore_n 2, 1) := by decide +kernel
theorem dX0_hasRefunded_2 : decode cX0_hasRefunded 2 = .ok (.iload_n 2, 1) := by decide +kernel
theorem dX0_hasRefunded_3 : decode cX0_hasRefunded 3 = .ok (.aload_n 0, 1) := by decide +kernel
theorem dX0_hasRefunded_4 : decode cX0_hasRefunded 4 = .ok (.getfield 10, 3) := by decide +kernel
theorem dX0_hasRefunded_7 : decode cX0_hasRefunded 7 = .ok (.invokevirtual 16, 3) := by decide +kernel
theorem dX0_hasRefunded_10 : decode cX0_hasRefunded 10 = .ok (.if_icmp .ge 41, 3) := by decide +kernel
theorem dX0_hasRefunded_13 : decode cX0_hasRefunded 13 = .ok (.aload_n 0, 1) := by decide +kernel
theorem dX0_hasRefunded_14 : decode cX0_hasRefunded 14 = .ok (.getfield 10, 3) := by decide +kernel
theorem dX0_hasRefunded_17 : decode cX0_hasRefunded 17 = .ok (.iload_n 2, 1) := by decide +kernel
theorem dX0_hasRefunded_18 : decode cX0_hasRefunded 18 = .ok (.invokevirtual 20, 3) := by decide +kernel
theorem dX0_hasRefunded_21 : decode cX0_hasRefunded 21 = .ok (.checkcast 24, 3) := by decide +kernel
theorem dX0_hasRefunded_24 : decode cX0_hasRefunded 24 = .ok (.astore_n 3, 1) := by decide +kernel
theorem dX0_hasRefunded_25 : decode cX0_hasRefunded 25 = .ok (.aload_n 3, 1) := by decide +kernel
theorem dX0_hasRefunded_26 : decode cX0_hasRefunded 26 = .ok (.getfield 44, 3) := by decide +kernel
theorem dX0_hasRefunded_29 : decode cX0_hasRefunded 29 = .ok (.ifCond .eq 16, 3) := by decide +kernel
theorem dX0_hasRefunded_32 : decode cX0_hasRefunded 32 = .ok (.aload_n 3, 1) := by decide +kernel
theorem dX0_hasRefunded_33 : decode cX0_hasRefunded 33 = .ok (.getfield 30, 3) := by decide +kernel
theorem dX0_hasRefunded_36 : decode cX0_hasRefunded 36 = .ok (.aload_n 1, 1) := by decide +kernel
theorem dX0_hasRefunded_37 : decode cX0_hasRefunded 37 = .ok (.invokevirtual 34, 3) := by decide +kernel
theorem dX0_hasRefunded_40 : decode cX0_hasRefunded 40 = .ok (.ifCond .eq 5, 3) := by decide +kernel
theorem dX0_hasRefunded_43 : decode cX0_hasRefunded 43 = .ok (.iconst 1, 1) := by decide +kernel
theorem dX0_hasRefunded_44 : decode cX0_hasRefunded 44 = .ok (.ireturn, 1) := by decide +kernel
theorem dX0_hasRefunded_45 : decode cX0_hasRefunded 45 = .ok (.iinc 2 1, 3) := by decide +kernel
theorem dX0_hasRefunded_48 : decode cX0_hasRefunded 48 = .ok (.goto (-46), 3) := by decide +kernel
theorem dX0_hasRefunded_51 : decode cX0_hasRefunded 51 = .ok (.iconst 0, 1) := by decide +kernel
theorem dX0_hasRefunded_52 : decode cX0_hasRefunded 52 = .ok (.ireturn, 1) := by decide +kernel
theorem dX0_markRefunded_0 : decode cX0_markRefunded 0 = .ok (.iconst 0, 1) := by decide +kernel
theorem dX0_markRefunded_1 : decode cX0_markRefunded 1 = .ok (.istore_n 2, 1) := by decide +kernel
theorem dX0_markRefunded_2 : decode cX0_markRefunded 2 = .ok (.iload_n 2, 1) := by decide +kernel
theorem dX0_markRefunded_3 : decode cX0_markRefunded 3 = .ok (.aload_n 0, 1) := by decide +kernel
theorem dX0_markRefunded_4 : decode cX0_markRefunded 4 = .ok (.getfield 10, 3) := by decide +kernel
theorem dX0_markRefunded_7 : decode cX0_markRefunded 7 = .ok (.invokevirtual 16, 3) := by decide +kernel
theorem dX0_markRefunded_10 : decode cX0_markRefunded 10 = .ok (.if_icmp .ge 37, 3) := by decide +kernel
theorem dX0_markRefunded_13 : decode cX0_markRefunded 13 = .ok (.aload_n 0, 1) := by decide +kernel
theorem dX0_markRefunded_14 : decode cX0_markRefunded 14 = .ok (.getfield 10, 3) := by decide +kernel
theorem dX0_markRefunded_17 : decode cX0_markRefunded 17 = .ok (.iload_n 2, 1) := by decide +kernel
theorem dX0_markRefunded_18 : decode cX0_markRefunded 18 = .ok (.invokevirtual 20, 3) := by decide +kernel
theorem dX0_markRefunded_21 : decode cX0_markRefunded 21 = .ok (.checkcast 24, 3) := by decide +kernel
theorem dX0_markRefunded_24 : decode cX0_markRefunded 24 = .ok (.astore_n 3, 1) := by decide +kernel
theorem dX0_markRefunded_25 : decode cX0_markRefunded 25 = .ok (.aload_n 3, 1) := by decide +kernel
theorem dX0_markRefunded_26 : decode cX0_markRefunded 26 = .ok (.getfield 30, 3) := by decide +kernel
theorem dX0_markRefunded_29 : decode cX0_markRefunded 29 = .ok (.aload_n 1, 1) := by decide +kernel
theorem dX0_markRefunded_30 : decode cX0_markRefunded 30 = .ok (.invokevirtual 34, 3) := by decide +kernel
theorem dX0_markRefunded_33 : decode cX0_markRefunded 33 = .ok (.ifCond .eq 8, 3) := by decide +kernel
theorem dX0_markRefunded_36 : decode cX0_markRefunded 36 = .ok (.aload_n 3, 1) := by decide +kernel
theorem dX0_markRefunded_37 : decode cX0_markRefunded 37 = .ok (.iconst 1, 1) := by decide +kernel
theorem dX0_markRefunded_38 : decode cX0_markRefunded 38 = .ok (.putfield 44, 3) := by decide +kernel
theorem dX0_markRefunded_41 : decode cX0_markRefunded 41 = .ok (.iinc 2 1, 3) := by decide +kernel
theorem dX0_markRefunded_44 : decode cX0_markRefunded 44 = .ok (.goto (-42), 3) := by decide +kernel
theorem dX0_markRefunded_47 : decode cX0_markRefunded 47 = .ok (.return_, 1) := by decide +kernel
theorem dX0_takeRecord_0 : decode cX0_takeRecord 0 = .ok (.aload_n 0, 1) := by decide +kernel
theorem dX0_takeRecord_1 : decode cX0_takeRecord 1 = .ok (.iload_n 1, 1) := by decide +kernel
theorem dX0_takeRecord_2 : decode cX0_takeRecord 2 = .ok (.aload_n 2, 1) := by decide +kernel
theorem dX0_takeRecord_3 : decode cX0_takeRecord 3 = .ok (.invokevirtual 48, 3) := by decide +kernel
theorem dX0_takeRecord_6 : decode cX0_takeRecord 6 = .ok (.ifCond .eq 5, 3) := by decide +kernel
theorem dX0_takeRecord_9 : decode cX0_takeRecord 9 = .ok (.iconst 0, 1) := by decide +kernel
theorem dX0_takeRecord_10 : decode cX0_takeRecord 10 = .ok (.ireturn, 1) := by decide +kernel
theorem dX0_takeRecord_11 : decode cX0_takeRecord 11 = .ok (.aload_n 0, 1) := by decide +kernel
theorem dX0_takeRecord_12 : decode cX0_takeRecord 12 = .ok (.getfield 10, 3) := by decide +kernel
theorem dX0_takeRecord_15 : decode cX0_takeRecord 15 = .ok (.new 24, 3) := by decide +kernel
theorem dX0_takeRecord_18 : decode cX0_takeRecord 18 = .ok (.dup, 1) := by decide +kernel
theorem dX0_takeRecord_19 : decode cX0_takeRecord 19 = .ok (.iload_n 1, 1) := by decide +kernel
theorem dX0_takeRecord_20 : decode cX0_takeRecord 20 = .ok (.aload_n 2, 1) := by decide +kernel
theorem dX0_takeRecord_21 : decode cX0_takeRecord 21 = .ok (.invokespecial 52, 3) := by decide +kernel
theorem dX0_takeRecord_24 : decode cX0_takeRecord 24 = .ok (.invokevirtual 55, 3) := by decide +kernel
theorem dX0_takeRecord_27 : decode cX0_takeRecord 27 = .ok (.pop, 1) := by decide +kernel
theorem dX0_takeRecord_28 : decode cX0_takeRecord 28 = .ok (.iconst 1, 1) := by decide +kernel
theorem dX0_takeRecord_29 : decode cX0_takeRecord 29 = .ok (.ireturn, 1) := by decide +kernel
theorem dX1_init_0 : decode cX1_init 0 = .ok (.aload_n 0, 1) := by decide +kernel
theorem dX1_init_1 : decode cX1_init 1 = .ok (.invokespecial 1, 3) := by decide +kernel
theorem dX1_init_4 : decode cX1_init 4 = .ok (.aload_n 0, 1) := by decide +kernel
theorem dX1_init_5 : decode cX1_init 5 = .ok (.iload_n 1, 1) := by decide +kernel
theorem dX1_init_6 : decode cX1_init 6 = .ok (.putfield 7, 3) := by decide +kernel
theorem dX1_init_9 : decode cX1_init 9 = .ok (.aload_n 0, 1) := by decide +kernel
theorem dX1_init_10 : decode cX1_init 10 = .ok (.aload_n 2, 1) := by decide +kernel
theorem dX1_init_11 : decode cX1_init 11 = .ok (.putfield 13, 3) := by decide +kernel
theorem dX1_init_14 : decode cX1_init 14 = .ok (.return_, 1) := by decide +kernel
theorem dX2_init_0 : decode cX2_init 0 = .ok (.aload_n 0, 1) := by decide +kernel
theorem dX2_init_1 : decode cX2_init 1 = .ok (.invokespecial 1, 3) := by decide +kernel
theorem dX2_init_4 : decode cX2_init 4 = .ok (.aload_n 0, 1) := by decide +kernel
theorem dX2_init_5 : decode cX2_init 5 = .ok (.iload_n 1, 1) := by decide +kernel
theorem dX2_init_6 : decode cX2_init 6 = .ok (.putfield 7, 3) := by decide +kernel
theorem dX2_init_9 : decode cX2_init 9 = .ok (.aload_n 0, 1) := by decide +kernel
theorem dX2_init_10 : decode cX2_init 10 = .ok (.iload_n 2, 1) := by decide +kernel
theorem dX2_init_11 : decode cX2_init 11 = .ok (.putfield 13, 3) := by decide +kernel
theorem dX2_init_14 : decode cX2_init 14 = .ok (.aload_n 0, 1) := by decide +kernel
theorem dX2_init_15 : decode cX2_init 15 = .ok (.aload_n 3, 1) := by decide +kernel
theorem dX2_init_16 : decode cX2_init 16 = .ok (.putfield 16, 3) := by decide +kernel
theorem dX2_init_19 : decode cX2_init 19 = .ok (.aload_n 0, 1) := by decide +kernel
theorem dX2_init_20 : decode cX2_init 20 = .ok (.iload 4, 2) := by decide +kernel
theorem dX2_init_22 : decode cX2_init 22 = .ok (.putfield 20, 3) := by decide +kernel
theorem dX2_init_25 : decode cX2_init 25 = .ok (.aload_n 0, 1) := by decide +kernel
theorem dX2_init_26 : decode cX2_init 26 = .ok (.iload 5, 2) := by decide +kernel
theorem dX2_init_28 : decode cX2_init 28 = .ok (.putfield 23, 3) := by decide +kernel
theorem dX2_init_31 : decode cX2_init 31 = .ok (.return_, 1) := by decide +kernel
theorem dX3_init_0 : decode cX3_init 0 = .ok (.aload_n 0, 1) := by decide +kernel
theorem dX3_init_1 : decode cX3_init 1 = .ok (.invokespecial 3, 3) := by decide +kernel
theorem dX3_init_4 : decode cX3_init 4 = .ok (.aload_n 0, 1) := by decide +kernel
theorem dX3_init_5 : decode cX3_init 5 = .ok (.iload_n 1, 1) := by decide +kernel
theorem dX3_init_6 : decode cX3_init 6 = .ok (.putfield 9, 3) := by decide +kernel
theorem dX3_init_9 : decode cX3_init 9 = .ok (.aload_n 0, 1) := by decide +kernel
theorem dX3_init_10 : decode cX3_init 10 = .ok (.iload_n 2, 1) := by decide +kernel
theorem dX3_init_11 : decode cX3_init 11 = .ok (.putfield 15, 3) := by decide +kernel
theorem dX3_init_14 : decode cX3_init 14 = .ok (.aload_n 0, 1) := by decide +kernel
theorem dX3_init_15 : decode cX3_init 15 = .ok (.aload_n 3, 1) := by decide +kernel
theorem dX3_init_16 : decode cX3_init 16 = .ok (.putfield 18, 3) := by decide +kernel
theorem dX3_init_19 : decode cX3_init 19 = .ok (.aload_n 0, 1) := by decide +kernel
theorem dX3_init_20 : decode cX3_init 20 = .ok (.new 22, 3) := by decide +kernel
theorem dX3_init_23 : decode cX3_init 23 = .ok (.dup, 1) := by decide +kernel
theorem dX3_init_24 : decode cX3_init 24 = .ok (.invokespecial 24, 3) := by decide +kernel
theorem dX3_init_27 : decode cX3_init 27 = .ok (.putfield 25, 3) := by decide +kernel
theorem dX3_init_30 : decode cX3_init 30 = .ok (.aload_n 0, 1) := by decide +kernel
theorem dX3_init_31 : decode cX3_init 31 = .ok (.iconst 1, 1) := by decide +kernel
theorem dX3_init_32 : decode cX3_init 32 = .ok (.putfield 29, 3) := by decide +kernel
theorem dX3_init_35 : decode cX3_init 35 = .ok (.aload_n 0, 1) := by decide +kernel
theorem dX3_init_36 : decode cX3_init 36 = .ok (.iconst 0, 1) := by decide +kernel
theorem dX3_init_37 : decode cX3_init 37 = .ok (.putfield 32, 3) := by decide +kernel
theorem dX3_init_40 : decode cX3_init 40 = .ok (.aload_n 0, 1) := by decide +kernel
theorem dX3_init_41 : decode cX3_init 41 = .ok (.aload_n 3, 1) := by decide +kernel
theorem dX3_init_42 : decode cX3_init 42 = .ok (.putfield 35, 3) := by decide +kernel
theorem dX3_init_45 : decode cX3_init 45 = .ok (.return_, 1) := by decide +kernel
theorem dX3_logIsFull_0 : decode cX3_logIsFull 0 = .ok (.aload_n 0, 1) := by decide +kernel
theorem dX3_logIsFull_1 : decode cX3_logIsFull 1 = .ok (.getfield 25, 3) := by decide +kernel
theorem dX3_logIsFull_4 : decode cX3_logIsFull 4 = .ok (.invokevirtual 38, 3) := by decide +kernel
theorem dX3_logIsFull_7 : decode cX3_logIsFull 7 = .ok (.iconst 5, 1) := by decide +kernel
theorem dX3_logIsFull_8 : decode cX3_logIsFull 8 = .ok (.if_icmp .lt 7, 3) := by decide +kernel
theorem dX3_logIsFull_11 : decode cX3_logIsFull 11 = .ok (.iconst 1, 1) := by decide +kernel
theorem dX3_logIsFull_12 : decode cX3_logIsFull 12 = .ok (.goto 4, 3) := by decide +kernel
theorem dX3_logIsFull_15 : decode cX3_logIsFull 15 = .ok (.iconst 0, 1) := by decide +kernel
theorem dX3_logIsFull_16 : decode cX3_logIsFull 16 = .ok (.ireturn, 1) := by decide +kernel
theorem dX3_does_0 : decode cX3_does 0 = .ok (.aload_n 0, 1) := by decide +kernel
theorem dX3_does_1 : decode cX3_does 1 = .ok (.getfield 32, 3) := by decide +kernel
theorem dX3_does_4 : decode cX3_does 4 = .ok (.iload_n 1, 1) := by decide +kernel
theorem dX3_does_5 : decode cX3_does 5 = .ok (.if_icmp .ne 18, 3) := by decide +kernel
theorem dX3_does_8 : decode cX3_does 8 = .ok (.aload_n 0, 1) := by decide +kernel
theorem dX3_does_9 : decode cX3_does 9 = .ok (.getfield 35, 3) := by decide +kernel
theorem dX3_does_12 : decode cX3_does 12 = .ok (.aload_n 2, 1) := by decide +kernel
theorem dX3_does_13 : decode cX3_does 13 = .ok (.invokevirtual 42, 3) := by decide +kernel
theorem dX3_does_16 : decode cX3_does 16 = .ok (.ifCond .eq 7, 3) := by decide +kernel
theorem dX3_does_19 : decode cX3_does 19 = .ok (.iconst 1, 1) := by decide +kernel
theorem dX3_does_20 : decode cX3_does 20 = .ok (.goto 4, 3) := by decide +kernel
theorem dX3_does_23 : decode cX3_does 23 = .ok (.iconst 0, 1) := by decide +kernel
theorem dX3_does_24 : decode cX3_does 24 = .ok (.ireturn, 1) := by decide +kernel
theorem dX3_hasKept_0 : decode cX3_hasKept 0 = .ok (.iconst 0, 1) := by decide +kernel
theorem dX3_hasKept_1 : decode cX3_hasKept 1 = .ok (.istore_n 2, 1) := by decide +kernel
theorem dX3_hasKept_2 : decode cX3_hasKept 2 = .ok (.iload_n 2, 1) := by decide +kernel
theorem dX3_hasKept_3 : decode cX3_hasKept 3 = .ok (.aload_n 0, 1) := by decide +kernel
theorem dX3_hasKept_4 : decode cX3_hasKept 4 = .ok (.getfield 25, 3) := by decide +kernel
theorem dX3_hasKept_7 : decode cX3_hasKept 7 = .ok (.invokevirtual 38, 3) := by decide +kernel
theorem dX3_hasKept_10 : decode cX3_hasKept 10 = .ok (.if_icmp .ge 29, 3) := by decide +kernel
theorem dX3_hasKept_13 : decode cX3_hasKept 13 = .ok (.aload_n 0, 1) := by decide +kernel
theorem dX3_hasKept_14 : decode cX3_hasKept 14 = .ok (.getfield 25, 3) := by decide +kernel
theorem dX3_hasKept_17 : decode cX3_hasKept 17 = .ok (.iload_n 2, 1) := by decide +kernel
theorem dX3_hasKept_18 : decode cX3_hasKept 18 = .ok (.invokevirtual 48, 3) := by decide +kernel
theorem dX3_hasKept_21 : decode cX3_hasKept 21 = .ok (.checkcast 43, 3) := by decide +kernel
theorem dX3_hasKept_24 : decode cX3_hasKept 24 = .ok (.aload_n 1, 1) := by decide +kernel
theorem dX3_hasKept_25 : decode cX3_hasKept 25 = .ok (.invokevirtual 42, 3) := by decide +kernel
theorem dX3_hasKept_28 : decode cX3_hasKept 28 = .ok (.ifCond .eq 5, 3) := by decide +kernel
theorem dX3_hasKept_31 : decode cX3_hasKept 31 = .ok (.iconst 1, 1) := by decide +kernel
theorem dX3_hasKept_32 : decode cX3_hasKept 32 = .ok (.ireturn, 1) := by decide +kernel
theorem dX3_hasKept_33 : decode cX3_hasKept 33 = .ok (.iinc 2 1, 3) := by decide +kernel
theorem dX3_hasKept_36 : decode cX3_hasKept 36 = .ok (.goto (-34), 3) := by decide +kernel
theorem dX3_hasKept_39 : decode cX3_hasKept 39 = .ok (.iconst 0, 1) := by decide +kernel
theorem dX3_hasKept_40 : decode cX3_hasKept 40 = .ok (.ireturn, 1) := by decide +kernel
theorem dX3_start_0 : decode cX3_start 0 = .ok (.aload_n 0, 1) := by decide +kernel
theorem dX3_start_1 : decode cX3_start 1 = .ok (.iload_n 1, 1) := by decide +kernel
theorem dX3_start_2 : decode cX3_start 2 = .ok (.putfield 32, 3) := by decide +kernel
theorem dX3_start_5 : decode cX3_start 5 = .ok (.aload_n 0, 1) := by decide +kernel
theorem dX3_start_6 : decode cX3_start 6 = .ok (.aload_n 2, 1) := by decide +kernel
theorem dX3_start_7 : decode cX3_start 7 = .ok (.putfield 35, 3) := by decide +kernel
theorem dX3_start_10 : decode cX3_start 10 = .ok (.aload_n 0, 1) := by decide +kernel
theorem dX3_start_11 : decode cX3_start 11 = .ok (.dup, 1) := by decide +kernel
theorem dX3_start_12 : decode cX3_start 12 = .ok (.getfield 29, 3) := by decide +kernel
theorem dX3_start_15 : decode cX3_start 15 = .ok (.iconst 1, 1) := by decide +kernel
theorem dX3_start_16 : decode cX3_start 16 = .ok (.iadd, 1) := by decide +kernel
theorem dX3_start_17 : decode cX3_start 17 = .ok (.putfield 29, 3) := by decide +kernel
theorem dX3_start_20 : decode cX3_start 20 = .ok (.return_, 1) := by decide +kernel
theorem dX3_rest_0 : decode cX3_rest 0 = .ok (.aload_n 0, 1) := by decide +kernel
theorem dX3_rest_1 : decode cX3_rest 1 = .ok (.iconst 0, 1) := by decide +kernel
theorem dX3_rest_2 : decode cX3_rest 2 = .ok (.putfield 32, 3) := by decide +kernel
theorem dX3_rest_5 : decode cX3_rest 5 = .ok (.aload_n 0, 1) := by decide +kernel
theorem dX3_rest_6 : decode cX3_rest 6 = .ok (.aload_n 0, 1) := by decide +kernel
theorem dX3_rest_7 : decode cX3_rest 7 = .ok (.getfield 18, 3) := by decide +kernel
theorem dX3_rest_10 : decode cX3_rest 10 = .ok (.putfield 35, 3) := by decide +kernel
theorem dX3_rest_13 : decode cX3_rest 13 = .ok (.return_, 1) := by decide +kernel
theorem dX3_end_0 : decode cX3_end 0 = .ok (.aload_n 0, 1) := by decide +kernel
theorem dX3_end_1 : decode cX3_end 1 = .ok (.getfield 32, 3) := by decide +kernel
theorem dX3_end_4 : decode cX3_end 4 = .ok (.ifCond .ne 4, 3) := by decide +kernel
theorem dX3_end_7 : decode cX3_end 7 = .ok (.return_, 1) := by decide +kernel
theorem dX3_end_8 : decode cX3_end 8 = .ok (.aload_n 0, 1) := by decide +kernel
theorem dX3_end_9 : decode cX3_end 9 = .ok (.getfield 32, 3) := by decide +kernel
theorem dX3_end_12 : decode cX3_end 12 = .ok (.iconst 2, 1) := by decide +kernel
theorem dX3_end_13 : decode cX3_end 13 = .ok (.if_icmp .eq 11, 3) := by decide +kernel
theorem dX3_end_16 : decode cX3_end 16 = .ok (.aload_n 0, 1) := by decide +kernel
theorem dX3_end_17 : decode cX3_end 17 = .ok (.getfield 32, 3) := by decide +kernel
theorem dX3_end_20 : decode cX3_end 20 = .ok (.iconst 3, 1) := by decide +kernel
theorem dX3_end_21 : decode cX3_end 21 = .ok (.if_icmp .ne 15, 3) := by decide +kernel
theorem dX3_end_24 : decode cX3_end 24 = .ok (.aload_n 0, 1) := by decide +kernel
theorem dX3_end_25 : decode cX3_end 25 = .ok (.getfield 25, 3) := by decide +kernel
theorem dX3_end_28 : decode cX3_end 28 = .ok (.aload_n 0, 1) := by decide +kernel
theorem dX3_end_29 : decode cX3_end 29 = .ok (.getfield 35, 3) := by decide +kernel
theorem dX3_end_32 : decode cX3_end 32 = .ok (.invokevirtual 52, 3) := by decide +kernel
theorem dX3_end_35 : decode cX3_end 35 = .ok (.pop, 1) := by decide +kernel
theorem dX3_end_36 : decode cX3_end 36 = .ok (.aload_n 0, 1) := by decide +kernel
theorem dX3_end_37 : decode cX3_end 37 = .ok (.dup, 1) := by decide +kernel
theorem dX3_end_38 : decode cX3_end 38 = .ok (.getfield 29, 3) := by decide +kernel
theorem dX3_end_41 : decode cX3_end 41 = .ok (.iconst 1, 1) := by decide +kernel
theorem dX3_end_42 : decode cX3_end 42 = .ok (.iadd, 1) := by decide +kernel
theorem dX3_end_43 : decode cX3_end 43 = .ok (.putfield 29, 3) := by decide +kernel
theorem dX3_end_46 : decode cX3_end 46 = .ok (.aload_n 0, 1) := by decide +kernel
theorem dX3_end_47 : decode cX3_end 47 = .ok (.invokevirtual 56, 3) := by decide +kernel
theorem dX3_end_50 : decode cX3_end 50 = .ok (.return_, 1) := by decide +kernel
theorem dX4_init_0 : decode cX4_init 0 = .ok (.aload_n 0, 1) := by decide +kernel
theorem dX4_init_1 : decode cX4_init 1 = .ok (.invokespecial 1, 3) := by decide +kernel
theorem dX4_init_4 : decode cX4_init 4 = .ok (.aload_n 0, 1) := by decide +kernel
theorem dX4_init_5 : decode cX4_init 5 = .ok (.iload_n 1, 1) := by decide +kernel
theorem dX4_init_6 : decode cX4_init 6 = .ok (.putfield 7, 3) := by decide +kernel
theorem dX4_init_9 : decode cX4_init 9 = .ok (.aload_n 0, 1) := by decide +kernel
theorem dX4_init_10 : decode cX4_init 10 = .ok (.iload_n 2, 1) := by decide +kernel
theorem dX4_init_11 : decode cX4_init 11 = .ok (.putfield 13, 3) := by decide +kernel
theorem dX4_init_14 : decode cX4_init 14 = .ok (.aload_n 0, 1) := by decide +kernel
theorem dX4_init_15 : decode cX4_init 15 = .ok (.iload_n 3, 1) := by decide +kernel
theorem dX4_init_16 : decode cX4_init 16 = .ok (.putfield 16, 3) := by decide +kernel
theorem dX4_init_19 : decode cX4_init 19 = .ok (.aload_n 0, 1) := by decide +kernel
theorem dX4_init_20 : decode cX4_init 20 = .ok (.iload 4, 2) := by decide +kernel
theorem dX4_init_22 : decode cX4_init 22 = .ok (.putfield 19, 3) := by decide +kernel
theorem dX4_init_25 : decode cX4_init 25 = .ok (.aload_n 0, 1) := by decide +kernel
theorem dX4_init_26 : decode cX4_init 26 = .ok (.iload 5, 2) := by decide +kernel
theorem dX4_init_28 : decode cX4_init 28 = .ok (.putfield 22, 3) := by decide +kernel
theorem dX4_init_31 : decode cX4_init 31 = .ok (.return_, 1) := by decide +kernel
theorem dX4_same_0 : decode cX4_same 0 = .ok (.aload_n 0, 1) := by decide +kernel
theorem dX4_same_1 : decode cX4_same 1 = .ok (.getfield 7, 3) := by decide +kernel
theorem dX4_same_4 : decode cX4_same 4 = .ok (.aload_n 1, 1) := by decide +kernel
theorem dX4_same_5 : decode cX4_same 5 = .ok (.getfield 7, 3) := by decide +kernel
theorem dX4_same_8 : decode cX4_same 8 = .ok (.if_icmp .ne 51, 3) := by decide +kernel
theorem dX4_same_11 : decode cX4_same 11 = .ok (.aload_n 0, 1) := by decide +kernel
theorem dX4_same_12 : decode cX4_same 12 = .ok (.getfield 13, 3) := by decide +kernel
theorem dX4_same_15 : decode cX4_same 15 = .ok (.aload_n 1, 1) := by decide +kernel
theorem dX4_same_16 : decode cX4_same 16 = .ok (.getfield 13, 3) := by decide +kernel
theorem dX4_same_19 : decode cX4_same 19 = .ok (.if_icmp .ne 40, 3) := by decide +kernel
theorem dX4_same_22 : decode cX4_same 22 = .ok (.aload_n 0, 1) := by decide +kernel
theorem dX4_same_23 : decode cX4_same 23 = .ok (.getfield 16, 3) := by decide +kernel
theorem dX4_same_26 : decode cX4_same 26 = .ok (.aload_n 1, 1) := by decide +kernel
theorem dX4_same_27 : decode cX4_same 27 = .ok (.getfield 16, 3) := by decide +kernel
theorem dX4_same_30 : decode cX4_same 30 = .ok (.if_icmp .ne 29, 3) := by decide +kernel
theorem dX4_same_33 : decode cX4_same 33 = .ok (.aload_n 0, 1) := by decide +kernel
theorem dX4_same_34 : decode cX4_same 34 = .ok (.getfield 19, 3) := by decide +kernel
theorem dX4_same_37 : decode cX4_same 37 = .ok (.aload_n 1, 1) := by decide +kernel
theorem dX4_same_38 : decode cX4_same 38 = .ok (.getfield 19, 3) := by decide +kernel
theorem dX4_same_41 : decode cX4_same 41 = .ok (.if_icmp .ne 18, 3) := by decide +kernel
theorem dX4_same_44 : decode cX4_same 44 = .ok (.aload_n 0, 1) := by decide +kernel
theorem dX4_same_45 : decode cX4_same 45 = .ok (.getfield 22, 3) := by decide +kernel
theorem dX4_same_48 : decode cX4_same 48 = .ok (.aload_n 1, 1) := by decide +kernel
theorem dX4_same_49 : decode cX4_same 49 = .ok (.getfield 22, 3) := by decide +kernel
theorem dX4_same_52 : decode cX4_same 52 = .ok (.if_icmp .ne 7, 3) := by decide +kernel
theorem dX4_same_55 : decode cX4_same 55 = .ok (.iconst 1, 1) := by decide +kernel
theorem dX4_same_56 : decode cX4_same 56 = .ok (.goto 4, 3) := by decide +kernel
theorem dX4_same_59 : decode cX4_same 59 = .ok (.iconst 0, 1) := by decide +kernel
theorem dX4_same_60 : decode cX4_same 60 = .ok (.ireturn, 1) := by decide +kernel
end
section
set_option maxRecDepth 20000 in
theorem ggX0_init_Jx4a65c_init_da8c8 : GoodIn wsX0_init wsJx4a65c_init_da8c8 := goodIn_r _ [10, 11, 12, 13, 14, 15, 16, 17, 18, 19, 20, 21, 22, 2, 3, 23, 24, 25] (by decide +kernel) (by decide +kernel)
set_option maxRecDepth 20000 in
theorem gX0_init_Jx4a65c_init_da8c8 : GoodIn wsX0_init (wsJx4a65c_init_da8c8) := ggX0_init_Jx4a65c_init_da8c8
set_option maxRecDepth 20000 in
theorem ggX0_size_Jx4a65c_size_8abf5 : GoodIn wsX0_size wsJx4a65c_size_8abf5 := goodIn_r _ [6, 7, 9, 10, 11] (by decide +kernel) (by decide +kernel)
set_option maxRecDepth 20000 in
theorem gX0_size_Jx4a65c_size_8abf5 : GoodIn wsX0_size (wsV RX0 16 RJx4a65c yJx4a65c_size_8abf5 wsJx4a65c_size_8abf5) := goodIn_app (goodIn_of _ (by decide +kernel)) ggX0_size_Jx4a65c_size_8abf5
set_option maxRecDepth 20000 in
theorem ggX0_hadAmong_Jx4a65c_size_8abf5 : GoodIn wsX0_hadAmong wsJx4a65c_size_8abf5 := goodIn_r _ [9, 10, 42, 43, 44] (by decide +kernel) (by decide +kernel)
set_option maxRecDepth 20000 in
theorem gX0_hadAmong_Jx4a65c_size_8abf5 : GoodIn wsX0_hadAmong (wsV RX0 16 RJx4a65c yJx4a65c_size_8abf5 wsJx4a65c_size_8abf5) := goodIn_app (goodIn_of _ (by decide +kernel)) ggX0_hadAmong_Jx4a65c_size_8abf5
set_option maxRecDepth 20000 in
theorem ggX0_hadAmong_Jx4a65c_get_915e3 : GoodIn wsX0_hadAmong wsJx4a65c_get_915e3 := goodIn_r _ [14, 10, 15, 16, 17, 18, 19, 20, 21, 22, 23, 24, 25, 8, 26, 27, 42, 43, 44] (by decide +kernel) (by decide +kernel)
set_option maxRecDepth 20000 in
theorem gX0_hadAmong_Jx4a65c_get_915e3 : GoodIn wsX0_hadAmong (wsV RX0 20 RJx4a65c yJx4a65c_get_915e3 wsJx4a65c_get_915e3) := goodIn_app (goodIn_of _ (by decide +kernel)) ggX0_hadAmong_Jx4a65c_get_915e3
set_option maxRecDepth 20000 in
theorem ggX0_hadAmong_X4_same : GoodIn wsX0_hadAmong wsX4_same := goodIn_r _ [32, 33, 34, 35, 36, 37, 45, 46, 47, 48, 49] (by decide +kernel) (by decide +kernel)
set_option maxRecDepth 20000 in
theorem gX0_hadAmong_X4_same : GoodIn wsX0_hadAmong (wsV RX0 34 RX4 yX4_same wsX4_same) := goodIn_app (goodIn_of _ (by decide +kernel)) ggX0_hadAmong_X4_same
set_option maxRecDepth 20000 in
theorem ggX0_has_Jx4a65c_size_8abf5 : GoodIn wsX0_has wsJx4a65c_size_8abf5 := goodIn_r _ [6, 7, 44, 45, 46] (by decide +kernel) (by decide +kernel)
set_option maxRecDepth 20000 in
theorem gX0_has_Jx4a65c_size_8abf5 : GoodIn wsX0_has (wsV RX0 16 RJx4a65c yJx4a65c_size_8abf5 wsJx4a65c_size_8abf5) := goodIn_app (goodIn_of _ (by decide +kernel)) ggX0_has_Jx4a65c_size_8abf5
set_option maxRecDepth 20000 in
theorem ggX0_has_X0_hadAmong : GoodIn wsX0_has wsX0_hadAmong := goodIn_r _ [12, 1, 13, 14, 15, 2, 3, 4, 5, 6, 7, 16, 17, 18, 19, 20, 21, 22, 23, 24, 25, 26, 27, 28, 29, 30, 31, 32, 33, 34, 35, 36, 37, 38, 39, 40, 41, 42, 43, 47, 48, 49, 44, 45, 46, 50, 51, 52, 53, 54] (by decide +kernel) (by decide +kernel)
set_option maxRecDepth 20000 in
theorem gX0_has_X0_hadAmong : GoodIn wsX0_has (wsV RX0 40 RX0 yX0_hadAmong wsX0_hadAmong) := goodIn_app (goodIn_of _ (by decide +kernel)) ggX0_has_X0_hadAmong
set_option maxRecDepth 20000 in
theorem ggX0_hasAnyOf_Jx4a65c_size_8abf5 : GoodIn wsX0_hasAnyOf wsJx4a65c_size_8abf5 := goodIn_r _ [8, 9, 31, 32, 33] (by decide +kernel) (by decide +kernel)
set_option maxRecDepth 20000 in
theorem gX0_hasAnyOf_Jx4a65c_size_8abf5 : GoodIn wsX0_hasAnyOf (wsV RX0 16 RJx4a65c yJx4a65c_size_8abf5 wsJx4a65c_size_8abf5) := goodIn_app (goodIn_of _ (by decide +kernel)) ggX0_hasAnyOf_Jx4a65c_size_8abf5
set_option maxRecDepth 20000 in
theorem ggX0_hasAnyOf_Jx4a65c_get_915e3 : GoodIn wsX0_hasAnyOf wsJx4a65c_get_915e3 := goodIn_r _ [13, 9, 14, 15, 16, 17, 18, 19, 20, 21, 22, 23, 24, 7, 25, 26, 31, 32, 33] (by decide +kernel) (by decide +kernel)
set_option maxRecDepth 20000 in
theorem gX0_hasAnyOf_Jx4a65c_get_915e3 : GoodIn wsX0_hasAnyOf (wsV RX0 20 RJx4a65c yJx4a65c_get_915e3 wsJx4a65c_get_915e3) := goodIn_app (goodIn_of _ (by decide +kernel)) ggX0_hasAnyOf_Jx4a65c_get_915e3
set_option maxRecDepth 20000 in
theorem ggX0_hasRefunded_Jx4a65c_size_8abf5 : GoodIn wsX0_hasRefunded wsJx4a65c_size_8abf5 := goodIn_r _ [9, 10, 42, 43, 44] (by decide +kernel) (by decide +kernel)
set_option maxRecDepth 20000 in
theorem gX0_hasRefunded_Jx4a65c_size_8abf5 : GoodIn wsX0_hasRefunded (wsV RX0 16 RJx4a65c yJx4a65c_size_8abf5 wsJx4a65c_size_8abf5) := goodIn_app (goodIn_of _ (by decide +kernel)) ggX0_hasRefunded_Jx4a65c_size_8abf5
set_option maxRecDepth 20000 in
theorem ggX0_hasRefunded_Jx4a65c_get_915e3 : GoodIn wsX0_hasRefunded wsJx4a65c_get_915e3 := goodIn_r _ [14, 10, 15, 16, 17, 18, 19, 20, 21, 22, 23, 24, 25, 8, 26, 27, 42, 43, 44] (by decide +kernel) (by decide +kernel)
set_option maxRecDepth 20000 in
theorem gX0_hasRefunded_Jx4a65c_get_915e3 : GoodIn wsX0_hasRefunded (wsV RX0 20 RJx4a65c yJx4a65c_get_915e3 wsJx4a65c_get_915e3) := goodIn_app (goodIn_of _ (by decide +kernel)) ggX0_hasRefunded_Jx4a65c_get_915e3
set_option maxRecDepth 20000 in
theorem ggX0_hasRefunded_X4_same : GoodIn wsX0_hasRefunded wsX4_same := goodIn_r _ [32, 33, 34, 35, 36, 37, 45, 46, 47, 48, 49] (by decide +kernel) (by decide +kernel)
set_option maxRecDepth 20000 in
theorem gX0_hasRefunded_X4_same : GoodIn wsX0_hasRefunded (wsV RX0 34 RX4 yX4_same wsX4_same) := goodIn_app (goodIn_of _ (by decide +kernel)) ggX0_hasRefunded_X4_same
set_option maxRecDepth 20000 in
theorem ggX0_markRefunded_Jx4a65c_size_8abf5 : GoodIn wsX0_markRefunded wsJx4a65c_size_8abf5 := goodIn_r _ [9, 10, 42, 43, 44] (by decide +kernel) (by decide +kernel)
set_option maxRecDepth 20000 in
theorem gX0_markRefunded_Jx4a65c_size_8abf5 : GoodIn wsX0_markRefunded (wsV RX0 16 RJx4a65c yJx4a65c_size_8abf5 wsJx4a65c_size_8abf5) := goodIn_app (goodIn_of _ (by decide +kernel)) ggX0_markRefunded_Jx4a65c_size_8abf5
set_option maxRecDepth 20000 in
theorem ggX0_markRefunded_Jx4a65c_get_915e3 : GoodIn wsX0_markRefunded wsJx4a65c_get_915e3 := goodIn_r _ [14, 10, 15, 16, 17, 18, 19, 20, 21, 22, 23, 24, 25, 8, 26, 27, 42, 43, 44] (by decide +kernel) (by decide +kernel)
set_option maxRecDepth 20000 in
theorem gX0_markRefunded_Jx4a65c_get_915e3 : GoodIn wsX0_markRefunded (wsV RX0 20 RJx4a65c yJx4a65c_get_915e3 wsJx4a65c_get_915e3) := goodIn_app (goodIn_of _ (by decide +kernel)) ggX0_markRefunded_Jx4a65c_get_915e3
set_option maxRecDepth 20000 in
theorem ggX0_markRefunded_X4_same : GoodIn wsX0_markRefunded wsX4_same := goodIn_r _ [32, 33, 34, 35, 36, 37, 45, 46, 47, 48, 49] (by decide +kernel) (by decide +kernel)
set_option maxRecDepth 20000 in
theorem gX0_markRefunded_X4_same : GoodIn wsX0_markRefunded (wsV RX0 34 RX4 yX4_same wsX4_same) := goodIn_app (goodIn_of _ (by decide +kernel)) ggX0_markRefunded_X4_same
set_option maxRecDepth 20000 in
theorem ggX0_takeRecord_X0_has : GoodIn wsX0_takeRecord wsX0_has := goodIn_r _ [9, 1, 10, 11, 12, 13, 14, 15, 16, 17, 18, 8, 19, 20, 21, 22, 23, 24, 25, 26, 27, 28, 29, 30, 31, 32, 33, 34, 35, 36, 37, 38, 39, 40, 41, 42, 43, 44, 45, 46, 47, 48, 49, 111, 115, 116, 117, 112, 113, 114, 118, 119, 120, 121, 122] (by decide +kernel) (by decide +kernel)
set_option maxRecDepth 20000 in
theorem gX0_takeRecord_X0_has : GoodIn wsX0_takeRecord (wsV RX0 48 RX0 yX0_has wsX0_has) := goodIn_app (goodIn_of _ (by decide +kernel)) ggX0_takeRecord_X0_has
set_option maxRecDepth 20000 in
theorem ggX0_takeRecord_X1_init : GoodIn wsX0_takeRecord wsX1_init := goodIn_r _ [52, 53, 54, 55, 56, 57, 112, 113, 114] (by decide +kernel) (by decide +kernel)
set_option maxRecDepth 20000 in
theorem gX0_takeRecord_X1_init : GoodIn wsX0_takeRecord (wsX1_init) := ggX0_takeRecord_X1_init
set_option maxRecDepth 20000 in
theorem ggX0_takeRecord_Jx4a65c_add_9ea2d : GoodIn wsX0_takeRecord wsJx4a65c_add_9ea2d := goodIn_r _ [61, 62, 63, 39, 15, 64, 65, 66, 13, 67, 68, 69, 70, 71, 72, 73, 74, 75, 76, 77, 78, 79, 80, 81, 82, 83, 84, 85, 86, 87, 88, 89, 90, 91, 92, 93, 94, 95, 96, 97, 98, 99, 100, 101, 102, 103, 104, 105, 106, 107, 108, 109, 110, 115, 116, 117] (by decide +kernel) (by decide +kernel)
set_option maxRecDepth 20000 in
theorem gX0_takeRecord_Jx4a65c_add_9ea2d : GoodIn wsX0_takeRecord (wsV RX0 55 RJx4a65c yJx4a65c_add_9ea2d wsJx4a65c_add_9ea2d) := goodIn_app (goodIn_of _ (by decide +kernel)) ggX0_takeRecord_Jx4a65c_add_9ea2d
set_option maxRecDepth 20000 in
theorem ggX3_init_Jx4a65c_init_da8c8 : GoodIn wsX3_init wsJx4a65c_init_da8c8 := goodIn_r _ [16, 17, 18, 19, 20, 21, 22, 23, 24, 25, 26, 27, 28, 2, 3, 36, 37, 38] (by decide +kernel) (by decide +kernel)
set_option maxRecDepth 20000 in
theorem gX3_init_Jx4a65c_init_da8c8 : GoodIn wsX3_init (wsJx4a65c_init_da8c8) := ggX3_init_Jx4a65c_init_da8c8
set_option maxRecDepth 20000 in
theorem ggX3_logIsFull_Jx4a65c_size_8abf5 : GoodIn wsX3_logIsFull wsJx4a65c_size_8abf5 := goodIn_r _ [6, 7, 15, 16, 17] (by decide +kernel) (by decide +kernel)
set_option maxRecDepth 20000 in
theorem gX3_logIsFull_Jx4a65c_size_8abf5 : GoodIn wsX3_logIsFull (wsV RX3 38 RJx4a65c yJx4a65c_size_8abf5 wsJx4a65c_size_8abf5) := goodIn_app (goodIn_of _ (by decide +kernel)) ggX3_logIsFull_Jx4a65c_size_8abf5
set_option maxRecDepth 20000 in
theorem ggX3_does_X4_same : GoodIn wsX3_does wsX4_same := goodIn_r _ [7, 8, 9, 10, 11, 12, 20, 21, 22, 23, 24] (by decide +kernel) (by decide +kernel)
set_option maxRecDepth 20000 in
theorem gX3_does_X4_same : GoodIn wsX3_does (wsV RX3 42 RX4 yX4_same wsX4_same) := goodIn_app (goodIn_of _ (by decide +kernel)) ggX3_does_X4_same
set_option maxRecDepth 20000 in
theorem ggX3_hasKept_Jx4a65c_size_8abf5 : GoodIn wsX3_hasKept wsJx4a65c_size_8abf5 := goodIn_r _ [7, 8, 43, 44, 45] (by decide +kernel) (by decide +kernel)
set_option maxRecDepth 20000 in
theorem gX3_hasKept_Jx4a65c_size_8abf5 : GoodIn wsX3_hasKept (wsV RX3 38 RJx4a65c yJx4a65c_size_8abf5 wsJx4a65c_size_8abf5) := goodIn_app (goodIn_of _ (by decide +kernel)) ggX3_hasKept_Jx4a65c_size_8abf5
set_option maxRecDepth 20000 in
theorem ggX3_hasKept_Jx4a65c_get_915e3 : GoodIn wsX3_hasKept wsJx4a65c_get_915e3 := goodIn_r _ [12, 8, 13, 14, 15, 16, 17, 18, 19, 20, 21, 22, 23, 6, 24, 25, 43, 44, 45] (by decide +kernel) (by decide +kernel)
set_option maxRecDepth 20000 in
theorem gX3_hasKept_Jx4a65c_get_915e3 : GoodIn wsX3_hasKept (wsV RX3 48 RJx4a65c yJx4a65c_get_915e3 wsJx4a65c_get_915e3) := goodIn_app (goodIn_of _ (by decide +kernel)) ggX3_hasKept_Jx4a65c_get_915e3
set_option maxRecDepth 20000 in
theorem ggX3_hasKept_X4_same : GoodIn wsX3_hasKept wsX4_same := goodIn_r _ [30, 31, 32, 33, 34, 35, 46, 47, 48, 49, 50] (by decide +kernel) (by decide +kernel)
set_option maxRecDepth 20000 in
theorem gX3_hasKept_X4_same : GoodIn wsX3_hasKept (wsV RX3 42 RX4 yX4_same wsX4_same) := goodIn_app (goodIn_of _ (by decide +kernel)) ggX3_hasKept_X4_same
set_option maxRecDepth 20000 in
theorem ggX3_end_Jx4a65c_add_9ea2d : GoodIn wsX3_end wsJx4a65c_add_9ea2d := goodIn_r _ [9, 10, 11, 12, 13, 14, 15, 16, 8, 17, 18, 19, 20, 21, 22, 23, 24, 25, 26, 27, 28, 29, 30, 31, 32, 33, 34, 35, 36, 37, 38, 39, 40, 41, 42, 43, 44, 45, 46, 47, 48, 49, 50, 51, 52, 53, 54, 55, 56, 57, 58, 59, 60, 74, 75, 76] (by decide +kernel) (by decide +kernel)
set_option maxRecDepth 20000 in
theorem gX3_end_Jx4a65c_add_9ea2d : GoodIn wsX3_end (wsV RX3 52 RJx4a65c yJx4a65c_add_9ea2d wsJx4a65c_add_9ea2d) := goodIn_app (goodIn_of _ (by decide +kernel)) ggX3_end_Jx4a65c_add_9ea2d
set_option maxRecDepth 20000 in
theorem ggX3_end_X3_rest : GoodIn wsX3_end wsX3_rest := goodIn_r _ [65, 1, 66, 3, 67, 68, 69, 70, 71, 72, 73] (by decide +kernel) (by decide +kernel)
set_option maxRecDepth 20000 in
theorem gX3_end_X3_rest : GoodIn wsX3_end (wsV RX3 56 RX3 yX3_rest wsX3_rest) := goodIn_app (goodIn_of _ (by decide +kernel)) ggX3_end_X3_rest
end
section
theorem dX5_init_0 : decode cX5_init 0 = .ok (.aload_n 0, 1) := by decide +kernel
theorem dX5_init_1 : decode cX5_init 1 = .ok (.invokespecial 1, 3) := by decide +kernel
theorem dX5_init_4 : decode cX5_init 4 = .ok (.aload_n 0, 1) := by decide +kernel
theorem dX5_init_5 : decode cX5_init 5 = .ok (.new 7, 3) := by decide +kernel
theorem dX5_init_8 : decode cX5_init 8 = .ok (.dup, 1) := by decide +kernel
theorem dX5_init_9 : decode cX5_init 9 = .ok (.iconst (-1), 1) := by decide +kernel
theorem dX5_init_10 : decode cX5_init 10 = .ok (.iconst (-1), 1) := by decide +kernel
theorem dX5_init_11 : decode cX5_init 11 = .ok (.iconst (-1), 1) := by decide +kernel
theorem dX5_init_12 : decode cX5_init 12 = .ok (.iconst (-1), 1) := by decide +kernel
theorem dX5_init_13 : decode cX5_init 13 = .ok (.iconst (-1), 1) := by decide +kernel
theorem dX5_init_14 : decode cX5_init 14 = .ok (.invokespecial 11, 3) := by decide +kernel
theorem dX5_init_17 : decode cX5_init 17 = .ok (.putfield 14, 3) := by decide +kernel
theorem dX5_init_20 : decode cX5_init 20 = .ok (.aload_n 0, 1) := by decide +kernel
theorem dX5_init_21 : decode cX5_init 21 = .ok (.new 18, 3) := by decide +kernel
theorem dX5_init_24 : decode cX5_init 24 = .ok (.dup, 1) := by decide +kernel
theorem dX5_init_25 : decode cX5_init 25 = .ok (.invokespecial 20, 3) := by decide +kernel
theorem dX5_init_28 : decode cX5_init 28 = .ok (.putfield 21, 3) := by decide +kernel
theorem dX5_init_31 : decode cX5_init 31 = .ok (.aload_n 0, 1) := by decide +kernel
theorem dX5_init_32 : decode cX5_init 32 = .ok (.new 18, 3) := by decide +kernel
theorem dX5_init_35 : decode cX5_init 35 = .ok (.dup, 1) := by decide +kernel
theorem dX5_init_36 : decode cX5_init 36 = .ok (.invokespecial 20, 3) := by decide +kernel
theorem dX5_init_39 : decode cX5_init 39 = .ok (.putfield 25, 3) := by decide +kernel
theorem dX5_init_42 : decode cX5_init 42 = .ok (.aload_n 0, 1) := by decide +kernel
theorem dX5_init_43 : decode cX5_init 43 = .ok (.new 28, 3) := by decide +kernel
theorem dX5_init_46 : decode cX5_init 46 = .ok (.dup, 1) := by decide +kernel
theorem dX5_init_47 : decode cX5_init 47 = .ok (.invokespecial 30, 3) := by decide +kernel
theorem dX5_init_50 : decode cX5_init 50 = .ok (.putfield 31, 3) := by decide +kernel
theorem dX5_init_53 : decode cX5_init 53 = .ok (.return_, 1) := by decide +kernel
theorem dX5_purse_0 : decode cX5_purse 0 = .ok (.iload_n 1, 1) := by decide +kernel
theorem dX5_purse_1 : decode cX5_purse 1 = .ok (.ifCond .lt 9, 3) := by decide +kernel
theorem dX5_purse_4 : decode cX5_purse 4 = .ok (.iload_n 1, 1) := by decide +kernel
theorem dX5_purse_5 : decode cX5_purse 5 = .ok (.ldc 35, 2) := by decide +kernel
theorem dX5_purse_7 : decode cX5_purse 7 = .ok (.if_icmp .le 13, 3) := by decide +kernel
theorem dX5_purse_10 : decode cX5_purse 10 = .ok (.new 36, 3) := by decide +kernel
theorem dX5_purse_13 : decode cX5_purse 13 = .ok (.dup, 1) := by decide +kernel
theorem dX5_purse_14 : decode cX5_purse 14 = .ok (.ldc 38, 2) := by decide +kernel
theorem dX5_purse_16 : decode cX5_purse 16 = .ok (.invokespecial 40, 3) := by decide +kernel
theorem dX5_purse_19 : decode cX5_purse 19 = .ok (.athrow, 1) := by decide +kernel
theorem dX5_purse_20 : decode cX5_purse 20 = .ok (.aload_n 0, 1) := by decide +kernel
theorem dX5_purse_21 : decode cX5_purse 21 = .ok (.getfield 21, 3) := by decide +kernel
theorem dX5_purse_24 : decode cX5_purse 24 = .ok (.invokevirtual 43, 3) := by decide +kernel
theorem dX5_purse_27 : decode cX5_purse 27 = .ok (.bipush 12, 2) := by decide +kernel
theorem dX5_purse_29 : decode cX5_purse 29 = .ok (.if_icmp .lt 13, 3) := by decide +kernel
theorem dX5_purse_32 : decode cX5_purse 32 = .ok (.new 47, 3) := by decide +kernel
theorem dX5_purse_35 : decode cX5_purse 35 = .ok (.dup, 1) := by decide +kernel
theorem dX5_purse_36 : decode cX5_purse 36 = .ok (.ldc 49, 2) := by decide +kernel
theorem dX5_purse_38 : decode cX5_purse 38 = .ok (.invokespecial 51, 3) := by decide +kernel
theorem dX5_purse_41 : decode cX5_purse 41 = .ok (.athrow, 1) := by decide +kernel
theorem dX5_purse_42 : decode cX5_purse 42 = .ok (.aload_n 0, 1) := by decide +kernel
theorem dX5_purse_43 : decode cX5_purse 43 = .ok (.getfield 21, 3) := by decide +kernel
theorem dX5_purse_46 : decode cX5_purse 46 = .ok (.invokevirtual 43, 3) := by decide +kernel
theorem dX5_purse_49 : decode cX5_purse 49 = .ok (.istore_n 2, 1) := by decide +kernel
theorem dX5_purse_50 : decode cX5_purse 50 = .ok (.aload_n 0, 1) := by decide +kernel
theorem dX5_purse_51 : decode cX5_purse 51 = .ok (.getfield 21, 3) := by decide +kernel
theorem dX5_purse_54 : decode cX5_purse 54 = .ok (.new 52, 3) := by decide +kernel
theorem dX5_purse_57 : decode cX5_purse 57 = .ok (.dup, 1) := by decide +kernel
theorem dX5_purse_58 : decode cX5_purse 58 = .ok (.iload_n 2, 1) := by decide +kernel
theorem dX5_purse_59 : decode cX5_purse 59 = .ok (.iload_n 1, 1) := by decide +kernel
theorem dX5_purse_60 : decode cX5_purse 60 = .ok (.aload_n 0, 1) := by decide +kernel
theorem dX5_purse_61 : decode cX5_purse 61 = .ok (.getfield 14, 3) := by decide +kernel
theorem dX5_purse_64 : decode cX5_purse 64 = .ok (.invokespecial 54, 3) := by decide +kernel
theorem dX5_purse_67 : decode cX5_purse 67 = .ok (.invokevirtual 57, 3) := by decide +kernel
theorem dX5_purse_70 : decode cX5_purse 70 = .ok (.pop, 1) := by decide +kernel
theorem dX5_purse_71 : decode cX5_purse 71 = .ok (.iload_n 2, 1) := by decide +kernel
theorem dX5_purse_72 : decode cX5_purse 72 = .ok (.ireturn, 1) := by decide +kernel
theorem dX5_begin_0 : decode cX5_begin 0 = .ok (.aload_n 0, 1) := by decide +kernel
theorem dX5_begin_1 : decode cX5_begin 1 = .ok (.iload_n 1, 1) := by decide +kernel
theorem dX5_begin_2 : decode cX5_begin 2 = .ok (.invokevirtual 61, 3) := by decide +kernel
theorem dX5_begin_5 : decode cX5_begin 5 = .ok (.astore 4, 2) := by decide +kernel
theorem dX5_begin_7 : decode cX5_begin 7 = .ok (.aload_n 0, 1) := by decide +kernel
theorem dX5_begin_8 : decode cX5_begin 8 = .ok (.iload_n 2, 1) := by decide +kernel
theorem dX5_begin_9 : decode cX5_begin 9 = .ok (.invokevirtual 61, 3) := by decide +kernel
theorem dX5_begin_12 : decode cX5_begin 12 = .ok (.astore 5, 2) := by decide +kernel
theorem dX5_begin_14 : decode cX5_begin 14 = .ok (.iload_n 1, 1) := by decide +kernel
theorem dX5_begin_15 : decode cX5_begin 15 = .ok (.iload_n 2, 1) := by decide +kernel
theorem dX5_begin_16 : decode cX5_begin 16 = .ok (.if_icmp .ne 13, 3) := by decide +kernel
theorem dX5_begin_19 : decode cX5_begin 19 = .ok (.new 36, 3) := by decide +kernel
theorem dX5_begin_22 : decode cX5_begin 22 = .ok (.dup, 1) := by decide +kernel
theorem dX5_begin_23 : decode cX5_begin 23 = .ok (.ldc 65, 2) := by decide +kernel
theorem dX5_begin_25 : decode cX5_begin 25 = .ok (.invokespecial 40, 3) := by decide +kernel
theorem dX5_begin_28 : decode cX5_begin 28 = .ok (.athrow, 1) := by decide +kernel
theorem dX5_begin_29 : decode cX5_begin 29 = .ok (.iload_n 3, 1) := by decide +kernel
theorem dX5_begin_30 : decode cX5_begin 30 = .ok (.iconst 1, 1) := by decide +kernel
theorem dX5_begin_31 : decode cX5_begin 31 = .ok (.if_icmp .lt 9, 3) := by decide +kernel
theorem dX5_begin_34 : decode cX5_begin 34 = .ok (.iload_n 3, 1) := by decide +kernel
theorem dX5_begin_35 : decode cX5_begin 35 = .ok (.ldc 67, 2) := by decide +kernel
theorem dX5_begin_37 : decode cX5_begin 37 = .ok (.if_icmp .le 13, 3) := by decide +kernel
theorem dX5_begin_40 : decode cX5_begin 40 = .ok (.new 36, 3) := by decide +kernel
theorem dX5_begin_43 : decode cX5_begin 43 = .ok (.dup, 1) := by decide +kernel
theorem dX5_begin_44 : decode cX5_begin 44 = .ok (.ldc 68, 2) := by decide +kernel
theorem dX5_begin_46 : decode cX5_begin 46 = .ok (.invokespecial 40, 3) := by decide +kernel
theorem dX5_begin_49 : decode cX5_begin 49 = .ok (.athrow, 1) := by decide +kernel
theorem dX5_begin_50 : decode cX5_begin 50 = .ok (.aload_n 0, 1) := by decide +kernel
theorem dX5_begin_51 : decode cX5_begin 51 = .ok (.iconst 2, 1) := by decide +kernel
theorem dX5_begin_52 : decode cX5_begin 52 = .ok (.invokevirtual 70, 3) := by decide +kernel
theorem dX5_begin_55 : decode cX5_begin 55 = .ok (.aload_n 0, 1) := by decide +kernel
theorem dX5_begin_56 : decode cX5_begin 56 = .ok (.iconst 0, 1) := by decide +kernel
theorem dX5_begin_57 : decode cX5_begin 57 = .ok (.iload_n 1, 1) := by decide +kernel
theorem dX5_begin_58 : decode cX5_begin 58 = .ok (.new 7, 3) := by decide +kernel
theorem dX5_begin_61 : decode cX5_begin 61 = .ok (.dup, 1) := by decide +kernel
theorem dX5_begin_62 : decode cX5_begin 62 = .ok (.iload_n 1, 1) := by decide +kernel
theorem dX5_begin_63 : decode cX5_begin 63 = .ok (.iconst 0, 1) := by decide +kernel
theorem dX5_begin_64 : decode cX5_begin 64 = .ok (.iload_n 2, 1) := by decide +kernel
theorem dX5_begin_65 : decode cX5_begin 65 = .ok (.aload 5, 2) := by decide +kernel
theorem dX5_begin_67 : decode cX5_begin 67 = .ok (.getfield 74, 3) := by decide +kernel
theorem dX5_begin_70 : decode cX5_begin 70 = .ok (.iload_n 3, 1) := by decide +kernel
theorem dX5_begin_71 : decode cX5_begin 71 = .ok (.invokespecial 11, 3) := by decide +kernel
theorem dX5_begin_74 : decode cX5_begin 74 = .ok (.invokevirtual 78, 3) := by decide +kernel
theorem dX5_begin_77 : decode cX5_begin 77 = .ok (.istore 6, 2) := by decide +kernel
theorem dX5_begin_79 : decode cX5_begin 79 = .ok (.aload_n 0, 1) := by decide +kernel
theorem dX5_begin_80 : decode cX5_begin 80 = .ok (.iconst 1, 1) := by decide +kernel
theorem dX5_begin_81 : decode cX5_begin 81 = .ok (.iload_n 2, 1) := by decide +kernel
theorem dX5_begin_82 : decode cX5_begin 82 = .ok (.new 7, 3) := by decide +kernel
theorem dX5_begin_85 : decode cX5_begin 85 = .ok (.dup, 1) := by decide +kernel
theorem dX5_begin_86 : decode cX5_begin 86 = .ok (.iload_n 1, 1) := by decide +kernel
theorem dX5_begin_87 : decode cX5_begin 87 = .ok (.aload 4, 2) := by decide +kernel
theorem dX5_begin_89 : decode cX5_begin 89 = .ok (.getfield 74, 3) := by decide +kernel
theorem dX5_begin_92 : decode cX5_begin 92 = .ok (.iload_n 2, 1) := by decide +kernel
theorem dX5_begin_93 : decode cX5_begin 93 = .ok (.iconst 0, 1) := by decide +kernel
theorem dX5_begin_94 : decode cX5_begin 94 = .ok (.iload_n 3, 1) := by decide +kernel
theorem dX5_begin_95 : decode cX5_begin 95 = .ok (.invokespecial 11, 3) := by decide +kernel
theorem dX5_begin_98 : decode cX5_begin 98 = .ok (.invokevirtual 78, 3) := by decide +kernel
theorem dX5_begin_101 : decode cX5_begin 101 = .ok (.pop, 1) := by decide +kernel
theorem dX5_begin_102 : decode cX5_begin 102 = .ok (.iload 6, 2) := by decide +kernel
theorem dX5_begin_104 : decode cX5_begin 104 = .ok (.ireturn, 1) := by decide +kernel
theorem dX5_deliver_0 : decode cX5_deliver 0 = .ok (.aload_n 0, 1) := by decide +kernel
theorem dX5_deliver_1 : decode cX5_deliver 1 = .ok (.iload_n 1, 1) := by decide +kernel
theorem dX5_deliver_2 : decode cX5_deliver 2 = .ok (.invokevirtual 82, 3) := by decide +kernel
theorem dX5_deliver_5 : decode cX5_deliver 5 = .ok (.astore_n 2, 1) := by decide +kernel
theorem dX5_deliver_6 : decode cX5_deliver 6 = .ok (.aload_n 0, 1) := by decide +kernel
theorem dX5_deliver_7 : decode cX5_deliver 7 = .ok (.aload_n 2, 1) := by decide +kernel
theorem dX5_deliver_8 : decode cX5_deliver 8 = .ok (.invokevirtual 86, 3) := by decide +kernel
theorem dX5_deliver_11 : decode cX5_deliver 11 = .ok (.ifCond .eq 8, 3) := by decide +kernel
theorem dX5_deliver_14 : decode cX5_deliver 14 = .ok (.aload_n 0, 1) := by decide +kernel
theorem dX5_deliver_15 : decode cX5_deliver 15 = .ok (.iconst 1, 1) := by decide +kernel
theorem dX5_deliver_16 : decode cX5_deliver 16 = .ok (.invokevirtual 70, 3) := by decide +kernel
theorem dX5_deliver_19 : decode cX5_deliver 19 = .ok (.aload_n 2, 1) := by decide +kernel
theorem dX5_deliver_20 : decode cX5_deliver 20 = .ok (.getfield 90, 3) := by decide +kernel
theorem dX5_deliver_23 : decode cX5_deliver 23 = .ok (.tableswitch 83 0 5 #[37, 43, 49, 55, 61, 67], 37) := by decide +kernel
theorem dX5_deliver_60 : decode cX5_deliver 60 = .ok (.aload_n 0, 1) := by decide +kernel
theorem dX5_deliver_61 : decode cX5_deliver 61 = .ok (.aload_n 2, 1) := by decide +kernel
theorem dX5_deliver_62 : decode cX5_deliver 62 = .ok (.invokevirtual 95, 3) := by decide +kernel
theorem dX5_deliver_65 : decode cX5_deliver 65 = .ok (.ireturn, 1) := by decide +kernel
theorem dX5_deliver_66 : decode cX5_deliver 66 = .ok (.aload_n 0, 1) := by decide +kernel
theorem dX5_deliver_67 : decode cX5_deliver 67 = .ok (.aload_n 2, 1) := by decide +kernel
theorem dX5_deliver_68 : decode cX5_deliver 68 = .ok (.invokevirtual 98, 3) := by decide +kernel
theorem dX5_deliver_71 : decode cX5_deliver 71 = .ok (.ireturn, 1) := by decide +kernel
theorem dX5_deliver_72 : decode cX5_deliver 72 = .ok (.aload_n 0, 1) := by decide +kernel
theorem dX5_deliver_73 : decode cX5_deliver 73 = .ok (.aload_n 2, 1) := by decide +kernel
theorem dX5_deliver_74 : decode cX5_deliver 74 = .ok (.invokevirtual 101, 3) := by decide +kernel
theorem dX5_deliver_77 : decode cX5_deliver 77 = .ok (.ireturn, 1) := by decide +kernel
theorem dX5_deliver_78 : decode cX5_deliver 78 = .ok (.aload_n 0, 1) := by decide +kernel
theorem dX5_deliver_79 : decode cX5_deliver 79 = .ok (.aload_n 2, 1) := by decide +kernel
theorem dX5_deliver_80 : decode cX5_deliver 80 = .ok (.invokevirtual 104, 3) := by decide +kernel
theorem dX5_deliver_83 : decode cX5_deliver 83 = .ok (.ireturn, 1) := by decide +kernel
theorem dX5_deliver_84 : decode cX5_deliver 84 = .ok (.aload_n 0, 1) := by decide +kernel
theorem dX5_deliver_85 : decode cX5_deliver 85 = .ok (.aload_n 2, 1) := by decide +kernel
theorem dX5_deliver_86 : decode cX5_deliver 86 = .ok (.invokevirtual 107, 3) := by decide +kernel
theorem dX5_deliver_89 : decode cX5_deliver 89 = .ok (.ireturn, 1) := by decide +kernel
theorem dX5_deliver_90 : decode cX5_deliver 90 = .ok (.aload_n 0, 1) := by decide +kernel
theorem dX5_deliver_91 : decode cX5_deliver 91 = .ok (.getfield 31, 3) := by decide +kernel
theorem dX5_deliver_94 : decode cX5_deliver 94 = .ok (.aload_n 2, 1) := by decide +kernel
theorem dX5_deliver_95 : decode cX5_deliver 95 = .ok (.getfield 110, 3) := by decide +kernel
theorem dX5_deliver_98 : decode cX5_deliver 98 = .ok (.aload_n 2, 1) := by decide +kernel
theorem dX5_deliver_99 : decode cX5_deliver 99 = .ok (.getfield 113, 3) := by decide +kernel
theorem dX5_deliver_102 : decode cX5_deliver 102 = .ok (.invokevirtual 116, 3) := by decide +kernel
theorem dX5_deliver_105 : decode cX5_deliver 105 = .ok (.ireturn, 1) := by decide +kernel
theorem dX5_deliver_106 : decode cX5_deliver 106 = .ok (.aload_n 0, 1) := by decide +kernel
theorem dX5_deliver_107 : decode cX5_deliver 107 = .ok (.aload_n 2, 1) := by decide +kernel
theorem dX5_deliver_108 : decode cX5_deliver 108 = .ok (.invokevirtual 120, 3) := by decide +kernel
theorem dX5_deliver_111 : decode cX5_deliver 111 = .ok (.ireturn, 1) := by decide +kernel
theorem dX5_abort_0 : decode cX5_abort 0 = .ok (.aload_n 0, 1) := by decide +kernel
theorem dX5_abort_1 : decode cX5_abort 1 = .ok (.iload_n 1, 1) := by decide +kernel
theorem dX5_abort_2 : decode cX5_abort 2 = .ok (.invokevirtual 61, 3) := by decide +kernel
theorem dX5_abort_5 : decode cX5_abort 5 = .ok (.astore_n 2, 1) := by decide +kernel
theorem dX5_abort_6 : decode cX5_abort 6 = .ok (.aload_n 2, 1) := by decide +kernel
theorem dX5_abort_7 : decode cX5_abort 7 = .ok (.getfield 123, 3) := by decide +kernel
theorem dX5_abort_10 : decode cX5_abort 10 = .ok (.istore_n 3, 1) := by decide +kernel
theorem dX5_abort_11 : decode cX5_abort 11 = .ok (.aload_n 2, 1) := by decide +kernel
theorem dX5_abort_12 : decode cX5_abort 12 = .ok (.invokevirtual 126, 3) := by decide +kernel
theorem dX5_abort_15 : decode cX5_abort 15 = .ok (.iload_n 3, 1) := by decide +kernel
theorem dX5_abort_16 : decode cX5_abort 16 = .ok (.ireturn, 1) := by decide +kernel
theorem dX5_readLog_0 : decode cX5_readLog 0 = .ok (.aload_n 0, 1) := by decide +kernel
theorem dX5_readLog_1 : decode cX5_readLog 1 = .ok (.iload_n 1, 1) := by decide +kernel
theorem dX5_readLog_2 : decode cX5_readLog 2 = .ok (.invokevirtual 61, 3) := by decide +kernel
theorem dX5_readLog_5 : decode cX5_readLog 5 = .ok (.astore_n 2, 1) := by decide +kernel
theorem dX5_readLog_6 : decode cX5_readLog 6 = .ok (.aload_n 2, 1) := by decide +kernel
theorem dX5_readLog_7 : decode cX5_readLog 7 = .ok (.getfield 123, 3) := by decide +kernel
theorem dX5_readLog_10 : decode cX5_readLog 10 = .ok (.ifCond .eq 13, 3) := by decide +kernel
theorem dX5_readLog_13 : decode cX5_readLog 13 = .ok (.new 129, 3) := by decide +kernel
theorem dX5_readLog_16 : decode cX5_readLog 16 = .ok (.dup, 1) := by decide +kernel
theorem dX5_readLog_17 : decode cX5_readLog 17 = .ok (.ldc 131, 2) := by decide +kernel
theorem dX5_readLog_19 : decode cX5_readLog 19 = .ok (.invokespecial 133, 3) := by decide +kernel
theorem dX5_readLog_22 : decode cX5_readLog 22 = .ok (.athrow, 1) := by decide +kernel
theorem dX5_readLog_23 : decode cX5_readLog 23 = .ok (.aload_n 2, 1) := by decide +kernel
theorem dX5_readLog_24 : decode cX5_readLog 24 = .ok (.getfield 134, 3) := by decide +kernel
theorem dX5_readLog_27 : decode cX5_readLog 27 = .ok (.invokevirtual 43, 3) := by decide +kernel
theorem dX5_readLog_30 : decode cX5_readLog 30 = .ok (.istore_n 3, 1) := by decide +kernel
theorem dX5_readLog_31 : decode cX5_readLog 31 = .ok (.aload_n 0, 1) := by decide +kernel
theorem dX5_readLog_32 : decode cX5_readLog 32 = .ok (.iload_n 3, 1) := by decide +kernel
theorem dX5_readLog_33 : decode cX5_readLog 33 = .ok (.invokevirtual 70, 3) := by decide +kernel
theorem dX5_readLog_36 : decode cX5_readLog 36 = .ok (.iconst 0, 1) := by decide +kernel
theorem dX5_readLog_37 : decode cX5_readLog 37 = .ok (.istore 4, 2) := by decide +kernel
theorem dX5_readLog_39 : decode cX5_readLog 39 = .ok (.iload 4, 2) := by decide +kernel
theorem dX5_readLog_41 : decode cX5_readLog 41 = .ok (.iload_n 3, 1) := by decide +kernel
theorem dX5_readLog_42 : decode cX5_readLog 42 = .ok (.if_icmp .ge 40, 3) := by decide +kernel
theorem dX5_readLog_45 : decode cX5_readLog 45 = .ok (.aload_n 0, 1) := by decide +kernel
theorem dX5_readLog_46 : decode cX5_readLog 46 = .ok (.getfield 25, 3) := by decide +kernel
theorem dX5_readLog_49 : decode cX5_readLog 49 = .ok (.new 91, 3) := by decide +kernel
theorem dX5_readLog_52 : decode cX5_readLog 52 = .ok (.dup, 1) := by decide +kernel
theorem dX5_readLog_53 : decode cX5_readLog 53 = .ok (.iconst 5, 1) := by decide +kernel
theorem dX5_readLog_54 : decode cX5_readLog 54 = .ok (.iconst (-1), 1) := by decide +kernel
theorem dX5_readLog_55 : decode cX5_readLog 55 = .ok (.aload_n 2, 1) := by decide +kernel
theorem dX5_readLog_56 : decode cX5_readLog 56 = .ok (.getfield 134, 3) := by decide +kernel
theorem dX5_readLog_59 : decode cX5_readLog 59 = .ok (.iload 4, 2) := by decide +kernel
theorem dX5_readLog_61 : decode cX5_readLog 61 = .ok (.invokevirtual 137, 3) := by decide +kernel
theorem dX5_readLog_64 : decode cX5_readLog 64 = .ok (.checkcast 7, 3) := by decide +kernel
theorem dX5_readLog_67 : decode cX5_readLog 67 = .ok (.iload_n 1, 1) := by decide +kernel
theorem dX5_readLog_68 : decode cX5_readLog 68 = .ok (.iconst 0, 1) := by decide +kernel
theorem dX5_readLog_69 : decode cX5_readLog 69 = .ok (.invokespecial 141, 3) := by decide +kernel
theorem dX5_readLog_72 : decode cX5_readLog 72 = .ok (.invokevirtual 57, 3) := by decide +kernel
theorem dX5_readLog_75 : decode cX5_readLog 75 = .ok (.pop, 1) := by decide +kernel
theorem dX5_readLog_76 : decode cX5_readLog 76 = .ok (.iinc 4 1, 3) := by decide +kernel
theorem dX5_readLog_79 : decode cX5_readLog 79 = .ok (.goto (-40), 3) := by decide +kernel
theorem dX5_readLog_82 : decode cX5_readLog 82 = .ok (.iload_n 3, 1) := by decide +kernel
theorem dX5_readLog_83 : decode cX5_readLog 83 = .ok (.ireturn, 1) := by decide +kernel
theorem dX5_authorise_0 : decode cX5_authorise 0 = .ok (.aload_n 0, 1) := by decide +kernel
theorem dX5_authorise_1 : decode cX5_authorise 1 = .ok (.iload_n 1, 1) := by decide +kernel
theorem dX5_authorise_2 : decode cX5_authorise 2 = .ok (.invokevirtual 61, 3) := by decide +kernel
theorem dX5_authorise_5 : decode cX5_authorise 5 = .ok (.pop, 1) := by decide +kernel
theorem dX5_authorise_6 : decode cX5_authorise 6 = .ok (.aload_n 0, 1) := by decide +kernel
theorem dX5_authorise_7 : decode cX5_authorise 7 = .ok (.getfield 31, 3) := by decide +kernel
theorem dX5_authorise_10 : decode cX5_authorise 10 = .ok (.iload_n 1, 1) := by decide +kernel
theorem dX5_authorise_11 : decode cX5_authorise 11 = .ok (.invokevirtual 144, 3) := by decide +kernel
theorem dX5_authorise_14 : decode cX5_authorise 14 = .ok (.ifCond .ne 13, 3) := by decide +kernel
theorem dX5_authorise_17 : decode cX5_authorise 17 = .ok (.new 129, 3) := by decide +kernel
theorem dX5_authorise_20 : decode cX5_authorise 20 = .ok (.dup, 1) := by decide +kernel
theorem dX5_authorise_21 : decode cX5_authorise 21 = .ok (.ldc 148, 2) := by decide +kernel
theorem dX5_authorise_23 : decode cX5_authorise 23 = .ok (.invokespecial 133, 3) := by decide +kernel
theorem dX5_authorise_26 : decode cX5_authorise 26 = .ok (.athrow, 1) := by decide +kernel
theorem dX5_authorise_27 : decode cX5_authorise 27 = .ok (.aload_n 0, 1) := by decide +kernel
theorem dX5_authorise_28 : decode cX5_authorise 28 = .ok (.iconst 1, 1) := by decide +kernel
theorem dX5_authorise_29 : decode cX5_authorise 29 = .ok (.invokevirtual 70, 3) := by decide +kernel
theorem dX5_authorise_32 : decode cX5_authorise 32 = .ok (.aload_n 0, 1) := by decide +kernel
theorem dX5_authorise_33 : decode cX5_authorise 33 = .ok (.getfield 25, 3) := by decide +kernel
theorem dX5_authorise_36 : decode cX5_authorise 36 = .ok (.invokevirtual 43, 3) := by decide +kernel
theorem dX5_authorise_39 : decode cX5_authorise 39 = .ok (.istore_n 2, 1) := by decide +kernel
theorem dX5_authorise_40 : decode cX5_authorise 40 = .ok (.aload_n 0, 1) := by decide +kernel
theorem dX5_authorise_41 : decode cX5_authorise 41 = .ok (.getfield 25, 3) := by decide +kernel
theorem dX5_authorise_44 : decode cX5_authorise 44 = .ok (.new 91, 3) := by decide +kernel
theorem dX5_authorise_47 : decode cX5_authorise 47 = .ok (.dup, 1) := by decide +kernel
theorem dX5_authorise_48 : decode cX5_authorise 48 = .ok (.bipush 6, 2) := by decide +kernel
theorem dX5_authorise_50 : decode cX5_authorise 50 = .ok (.iload_n 1, 1) := by decide +kernel
theorem dX5_authorise_51 : decode cX5_authorise 51 = .ok (.aload_n 0, 1) := by decide +kernel
theorem dX5_authorise_52 : decode cX5_authorise 52 = .ok (.getfield 14, 3) := by decide +kernel
theorem dX5_authorise_55 : decode cX5_authorise 55 = .ok (.iconst (-1), 1) := by decide +kernel
theorem dX5_authorise_56 : decode cX5_authorise 56 = .ok (.aload_n 0, 1) := by decide +kernel
theorem dX5_authorise_57 : decode cX5_authorise 57 = .ok (.getfield 31, 3) := by decide +kernel
theorem dX5_authorise_60 : decode cX5_authorise 60 = .ok (.invokevirtual 150, 3) := by decide +kernel
theorem dX5_authorise_63 : decode cX5_authorise 63 = .ok (.invokespecial 141, 3) := by decide +kernel
theorem dX5_authorise_66 : decode cX5_authorise 66 = .ok (.invokevirtual 57, 3) := by decide +kernel
theorem dX5_authorise_69 : decode cX5_authorise 69 = .ok (.pop, 1) := by decide +kernel
theorem dX5_authorise_70 : decode cX5_authorise 70 = .ok (.iload_n 2, 1) := by decide +kernel
theorem dX5_authorise_71 : decode cX5_authorise 71 = .ok (.ireturn, 1) := by decide +kernel
theorem dX5_refund_0 : decode cX5_refund 0 = .ok (.aload_n 0, 1) := by decide +kernel
theorem dX5_refund_1 : decode cX5_refund 1 = .ok (.iload_n 1, 1) := by decide +kernel
theorem dX5_refund_2 : decode cX5_refund 2 = .ok (.invokevirtual 151, 3) := by decide +kernel
theorem dX5_refund_5 : decode cX5_refund 5 = .ok (.astore_n 2, 1) := by decide +kernel
theorem dX5_refund_6 : decode cX5_refund 6 = .ok (.aload_n 0, 1) := by decide +kernel
theorem dX5_refund_7 : decode cX5_refund 7 = .ok (.getfield 31, 3) := by decide +kernel
theorem dX5_refund_10 : decode cX5_refund 10 = .ok (.aload_n 2, 1) := by decide +kernel
theorem dX5_refund_11 : decode cX5_refund 11 = .ok (.getfield 155, 3) := by decide +kernel
theorem dX5_refund_14 : decode cX5_refund 14 = .ok (.getfield 158, 3) := by decide +kernel
theorem dX5_refund_17 : decode cX5_refund 17 = .ok (.aload_n 2, 1) := by decide +kernel
theorem dX5_refund_18 : decode cX5_refund 18 = .ok (.getfield 155, 3) := by decide +kernel
theorem dX5_refund_21 : decode cX5_refund 21 = .ok (.invokevirtual 161, 3) := by decide +kernel
theorem dX5_refund_24 : decode cX5_refund 24 = .ok (.ifCond .eq 24, 3) := by decide +kernel
theorem dX5_refund_27 : decode cX5_refund 27 = .ok (.aload_n 0, 1) := by decide +kernel
theorem dX5_refund_28 : decode cX5_refund 28 = .ok (.getfield 31, 3) := by decide +kernel
theorem dX5_refund_31 : decode cX5_refund 31 = .ok (.aload_n 2, 1) := by decide +kernel
theorem dX5_refund_32 : decode cX5_refund 32 = .ok (.getfield 155, 3) := by decide +kernel
theorem dX5_refund_35 : decode cX5_refund 35 = .ok (.getfield 164, 3) := by decide +kernel
theorem dX5_refund_38 : decode cX5_refund 38 = .ok (.aload_n 2, 1) := by decide +kernel
theorem dX5_refund_39 : decode cX5_refund 39 = .ok (.getfield 155, 3) := by decide +kernel
theorem dX5_refund_42 : decode cX5_refund 42 = .ok (.invokevirtual 161, 3) := by decide +kernel
theorem dX5_refund_45 : decode cX5_refund 45 = .ok (.ifCond .ne 13, 3) := by decide +kernel
theorem dX5_refund_48 : decode cX5_refund 48 = .ok (.new 129, 3) := by decide +kernel
theorem dX5_refund_51 : decode cX5_refund 51 = .ok (.dup, 1) := by decide +kernel
theorem dX5_refund_52 : decode cX5_refund 52 = .ok (.ldc 167, 2) := by decide +kernel
theorem dX5_refund_54 : decode cX5_refund 54 = .ok (.invokespecial 133, 3) := by decide +kernel
theorem dX5_refund_57 : decode cX5_refund 57 = .ok (.athrow, 1) := by decide +kernel
theorem dX5_refund_58 : decode cX5_refund 58 = .ok (.aload_n 2, 1) := by decide +kernel
theorem dX5_refund_59 : decode cX5_refund 59 = .ok (.getfield 169, 3) := by decide +kernel
theorem dX5_refund_62 : decode cX5_refund 62 = .ok (.ifCond .eq 13, 3) := by decide +kernel
theorem dX5_refund_65 : decode cX5_refund 65 = .ok (.new 129, 3) := by decide +kernel
theorem dX5_refund_68 : decode cX5_refund 68 = .ok (.dup, 1) := by decide +kernel
theorem dX5_refund_69 : decode cX5_refund 69 = .ok (.ldc 173, 2) := by decide +kernel
theorem dX5_refund_71 : decode cX5_refund 71 = .ok (.invokespecial 133, 3) := by decide +kernel
theorem dX5_refund_74 : decode cX5_refund 74 = .ok (.athrow, 1) := by decide +kernel
theorem dX5_refund_75 : decode cX5_refund 75 = .ok (.aload_n 0, 1) := by decide +kernel
theorem dX5_refund_76 : decode cX5_refund 76 = .ok (.getfield 31, 3) := by decide +kernel
theorem dX5_refund_79 : decode cX5_refund 79 = .ok (.aload_n 2, 1) := by decide +kernel
theorem dX5_refund_80 : decode cX5_refund 80 = .ok (.getfield 155, 3) := by decide +kernel
theorem dX5_refund_83 : decode cX5_refund 83 = .ok (.invokevirtual 175, 3) := by decide +kernel
theorem dX5_refund_86 : decode cX5_refund 86 = .ok (.aload_n 0, 1) := by decide +kernel
theorem dX5_refund_87 : decode cX5_refund 87 = .ok (.aload_n 2, 1) := by decide +kernel
theorem dX5_refund_88 : decode cX5_refund 88 = .ok (.getfield 155, 3) := by decide +kernel
theorem dX5_refund_91 : decode cX5_refund 91 = .ok (.getfield 158, 3) := by decide +kernel
theorem dX5_refund_94 : decode cX5_refund 94 = .ok (.invokevirtual 61, 3) := by decide +kernel
theorem dX5_refund_97 : decode cX5_refund 97 = .ok (.astore_n 3, 1) := by decide +kernel
theorem dX5_refund_98 : decode cX5_refund 98 = .ok (.aload_n 3, 1) := by decide +kernel
theorem dX5_refund_99 : decode cX5_refund 99 = .ok (.dup, 1) := by decide +kernel
theorem dX5_refund_100 : decode cX5_refund 100 = .ok (.getfield 179, 3) := by decide +kernel
theorem dX5_refund_103 : decode cX5_refund 103 = .ok (.aload_n 2, 1) := by decide +kernel
theorem dX5_refund_104 : decode cX5_refund 104 = .ok (.getfield 155, 3) := by decide +kernel
theorem dX5_refund_107 : decode cX5_refund 107 = .ok (.getfield 182, 3) := by decide +kernel
theorem dX5_refund_110 : decode cX5_refund 110 = .ok (.iadd, 1) := by decide +kernel
theorem dX5_refund_111 : decode cX5_refund 111 = .ok (.putfield 179, 3) := by decide +kernel
theorem dX5_refund_114 : decode cX5_refund 114 = .ok (.aload_n 3, 1) := by decide +kernel
theorem dX5_refund_115 : decode cX5_refund 115 = .ok (.getfield 179, 3) := by decide +kernel
theorem dX5_refund_118 : decode cX5_refund 118 = .ok (.ireturn, 1) := by decide +kernel
theorem dX5_told_0 : decode cX5_told 0 = .ok (.aload_n 0, 1) := by decide +kernel
theorem dX5_told_1 : decode cX5_told 1 = .ok (.iload_n 1, 1) := by decide +kernel
theorem dX5_told_2 : decode cX5_told 2 = .ok (.invokevirtual 61, 3) := by decide +kernel
theorem dX5_told_5 : decode cX5_told 5 = .ok (.astore_n 3, 1) := by decide +kernel
theorem dX5_told_6 : decode cX5_told 6 = .ok (.iload_n 2, 1) := by decide +kernel
theorem dX5_told_7 : decode cX5_told 7 = .ok (.tableswitch 52 0 3 #[29, 34, 39, 44], 29) := by decide +kernel
theorem dX5_told_36 : decode cX5_told 36 = .ok (.aload_n 3, 1) := by decide +kernel
theorem dX5_told_37 : decode cX5_told 37 = .ok (.getfield 179, 3) := by decide +kernel
theorem dX5_told_40 : decode cX5_told 40 = .ok (.ireturn, 1) := by decide +kernel
theorem dX5_told_41 : decode cX5_told 41 = .ok (.aload_n 3, 1) := by decide +kernel
theorem dX5_told_42 : decode cX5_told 42 = .ok (.getfield 74, 3) := by decide +kernel
theorem dX5_told_45 : decode cX5_told 45 = .ok (.ireturn, 1) := by decide +kernel
theorem dX5_told_46 : decode cX5_told 46 = .ok (.aload_n 3, 1) := by decide +kernel
theorem dX5_told_47 : decode cX5_told 47 = .ok (.getfield 123, 3) := by decide +kernel
theorem dX5_told_50 : decode cX5_told 50 = .ok (.ireturn, 1) := by decide +kernel
theorem dX5_told_51 : decode cX5_told 51 = .ok (.aload_n 3, 1) := by decide +kernel
theorem dX5_told_52 : decode cX5_told 52 = .ok (.getfield 134, 3) := by decide +kernel
theorem dX5_told_55 : decode cX5_told 55 = .ok (.invokevirtual 43, 3) := by decide +kernel
theorem dX5_told_58 : decode cX5_told 58 = .ok (.ireturn, 1) := by decide +kernel
theorem dX5_told_59 : decode cX5_told 59 = .ok (.new 36, 3) := by decide +kernel
theorem dX5_told_62 : decode cX5_told 62 = .ok (.dup, 1) := by decide +kernel
theorem dX5_told_63 : decode cX5_told 63 = .ok (.ldc 185, 2) := by decide +kernel
theorem dX5_told_65 : decode cX5_told 65 = .ok (.invokespecial 40, 3) := by decide +kernel
theorem dX5_told_68 : decode cX5_told 68 = .ok (.athrow, 1) := by decide +kernel
theorem dX5_transfer_0 : decode cX5_transfer 0 = .ok (.aload_n 0, 1) := by decide +kernel
theorem dX5_transfer_1 : decode cX5_transfer 1 = .ok (.iload_n 1, 1) := by decide +kernel
theorem dX5_transfer_2 : decode cX5_transfer 2 = .ok (.invokevirtual 61, 3) := by decide +kernel
theorem dX5_transfer_5 : decode cX5_transfer 5 = .ok (.getfield 187, 3) := by decide +kernel
theorem dX5_transfer_8 : decode cX5_transfer 8 = .ok (.iload_n 2, 1) := by decide +kernel
theorem dX5_transfer_9 : decode cX5_transfer 9 = .ok (.invokestatic 190, 3) := by decide +kernel
theorem dX5_transfer_12 : decode cX5_transfer 12 = .ok (.ireturn, 1) := by decide +kernel
theorem dX5_log_0 : decode cX5_log 0 = .ok (.aload_n 0, 1) := by decide +kernel
theorem dX5_log_1 : decode cX5_log 1 = .ok (.iload_n 1, 1) := by decide +kernel
theorem dX5_log_2 : decode cX5_log 2 = .ok (.invokevirtual 61, 3) := by decide +kernel
theorem dX5_log_5 : decode cX5_log 5 = .ok (.astore 4, 2) := by decide +kernel
theorem dX5_log_7 : decode cX5_log 7 = .ok (.iload_n 2, 1) := by decide +kernel
theorem dX5_log_8 : decode cX5_log 8 = .ok (.ifCond .lt 15, 3) := by decide +kernel
theorem dX5_log_11 : decode cX5_log 11 = .ok (.iload_n 2, 1) := by decide +kernel
theorem dX5_log_12 : decode cX5_log 12 = .ok (.aload 4, 2) := by decide +kernel
theorem dX5_log_14 : decode cX5_log 14 = .ok (.getfield 134, 3) := by decide +kernel
theorem dX5_log_17 : decode cX5_log 17 = .ok (.invokevirtual 43, 3) := by decide +kernel
theorem dX5_log_20 : decode cX5_log 20 = .ok (.if_icmp .lt 13, 3) := by decide +kernel
theorem dX5_log_23 : decode cX5_log 23 = .ok (.new 194, 3) := by decide +kernel
theorem dX5_log_26 : decode cX5_log 26 = .ok (.dup, 1) := by decide +kernel
theorem dX5_log_27 : decode cX5_log 27 = .ok (.ldc 196, 2) := by decide +kernel
theorem dX5_log_29 : decode cX5_log 29 = .ok (.invokespecial 198, 3) := by decide +kernel
theorem dX5_log_32 : decode cX5_log 32 = .ok (.athrow, 1) := by decide +kernel
theorem dX5_log_33 : decode cX5_log 33 = .ok (.aload 4, 2) := by decide +kernel
theorem dX5_log_35 : decode cX5_log 35 = .ok (.getfield 134, 3) := by decide +kernel
theorem dX5_log_38 : decode cX5_log 38 = .ok (.iload_n 2, 1) := by decide +kernel
theorem dX5_log_39 : decode cX5_log 39 = .ok (.invokevirtual 137, 3) := by decide +kernel
theorem dX5_log_42 : decode cX5_log 42 = .ok (.checkcast 7, 3) := by decide +kernel
theorem dX5_log_45 : decode cX5_log 45 = .ok (.iload_n 3, 1) := by decide +kernel
theorem dX5_log_46 : decode cX5_log 46 = .ok (.invokestatic 190, 3) := by decide +kernel
theorem dX5_log_49 : decode cX5_log 49 = .ok (.ireturn, 1) := by decide +kernel
theorem dX5_messages_0 : decode cX5_messages 0 = .ok (.aload_n 0, 1) := by decide +kernel
theorem dX5_messages_1 : decode cX5_messages 1 = .ok (.getfield 25, 3) := by decide +kernel
theorem dX5_messages_4 : decode cX5_messages 4 = .ok (.invokevirtual 43, 3) := by decide +kernel
theorem dX5_messages_7 : decode cX5_messages 7 = .ok (.ireturn, 1) := by decide +kernel
theorem dX5_message_0 : decode cX5_message 0 = .ok (.aload_n 0, 1) := by decide +kernel
theorem dX5_message_1 : decode cX5_message 1 = .ok (.iload_n 1, 1) := by decide +kernel
theorem dX5_message_2 : decode cX5_message 2 = .ok (.invokevirtual 82, 3) := by decide +kernel
theorem dX5_message_5 : decode cX5_message 5 = .ok (.astore_n 3, 1) := by decide +kernel
theorem dX5_message_6 : decode cX5_message 6 = .ok (.iload_n 2, 1) := by decide +kernel
theorem dX5_message_7 : decode cX5_message 7 = .ok (.lookupswitch 35 #[(5, 25), (6, 30)], 25) := by decide +kernel
theorem dX5_message_32 : decode cX5_message 32 = .ok (.aload_n 3, 1) := by decide +kernel
theorem dX5_message_33 : decode cX5_message 33 = .ok (.getfield 90, 3) := by decide +kernel
theorem dX5_message_36 : decode cX5_message 36 = .ok (.ireturn, 1) := by decide +kernel
theorem dX5_message_37 : decode cX5_message 37 = .ok (.aload_n 3, 1) := by decide +kernel
theorem dX5_message_38 : decode cX5_message 38 = .ok (.getfield 199, 3) := by decide +kernel
theorem dX5_message_41 : decode cX5_message 41 = .ok (.ireturn, 1) := by decide +kernel
theorem dX5_message_42 : decode cX5_message 42 = .ok (.aload_n 3, 1) := by decide +kernel
theorem dX5_message_43 : decode cX5_message 43 = .ok (.getfield 113, 3) := by decide +kernel
theorem dX5_message_46 : decode cX5_message 46 = .ok (.iload_n 2, 1) := by decide +kernel
theorem dX5_message_47 : decode cX5_message 47 = .ok (.invokestatic 190, 3) := by decide +kernel
theorem dX5_message_50 : decode cX5_message 50 = .ok (.ireturn, 1) := by decide +kernel
theorem dX5_entries_0 : decode cX5_entries 0 = .ok (.aload_n 0, 1) := by decide +kernel
theorem dX5_entries_1 : decode cX5_entries 1 = .ok (.getfield 31, 3) := by decide +kernel
theorem dX5_entries_4 : decode cX5_entries 4 = .ok (.invokevirtual 150, 3) := by decide +kernel
theorem dX5_entries_7 : decode cX5_entries 7 = .ok (.ireturn, 1) := by decide +kernel
theorem dX5_entry_0 : decode cX5_entry 0 = .ok (.aload_n 0, 1) := by decide +kernel
theorem dX5_entry_1 : decode cX5_entry 1 = .ok (.iload_n 1, 1) := by decide +kernel
theorem dX5_entry_2 : decode cX5_entry 2 = .ok (.invokevirtual 151, 3) := by decide +kernel
theorem dX5_entry_5 : decode cX5_entry 5 = .ok (.astore_n 3, 1) := by decide +kernel
theorem dX5_entry_6 : decode cX5_entry 6 = .ok (.iload_n 2, 1) := by decide +kernel
theorem dX5_entry_7 : decode cX5_entry 7 = .ok (.lookupswitch 43 #[(5, 25), (6, 30)], 25) := by decide +kernel
theorem dX5_entry_32 : decode cX5_entry 32 = .ok (.aload_n 3, 1) := by decide +kernel
theorem dX5_entry_33 : decode cX5_entry 33 = .ok (.getfield 202, 3) := by decide +kernel
theorem dX5_entry_36 : decode cX5_entry 36 = .ok (.ireturn, 1) := by decide +kernel
theorem dX5_entry_37 : decode cX5_entry 37 = .ok (.aload_n 3, 1) := by decide +kernel
theorem dX5_entry_38 : decode cX5_entry 38 = .ok (.getfield 169, 3) := by decide +kernel
theorem dX5_entry_41 : decode cX5_entry 41 = .ok (.ifCond .eq 7, 3) := by decide +kernel
theorem dX5_entry_44 : decode cX5_entry 44 = .ok (.iconst 1, 1) := by decide +kernel
theorem dX5_entry_45 : decode cX5_entry 45 = .ok (.goto 4, 3) := by decide +kernel
theorem dX5_entry_48 : decode cX5_entry 48 = .ok (.iconst 0, 1) := by decide +kernel
theorem dX5_entry_49 : decode cX5_entry 49 = .ok (.ireturn, 1) := by decide +kernel
theorem dX5_entry_50 : decode cX5_entry 50 = .ok (.aload_n 3, 1) := by decide +kernel
theorem dX5_entry_51 : decode cX5_entry 51 = .ok (.getfield 155, 3) := by decide +kernel
theorem dX5_entry_54 : decode cX5_entry 54 = .ok (.iload_n 2, 1) := by decide +kernel
theorem dX5_entry_55 : decode cX5_entry 55 = .ok (.invokestatic 190, 3) := by decide +kernel
theorem dX5_entry_58 : decode cX5_entry 58 = .ok (.ireturn, 1) := by decide +kernel
theorem dX5_balances_0 : decode cX5_balances 0 = .ok (.lconst 0, 1) := by decide +kernel
theorem dX5_balances_1 : decode cX5_balances 1 = .ok (.lstore_n 1, 1) := by decide +kernel
theorem dX5_balances_2 : decode cX5_balances 2 = .ok (.iconst 0, 1) := by decide +kernel
theorem dX5_balances_3 : decode cX5_balances 3 = .ok (.istore_n 3, 1) := by decide +kernel
theorem dX5_balances_4 : decode cX5_balances 4 = .ok (.iload_n 3, 1) := by decide +kernel
theorem dX5_balances_5 : decode cX5_balances 5 = .ok (.aload_n 0, 1) := by decide +kernel
theorem dX5_balances_6 : decode cX5_balances 6 = .ok (.getfield 21, 3) := by decide +kernel
theorem dX5_balances_9 : decode cX5_balances 9 = .ok (.invokevirtual 43, 3) := by decide +kernel
theorem dX5_balances_12 : decode cX5_balances 12 = .ok (.if_icmp .ge 27, 3) := by decide +kernel
theorem dX5_balances_15 : decode cX5_balances 15 = .ok (.lload_n 1, 1) := by decide +kernel
theorem dX5_balances_16 : decode cX5_balances 16 = .ok (.aload_n 0, 1) := by decide +kernel
theorem dX5_balances_17 : decode cX5_balances 17 = .ok (.getfield 21, 3) := by decide +kernel
theorem dX5_balances_20 : decode cX5_balances 20 = .ok (.iload_n 3, 1) := by decide +kernel
theorem dX5_balances_21 : decode cX5_balances 21 = .ok (.invokevirtual 137, 3) := by decide +kernel
theorem dX5_balances_24 : decode cX5_balances 24 = .ok (.checkcast 52, 3) := by decide +kernel
theorem dX5_balances_27 : decode cX5_balances 27 = .ok (.getfield 179, 3) := by decide +kernel
theorem dX5_balances_30 : decode cX5_balances 30 = .ok (.i2l, 1) := by decide +kernel
theorem dX5_balances_31 : decode cX5_balances 31 = .ok (.ladd, 1) := by decide +kernel
theorem dX5_balances_32 : decode cX5_balances 32 = .ok (.lstore_n 1, 1) := by decide +kernel
theorem dX5_balances_33 : decode cX5_balances 33 = .ok (.iinc 3 1, 3) := by decide +kernel
theorem dX5_balances_36 : decode cX5_balances 36 = .ok (.goto (-32), 3) := by decide +kernel
theorem dX5_balances_39 : decode cX5_balances 39 = .ok (.lload_n 1, 1) := by decide +kernel
theorem dX5_balances_40 : decode cX5_balances 40 = .ok (.lreturn, 1) := by decide +kernel
theorem dX5_pending_0 : decode cX5_pending 0 = .ok (.lconst 0, 1) := by decide +kernel
theorem dX5_pending_1 : decode cX5_pending 1 = .ok (.lstore_n 1, 1) := by decide +kernel
theorem dX5_pending_2 : decode cX5_pending 2 = .ok (.iconst 0, 1) := by decide +kernel
theorem dX5_pending_3 : decode cX5_pending 3 = .ok (.istore_n 3, 1) := by decide +kernel
theorem dX5_pending_4 : decode cX5_pending 4 = .ok (.iload_n 3, 1) := by decide +kernel
theorem dX5_pending_5 : decode cX5_pending 5 = .ok (.aload_n 0, 1) := by decide +kernel
theorem dX5_pending_6 : decode cX5_pending 6 = .ok (.getfield 21, 3) := by decide +kernel
theorem dX5_pending_9 : decode cX5_pending 9 = .ok (.invokevirtual 43, 3) := by decide +kernel
theorem dX5_pending_12 : decode cX5_pending 12 = .ok (.if_icmp .ge 27, 3) := by decide +kernel
theorem dX5_pending_15 : decode cX5_pending 15 = .ok (.lload_n 1, 1) := by decide +kernel
theorem dX5_pending_16 : decode cX5_pending 16 = .ok (.aload_n 0, 1) := by decide +kernel
theorem dX5_pending_17 : decode cX5_pending 17 = .ok (.aload_n 0, 1) := by decide +kernel
theorem dX5_pending_18 : decode cX5_pending 18 = .ok (.getfield 21, 3) := by decide +kernel
theorem dX5_pending_21 : decode cX5_pending 21 = .ok (.iload_n 3, 1) := by decide +kernel
theorem dX5_pending_22 : decode cX5_pending 22 = .ok (.invokevirtual 137, 3) := by decide +kernel
theorem dX5_pending_25 : decode cX5_pending 25 = .ok (.checkcast 52, 3) := by decide +kernel
theorem dX5_pending_28 : decode cX5_pending 28 = .ok (.invokevirtual 203, 3) := by decide +kernel
theorem dX5_pending_31 : decode cX5_pending 31 = .ok (.ladd, 1) := by decide +kernel
theorem dX5_pending_32 : decode cX5_pending 32 = .ok (.lstore_n 1, 1) := by decide +kernel
theorem dX5_pending_33 : decode cX5_pending 33 = .ok (.iinc 3 1, 3) := by decide +kernel
theorem dX5_pending_36 : decode cX5_pending 36 = .ok (.goto (-32), 3) := by decide +kernel
theorem dX5_pending_39 : decode cX5_pending 39 = .ok (.iconst 0, 1) := by decide +kernel
theorem dX5_pending_40 : decode cX5_pending 40 = .ok (.istore_n 3, 1) := by decide +kernel
theorem dX5_pending_41 : decode cX5_pending 41 = .ok (.iload_n 3, 1) := by decide +kernel
theorem dX5_pending_42 : decode cX5_pending 42 = .ok (.aload_n 0, 1) := by decide +kernel
theorem dX5_pending_43 : decode cX5_pending 43 = .ok (.getfield 31, 3) := by decide +kernel
theorem dX5_pending_46 : decode cX5_pending 46 = .ok (.invokevirtual 150, 3) := by decide +kernel
theorem dX5_pending_49 : decode cX5_pending 49 = .ok (.if_icmp .ge 53, 3) := by decide +kernel
theorem dX5_pending_52 : decode cX5_pending 52 = .ok (.aload_n 0, 1) := by decide +kernel
theorem dX5_pending_53 : decode cX5_pending 53 = .ok (.getfield 31, 3) := by decide +kernel
theorem dX5_pending_56 : decode cX5_pending 56 = .ok (.getfield 207, 3) := by decide +kernel
theorem dX5_pending_59 : decode cX5_pending 59 = .ok (.iload_n 3, 1) := by decide +kernel
theorem dX5_pending_60 : decode cX5_pending 60 = .ok (.invokevirtual 137, 3) := by decide +kernel
theorem dX5_pending_63 : decode cX5_pending 63 = .ok (.checkcast 156, 3) := by decide +kernel
theorem dX5_pending_66 : decode cX5_pending 66 = .ok (.astore 4, 2) := by decide +kernel
theorem dX5_pending_68 : decode cX5_pending 68 = .ok (.aload 4, 2) := by decide +kernel
theorem dX5_pending_70 : decode cX5_pending 70 = .ok (.getfield 202, 3) := by decide +kernel
theorem dX5_pending_73 : decode cX5_pending 73 = .ok (.aload 4, 2) := by decide +kernel
theorem dX5_pending_75 : decode cX5_pending 75 = .ok (.getfield 155, 3) := by decide +kernel
theorem dX5_pending_78 : decode cX5_pending 78 = .ok (.getfield 158, 3) := by decide +kernel
theorem dX5_pending_81 : decode cX5_pending 81 = .ok (.if_icmp .ne 15, 3) := by decide +kernel
theorem dX5_pending_84 : decode cX5_pending 84 = .ok (.lload_n 1, 1) := by decide +kernel
theorem dX5_pending_85 : decode cX5_pending 85 = .ok (.aload_n 0, 1) := by decide +kernel
theorem dX5_pending_86 : decode cX5_pending 86 = .ok (.aload 4, 2) := by decide +kernel
theorem dX5_pending_88 : decode cX5_pending 88 = .ok (.getfield 155, 3) := by decide +kernel
theorem dX5_pending_91 : decode cX5_pending 91 = .ok (.invokevirtual 210, 3) := by decide +kernel
theorem dX5_pending_94 : decode cX5_pending 94 = .ok (.ladd, 1) := by decide +kernel
theorem dX5_pending_95 : decode cX5_pending 95 = .ok (.lstore_n 1, 1) := by decide +kernel
theorem dX5_pending_96 : decode cX5_pending 96 = .ok (.iinc 3 1, 3) := by decide +kernel
theorem dX5_pending_99 : decode cX5_pending 99 = .ok (.goto (-58), 3) := by decide +kernel
theorem dX5_pending_102 : decode cX5_pending 102 = .ok (.lload_n 1, 1) := by decide +kernel
theorem dX5_pending_103 : decode cX5_pending 103 = .ok (.lreturn, 1) := by decide +kernel
theorem dX5_purses_0 : decode cX5_purses 0 = .ok (.aload_n 0, 1) := by decide +kernel
theorem dX5_purses_1 : decode cX5_purses 1 = .ok (.getfield 21, 3) := by decide +kernel
theorem dX5_purses_4 : decode cX5_purses 4 = .ok (.invokevirtual 43, 3) := by decide +kernel
theorem dX5_purses_7 : decode cX5_purses 7 = .ok (.ireturn, 1) := by decide +kernel
theorem dX5_purseAt_0 : decode cX5_purseAt 0 = .ok (.iload_n 1, 1) := by decide +kernel
theorem dX5_purseAt_1 : decode cX5_purseAt 1 = .ok (.ifCond .lt 14, 3) := by decide +kernel
theorem dX5_purseAt_4 : decode cX5_purseAt 4 = .ok (.iload_n 1, 1) := by decide +kernel
theorem dX5_purseAt_5 : decode cX5_purseAt 5 = .ok (.aload_n 0, 1) := by decide +kernel
theorem dX5_purseAt_6 : decode cX5_purseAt 6 = .ok (.getfield 21, 3) := by decide +kernel
theorem dX5_purseAt_9 : decode cX5_purseAt 9 = .ok (.invokevirtual 43, 3) := by decide +kernel
theorem dX5_purseAt_12 : decode cX5_purseAt 12 = .ok (.if_icmp .lt 13, 3) := by decide +kernel
theorem dX5_purseAt_15 : decode cX5_purseAt 15 = .ok (.new 194, 3) := by decide +kernel
theorem dX5_purseAt_18 : decode cX5_purseAt 18 = .ok (.dup, 1) := by decide +kernel
theorem dX5_purseAt_19 : decode cX5_purseAt 19 = .ok (.ldc 214, 2) := by decide +kernel
theorem dX5_purseAt_21 : decode cX5_purseAt 21 = .ok (.invokespecial 198, 3) := by decide +kernel
theorem dX5_purseAt_24 : decode cX5_purseAt 24 = .ok (.athrow, 1) := by decide +kernel
theorem dX5_purseAt_25 : decode cX5_purseAt 25 = .ok (.aload_n 0, 1) := by decide +kernel
theorem dX5_purseAt_26 : decode cX5_purseAt 26 = .ok (.getfield 21, 3) := by decide +kernel
theorem dX5_purseAt_29 : decode cX5_purseAt 29 = .ok (.iload_n 1, 1) := by decide +kernel
theorem dX5_purseAt_30 : decode cX5_purseAt 30 = .ok (.invokevirtual 137, 3) := by decide +kernel
theorem dX5_purseAt_33 : decode cX5_purseAt 33 = .ok (.checkcast 52, 3) := by decide +kernel
theorem dX5_purseAt_36 : decode cX5_purseAt 36 = .ok (.areturn, 1) := by decide +kernel
theorem dX5_messageAt_0 : decode cX5_messageAt 0 = .ok (.iload_n 1, 1) := by decide +kernel
theorem dX5_messageAt_1 : decode cX5_messageAt 1 = .ok (.ifCond .lt 14, 3) := by decide +kernel
theorem dX5_messageAt_4 : decode cX5_messageAt 4 = .ok (.iload_n 1, 1) := by decide +kernel
theorem dX5_messageAt_5 : decode cX5_messageAt 5 = .ok (.aload_n 0, 1) := by decide +kernel
theorem dX5_messageAt_6 : decode cX5_messageAt 6 = .ok (.getfield 25, 3) := by decide +kernel
theorem dX5_messageAt_9 : decode cX5_messageAt 9 = .ok (.invokevirtual 43, 3) := by decide +kernel
theorem dX5_messageAt_12 : decode cX5_messageAt 12 = .ok (.if_icmp .lt 13, 3) := by decide +kernel
theorem dX5_messageAt_15 : decode cX5_messageAt 15 = .ok (.new 194, 3) := by decide +kernel
theorem dX5_messageAt_18 : decode cX5_messageAt 18 = .ok (.dup, 1) := by decide +kernel
theorem dX5_messageAt_19 : decode cX5_messageAt 19 = .ok (.ldc 216, 2) := by decide +kernel
theorem dX5_messageAt_21 : decode cX5_messageAt 21 = .ok (.invokespecial 198, 3) := by decide +kernel
theorem dX5_messageAt_24 : decode cX5_messageAt 24 = .ok (.athrow, 1) := by decide +kernel
theorem dX5_messageAt_25 : decode cX5_messageAt 25 = .ok (.aload_n 0, 1) := by decide +kernel
theorem dX5_messageAt_26 : decode cX5_messageAt 26 = .ok (.getfield 25, 3) := by decide +kernel
theorem dX5_messageAt_29 : decode cX5_messageAt 29 = .ok (.iload_n 1, 1) := by decide +kernel
theorem dX5_messageAt_30 : decode cX5_messageAt 30 = .ok (.invokevirtual 137, 3) := by decide +kernel
theorem dX5_messageAt_33 : decode cX5_messageAt 33 = .ok (.checkcast 91, 3) := by decide +kernel
theorem dX5_messageAt_36 : decode cX5_messageAt 36 = .ok (.areturn, 1) := by decide +kernel
theorem dX5_entryAt_0 : decode cX5_entryAt 0 = .ok (.iload_n 1, 1) := by decide +kernel
theorem dX5_entryAt_1 : decode cX5_entryAt 1 = .ok (.ifCond .lt 14, 3) := by decide +kernel
theorem dX5_entryAt_4 : decode cX5_entryAt 4 = .ok (.iload_n 1, 1) := by decide +kernel
theorem dX5_entryAt_5 : decode cX5_entryAt 5 = .ok (.aload_n 0, 1) := by decide +kernel
theorem dX5_entryAt_6 : decode cX5_entryAt 6 = .ok (.getfield 31, 3) := by decide +kernel
theorem dX5_entryAt_9 : decode cX5_entryAt 9 = .ok (.invokevirtual 150, 3) := by decide +kernel
theorem dX5_entryAt_12 : decode cX5_entryAt 12 = .ok (.if_icmp .lt 13, 3) := by decide +kernel
theorem dX5_entryAt_15 : decode cX5_entryAt 15 = .ok (.new 194, 3) := by decide +kernel
theorem dX5_entryAt_18 : decode cX5_entryAt 18 = .ok (.dup, 1) := by decide +kernel
theorem dX5_entryAt_19 : decode cX5_entryAt 19 = .ok (.ldc 218, 2) := by decide +kernel
theorem dX5_entryAt_21 : decode cX5_entryAt 21 = .ok (.invokespecial 198, 3) := by decide +kernel
theorem dX5_entryAt_24 : decode cX5_entryAt 24 = .ok (.athrow, 1) := by decide +kernel
theorem dX5_entryAt_25 : decode cX5_entryAt 25 = .ok (.aload_n 0, 1) := by decide +kernel
theorem dX5_entryAt_26 : decode cX5_entryAt 26 = .ok (.getfield 31, 3) := by decide +kernel
theorem dX5_entryAt_29 : decode cX5_entryAt 29 = .ok (.getfield 207, 3) := by decide +kernel
theorem dX5_entryAt_32 : decode cX5_entryAt 32 = .ok (.iload_n 1, 1) := by decide +kernel
theorem dX5_entryAt_33 : decode cX5_entryAt 33 = .ok (.invokevirtual 137, 3) := by decide +kernel
theorem dX5_entryAt_36 : decode cX5_entryAt 36 = .ok (.checkcast 156, 3) := by decide +kernel
theorem dX5_entryAt_39 : decode cX5_entryAt 39 = .ok (.areturn, 1) := by decide +kernel
theorem dX5_partOf_0 : decode cX5_partOf 0 = .ok (.iload_n 1, 1) := by decide +kernel
theorem dX5_partOf_1 : decode cX5_partOf 1 = .ok (.tableswitch 60 0 4 #[35, 40, 45, 50, 55], 35) := by decide +kernel
theorem dX5_partOf_36 : decode cX5_partOf 36 = .ok (.aload_n 0, 1) := by decide +kernel
theorem dX5_partOf_37 : decode cX5_partOf 37 = .ok (.getfield 158, 3) := by decide +kernel
theorem dX5_partOf_40 : decode cX5_partOf 40 = .ok (.ireturn, 1) := by decide +kernel
theorem dX5_partOf_41 : decode cX5_partOf 41 = .ok (.aload_n 0, 1) := by decide +kernel
theorem dX5_partOf_42 : decode cX5_partOf 42 = .ok (.getfield 220, 3) := by decide +kernel
theorem dX5_partOf_45 : decode cX5_partOf 45 = .ok (.ireturn, 1) := by decide +kernel
theorem dX5_partOf_46 : decode cX5_partOf 46 = .ok (.aload_n 0, 1) := by decide +kernel
theorem dX5_partOf_47 : decode cX5_partOf 47 = .ok (.getfield 164, 3) := by decide +kernel
theorem dX5_partOf_50 : decode cX5_partOf 50 = .ok (.ireturn, 1) := by decide +kernel
theorem dX5_partOf_51 : decode cX5_partOf 51 = .ok (.aload_n 0, 1) := by decide +kernel
theorem dX5_partOf_52 : decode cX5_partOf 52 = .ok (.getfield 223, 3) := by decide +kernel
theorem dX5_partOf_55 : decode cX5_partOf 55 = .ok (.ireturn, 1) := by decide +kernel
theorem dX5_partOf_56 : decode cX5_partOf 56 = .ok (.aload_n 0, 1) := by decide +kernel
theorem dX5_partOf_57 : decode cX5_partOf 57 = .ok (.getfield 182, 3) := by decide +kernel
theorem dX5_partOf_60 : decode cX5_partOf 60 = .ok (.ireturn, 1) := by decide +kernel
theorem dX5_partOf_61 : decode cX5_partOf 61 = .ok (.new 36, 3) := by decide +kernel
theorem dX5_partOf_64 : decode cX5_partOf 64 = .ok (.dup, 1) := by decide +kernel
theorem dX5_partOf_65 : decode cX5_partOf 65 = .ok (.ldc 226, 2) := by decide +kernel
theorem dX5_partOf_67 : decode cX5_partOf 67 = .ok (.invokespecial 40, 3) := by decide +kernel
theorem dX5_partOf_70 : decode cX5_partOf 70 = .ok (.athrow, 1) := by decide +kernel
theorem dX5_needRoomFor_0 : decode cX5_needRoomFor 0 = .ok (.aload_n 0, 1) := by decide +kernel
theorem dX5_needRoomFor_1 : decode cX5_needRoomFor 1 = .ok (.getfield 25, 3) := by decide +kernel
theorem dX5_needRoomFor_4 : decode cX5_needRoomFor 4 = .ok (.invokevirtual 43, 3) := by decide +kernel
theorem dX5_needRoomFor_7 : decode cX5_needRoomFor 7 = .ok (.iload_n 1, 1) := by decide +kernel
theorem dX5_needRoomFor_8 : decode cX5_needRoomFor 8 = .ok (.iadd, 1) := by decide +kernel
theorem dX5_needRoomFor_9 : decode cX5_needRoomFor 9 = .ok (.sipush 800, 3) := by decide +kernel
theorem dX5_needRoomFor_12 : decode cX5_needRoomFor 12 = .ok (.if_icmp .le 13, 3) := by decide +kernel
theorem dX5_needRoomFor_15 : decode cX5_needRoomFor 15 = .ok (.new 47, 3) := by decide +kernel
theorem dX5_needRoomFor_18 : decode cX5_needRoomFor 18 = .ok (.dup, 1) := by decide +kernel
theorem dX5_needRoomFor_19 : decode cX5_needRoomFor 19 = .ok (.ldc 228, 2) := by decide +kernel
theorem dX5_needRoomFor_21 : decode cX5_needRoomFor 21 = .ok (.invokespecial 51, 3) := by decide +kernel
theorem dX5_needRoomFor_24 : decode cX5_needRoomFor 24 = .ok (.athrow, 1) := by decide +kernel
theorem dX5_needRoomFor_25 : decode cX5_needRoomFor 25 = .ok (.return_, 1) := by decide +kernel
theorem dX5_send_0 : decode cX5_send 0 = .ok (.aload_n 0, 1) := by decide +kernel
theorem dX5_send_1 : decode cX5_send 1 = .ok (.getfield 25, 3) := by decide +kernel
theorem dX5_send_4 : decode cX5_send 4 = .ok (.invokevirtual 43, 3) := by decide +kernel
theorem dX5_send_7 : decode cX5_send 7 = .ok (.istore 4, 2) := by decide +kernel
theorem dX5_send_9 : decode cX5_send 9 = .ok (.aload_n 0, 1) := by decide +kernel
theorem dX5_send_10 : decode cX5_send 10 = .ok (.getfield 25, 3) := by decide +kernel
theorem dX5_send_13 : decode cX5_send 13 = .ok (.new 91, 3) := by decide +kernel
theorem dX5_send_16 : decode cX5_send 16 = .ok (.dup, 1) := by decide +kernel
theorem dX5_send_17 : decode cX5_send 17 = .ok (.iload_n 1, 1) := by decide +kernel
theorem dX5_send_18 : decode cX5_send 18 = .ok (.iload_n 2, 1) := by decide +kernel
theorem dX5_send_19 : decode cX5_send 19 = .ok (.aload_n 3, 1) := by decide +kernel
theorem dX5_send_20 : decode cX5_send 20 = .ok (.iconst (-1), 1) := by decide +kernel
theorem dX5_send_21 : decode cX5_send 21 = .ok (.iconst 0, 1) := by decide +kernel
theorem dX5_send_22 : decode cX5_send 22 = .ok (.invokespecial 141, 3) := by decide +kernel
theorem dX5_send_25 : decode cX5_send 25 = .ok (.invokevirtual 57, 3) := by decide +kernel
theorem dX5_send_28 : decode cX5_send 28 = .ok (.pop, 1) := by decide +kernel
theorem dX5_send_29 : decode cX5_send 29 = .ok (.iload 4, 2) := by decide +kernel
theorem dX5_send_31 : decode cX5_send 31 = .ok (.ireturn, 1) := by decide +kernel
theorem dX5_mayBeAnswered_0 : decode cX5_mayBeAnswered 0 = .ok (.aload_n 1, 1) := by decide +kernel
theorem dX5_mayBeAnswered_1 : decode cX5_mayBeAnswered 1 = .ok (.getfield 90, 3) := by decide +kernel
theorem dX5_mayBeAnswered_4 : decode cX5_mayBeAnswered 4 = .ok (.tableswitch 64 1 3 #[28, 30, 47], 28) := by decide +kernel
theorem dX5_mayBeAnswered_32 : decode cX5_mayBeAnswered 32 = .ok (.iconst 1, 1) := by decide +kernel
theorem dX5_mayBeAnswered_33 : decode cX5_mayBeAnswered 33 = .ok (.ireturn, 1) := by decide +kernel
theorem dX5_mayBeAnswered_34 : decode cX5_mayBeAnswered 34 = .ok (.aload_n 0, 1) := by decide +kernel
theorem dX5_mayBeAnswered_35 : decode cX5_mayBeAnswered 35 = .ok (.aload_n 1, 1) := by decide +kernel
theorem dX5_mayBeAnswered_36 : decode cX5_mayBeAnswered 36 = .ok (.getfield 199, 3) := by decide +kernel
theorem dX5_mayBeAnswered_39 : decode cX5_mayBeAnswered 39 = .ok (.invokevirtual 61, 3) := by decide +kernel
theorem dX5_mayBeAnswered_42 : decode cX5_mayBeAnswered 42 = .ok (.iconst 1, 1) := by decide +kernel
theorem dX5_mayBeAnswered_43 : decode cX5_mayBeAnswered 43 = .ok (.aload_n 1, 1) := by decide +kernel
theorem dX5_mayBeAnswered_44 : decode cX5_mayBeAnswered 44 = .ok (.getfield 113, 3) := by decide +kernel
theorem dX5_mayBeAnswered_47 : decode cX5_mayBeAnswered 47 = .ok (.invokevirtual 230, 3) := by decide +kernel
theorem dX5_mayBeAnswered_50 : decode cX5_mayBeAnswered 50 = .ok (.ireturn, 1) := by decide +kernel
theorem dX5_mayBeAnswered_51 : decode cX5_mayBeAnswered 51 = .ok (.aload_n 0, 1) := by decide +kernel
theorem dX5_mayBeAnswered_52 : decode cX5_mayBeAnswered 52 = .ok (.aload_n 1, 1) := by decide +kernel
theorem dX5_mayBeAnswered_53 : decode cX5_mayBeAnswered 53 = .ok (.getfield 199, 3) := by decide +kernel
theorem dX5_mayBeAnswered_56 : decode cX5_mayBeAnswered 56 = .ok (.invokevirtual 61, 3) := by decide +kernel
theorem dX5_mayBeAnswered_59 : decode cX5_mayBeAnswered 59 = .ok (.iconst 2, 1) := by decide +kernel
theorem dX5_mayBeAnswered_60 : decode cX5_mayBeAnswered 60 = .ok (.aload_n 1, 1) := by decide +kernel
theorem dX5_mayBeAnswered_61 : decode cX5_mayBeAnswered 61 = .ok (.getfield 113, 3) := by decide +kernel
theorem dX5_mayBeAnswered_64 : decode cX5_mayBeAnswered 64 = .ok (.invokevirtual 230, 3) := by decide +kernel
theorem dX5_mayBeAnswered_67 : decode cX5_mayBeAnswered 67 = .ok (.ireturn, 1) := by decide +kernel
theorem dX5_mayBeAnswered_68 : decode cX5_mayBeAnswered 68 = .ok (.iconst 0, 1) := by decide +kernel
theorem dX5_mayBeAnswered_69 : decode cX5_mayBeAnswered 69 = .ok (.ireturn, 1) := by decide +kernel
theorem dX5_takePay_0 : decode cX5_takePay 0 = .ok (.aload_n 0, 1) := by decide +kernel
theorem dX5_takePay_1 : decode cX5_takePay 1 = .ok (.aload_n 1, 1) := by decide +kernel
theorem dX5_takePay_2 : decode cX5_takePay 2 = .ok (.getfield 199, 3) := by decide +kernel
theorem dX5_takePay_5 : decode cX5_takePay 5 = .ok (.invokevirtual 61, 3) := by decide +kernel
theorem dX5_takePay_8 : decode cX5_takePay 8 = .ok (.astore_n 2, 1) := by decide +kernel
theorem dX5_takePay_9 : decode cX5_takePay 9 = .ok (.aload_n 1, 1) := by decide +kernel
theorem dX5_takePay_10 : decode cX5_takePay 10 = .ok (.getfield 113, 3) := by decide +kernel
theorem dX5_takePay_13 : decode cX5_takePay 13 = .ok (.astore_n 3, 1) := by decide +kernel
theorem dX5_takePay_14 : decode cX5_takePay 14 = .ok (.aload_n 2, 1) := by decide +kernel
theorem dX5_takePay_15 : decode cX5_takePay 15 = .ok (.invokevirtual 126, 3) := by decide +kernel
theorem dX5_takePay_18 : decode cX5_takePay 18 = .ok (.aload_n 2, 1) := by decide +kernel
theorem dX5_takePay_19 : decode cX5_takePay 19 = .ok (.invokevirtual 233, 3) := by decide +kernel
theorem dX5_takePay_22 : decode cX5_takePay 22 = .ok (.ifCond .ne 14, 3) := by decide +kernel
theorem dX5_takePay_25 : decode cX5_takePay 25 = .ok (.aload_n 2, 1) := by decide +kernel
theorem dX5_takePay_26 : decode cX5_takePay 26 = .ok (.getfield 179, 3) := by decide +kernel
theorem dX5_takePay_29 : decode cX5_takePay 29 = .ok (.aload_n 3, 1) := by decide +kernel
theorem dX5_takePay_30 : decode cX5_takePay 30 = .ok (.getfield 182, 3) := by decide +kernel
theorem dX5_takePay_33 : decode cX5_takePay 33 = .ok (.if_icmp .ge 5, 3) := by decide +kernel
theorem dX5_takePay_36 : decode cX5_takePay 36 = .ok (.iconst 0, 1) := by decide +kernel
theorem dX5_takePay_37 : decode cX5_takePay 37 = .ok (.ireturn, 1) := by decide +kernel
theorem dX5_takePay_38 : decode cX5_takePay 38 = .ok (.aload_n 2, 1) := by decide +kernel
theorem dX5_takePay_39 : decode cX5_takePay 39 = .ok (.iconst 1, 1) := by decide +kernel
theorem dX5_takePay_40 : decode cX5_takePay 40 = .ok (.new 7, 3) := by decide +kernel
theorem dX5_takePay_43 : decode cX5_takePay 43 = .ok (.dup, 1) := by decide +kernel
theorem dX5_takePay_44 : decode cX5_takePay 44 = .ok (.aload_n 2, 1) := by decide +kernel
theorem dX5_takePay_45 : decode cX5_takePay 45 = .ok (.getfield 237, 3) := by decide +kernel
theorem dX5_takePay_48 : decode cX5_takePay 48 = .ok (.aload_n 2, 1) := by decide +kernel
theorem dX5_takePay_49 : decode cX5_takePay 49 = .ok (.getfield 74, 3) := by decide +kernel
theorem dX5_takePay_52 : decode cX5_takePay 52 = .ok (.aload_n 3, 1) := by decide +kernel
theorem dX5_takePay_53 : decode cX5_takePay 53 = .ok (.getfield 164, 3) := by decide +kernel
theorem dX5_takePay_56 : decode cX5_takePay 56 = .ok (.aload_n 3, 1) := by decide +kernel
theorem dX5_takePay_57 : decode cX5_takePay 57 = .ok (.getfield 223, 3) := by decide +kernel
theorem dX5_takePay_60 : decode cX5_takePay 60 = .ok (.aload_n 3, 1) := by decide +kernel
theorem dX5_takePay_61 : decode cX5_takePay 61 = .ok (.getfield 182, 3) := by decide +kernel
theorem dX5_takePay_64 : decode cX5_takePay 64 = .ok (.invokespecial 11, 3) := by decide +kernel
theorem dX5_takePay_67 : decode cX5_takePay 67 = .ok (.invokevirtual 240, 3) := by decide +kernel
theorem dX5_takePay_70 : decode cX5_takePay 70 = .ok (.iconst 1, 1) := by decide +kernel
theorem dX5_takePay_71 : decode cX5_takePay 71 = .ok (.ireturn, 1) := by decide +kernel
theorem dX5_takeEarn_0 : decode cX5_takeEarn 0 = .ok (.aload_n 0, 1) := by decide +kernel
theorem dX5_takeEarn_1 : decode cX5_takeEarn 1 = .ok (.aload_n 1, 1) := by decide +kernel
theorem dX5_takeEarn_2 : decode cX5_takeEarn 2 = .ok (.getfield 199, 3) := by decide +kernel
theorem dX5_takeEarn_5 : decode cX5_takeEarn 5 = .ok (.invokevirtual 61, 3) := by decide +kernel
theorem dX5_takeEarn_8 : decode cX5_takeEarn 8 = .ok (.astore_n 2, 1) := by decide +kernel
theorem dX5_takeEarn_9 : decode cX5_takeEarn 9 = .ok (.aload_n 1, 1) := by decide +kernel
theorem dX5_takeEarn_10 : decode cX5_takeEarn 10 = .ok (.getfield 113, 3) := by decide +kernel
theorem dX5_takeEarn_13 : decode cX5_takeEarn 13 = .ok (.astore_n 3, 1) := by decide +kernel
theorem dX5_takeEarn_14 : decode cX5_takeEarn 14 = .ok (.aload_n 2, 1) := by decide +kernel
theorem dX5_takeEarn_15 : decode cX5_takeEarn 15 = .ok (.invokevirtual 126, 3) := by decide +kernel
theorem dX5_takeEarn_18 : decode cX5_takeEarn 18 = .ok (.aload_n 2, 1) := by decide +kernel
theorem dX5_takeEarn_19 : decode cX5_takeEarn 19 = .ok (.invokevirtual 233, 3) := by decide +kernel
theorem dX5_takeEarn_22 : decode cX5_takeEarn 22 = .ok (.ifCond .eq 5, 3) := by decide +kernel
theorem dX5_takeEarn_25 : decode cX5_takeEarn 25 = .ok (.iconst 0, 1) := by decide +kernel
theorem dX5_takeEarn_26 : decode cX5_takeEarn 26 = .ok (.ireturn, 1) := by decide +kernel
theorem dX5_takeEarn_27 : decode cX5_takeEarn 27 = .ok (.aload_n 2, 1) := by decide +kernel
theorem dX5_takeEarn_28 : decode cX5_takeEarn 28 = .ok (.iconst 2, 1) := by decide +kernel
theorem dX5_takeEarn_29 : decode cX5_takeEarn 29 = .ok (.new 7, 3) := by decide +kernel
theorem dX5_takeEarn_32 : decode cX5_takeEarn 32 = .ok (.dup, 1) := by decide +kernel
theorem dX5_takeEarn_33 : decode cX5_takeEarn 33 = .ok (.aload_n 3, 1) := by decide +kernel
theorem dX5_takeEarn_34 : decode cX5_takeEarn 34 = .ok (.getfield 158, 3) := by decide +kernel
theorem dX5_takeEarn_37 : decode cX5_takeEarn 37 = .ok (.aload_n 3, 1) := by decide +kernel
theorem dX5_takeEarn_38 : decode cX5_takeEarn 38 = .ok (.getfield 220, 3) := by decide +kernel
theorem dX5_takeEarn_41 : decode cX5_takeEarn 41 = .ok (.aload_n 2, 1) := by decide +kernel
theorem dX5_takeEarn_42 : decode cX5_takeEarn 42 = .ok (.getfield 237, 3) := by decide +kernel
theorem dX5_takeEarn_45 : decode cX5_takeEarn 45 = .ok (.aload_n 2, 1) := by decide +kernel
theorem dX5_takeEarn_46 : decode cX5_takeEarn 46 = .ok (.getfield 74, 3) := by decide +kernel
theorem dX5_takeEarn_49 : decode cX5_takeEarn 49 = .ok (.aload_n 3, 1) := by decide +kernel
theorem dX5_takeEarn_50 : decode cX5_takeEarn 50 = .ok (.getfield 182, 3) := by decide +kernel
theorem dX5_takeEarn_53 : decode cX5_takeEarn 53 = .ok (.invokespecial 11, 3) := by decide +kernel
theorem dX5_takeEarn_56 : decode cX5_takeEarn 56 = .ok (.invokevirtual 240, 3) := by decide +kernel
theorem dX5_takeEarn_59 : decode cX5_takeEarn 59 = .ok (.aload_n 0, 1) := by decide +kernel
theorem dX5_takeEarn_60 : decode cX5_takeEarn 60 = .ok (.iconst 2, 1) := by decide +kernel
theorem dX5_takeEarn_61 : decode cX5_takeEarn 61 = .ok (.aload_n 3, 1) := by decide +kernel
theorem dX5_takeEarn_62 : decode cX5_takeEarn 62 = .ok (.getfield 158, 3) := by decide +kernel
theorem dX5_takeEarn_65 : decode cX5_takeEarn 65 = .ok (.aload_n 2, 1) := by decide +kernel
theorem dX5_takeEarn_66 : decode cX5_takeEarn 66 = .ok (.getfield 187, 3) := by decide +kernel
theorem dX5_takeEarn_69 : decode cX5_takeEarn 69 = .ok (.invokevirtual 78, 3) := by decide +kernel
theorem dX5_takeEarn_72 : decode cX5_takeEarn 72 = .ok (.pop, 1) := by decide +kernel
theorem dX5_takeEarn_73 : decode cX5_takeEarn 73 = .ok (.iconst 1, 1) := by decide +kernel
theorem dX5_takeEarn_74 : decode cX5_takeEarn 74 = .ok (.ireturn, 1) := by decide +kernel
theorem dX5_takeAsk_0 : decode cX5_takeAsk 0 = .ok (.aload_n 0, 1) := by decide +kernel
theorem dX5_takeAsk_1 : decode cX5_takeAsk 1 = .ok (.aload_n 1, 1) := by decide +kernel
theorem dX5_takeAsk_2 : decode cX5_takeAsk 2 = .ok (.getfield 199, 3) := by decide +kernel
theorem dX5_takeAsk_5 : decode cX5_takeAsk 5 = .ok (.invokevirtual 61, 3) := by decide +kernel
theorem dX5_takeAsk_8 : decode cX5_takeAsk 8 = .ok (.astore_n 2, 1) := by decide +kernel
theorem dX5_takeAsk_9 : decode cX5_takeAsk 9 = .ok (.aload_n 2, 1) := by decide +kernel
theorem dX5_takeAsk_10 : decode cX5_takeAsk 10 = .ok (.iconst 1, 1) := by decide +kernel
theorem dX5_takeAsk_11 : decode cX5_takeAsk 11 = .ok (.aload_n 1, 1) := by decide +kernel
theorem dX5_takeAsk_12 : decode cX5_takeAsk 12 = .ok (.getfield 113, 3) := by decide +kernel
theorem dX5_takeAsk_15 : decode cX5_takeAsk 15 = .ok (.invokevirtual 230, 3) := by decide +kernel
theorem dX5_takeAsk_18 : decode cX5_takeAsk 18 = .ok (.ifCond .ne 5, 3) := by decide +kernel
theorem dX5_takeAsk_21 : decode cX5_takeAsk 21 = .ok (.iconst 0, 1) := by decide +kernel
theorem dX5_takeAsk_22 : decode cX5_takeAsk 22 = .ok (.ireturn, 1) := by decide +kernel
theorem dX5_takeAsk_23 : decode cX5_takeAsk 23 = .ok (.aload_n 2, 1) := by decide +kernel
theorem dX5_takeAsk_24 : decode cX5_takeAsk 24 = .ok (.dup, 1) := by decide +kernel
theorem dX5_takeAsk_25 : decode cX5_takeAsk 25 = .ok (.getfield 179, 3) := by decide +kernel
theorem dX5_takeAsk_28 : decode cX5_takeAsk 28 = .ok (.aload_n 1, 1) := by decide +kernel
theorem dX5_takeAsk_29 : decode cX5_takeAsk 29 = .ok (.getfield 113, 3) := by decide +kernel
theorem dX5_takeAsk_32 : decode cX5_takeAsk 32 = .ok (.getfield 182, 3) := by decide +kernel
theorem dX5_takeAsk_35 : decode cX5_takeAsk 35 = .ok (.isub, 1) := by decide +kernel
theorem dX5_takeAsk_36 : decode cX5_takeAsk 36 = .ok (.putfield 179, 3) := by decide +kernel
theorem dX5_takeAsk_39 : decode cX5_takeAsk 39 = .ok (.aload_n 2, 1) := by decide +kernel
theorem dX5_takeAsk_40 : decode cX5_takeAsk 40 = .ok (.iconst 3, 1) := by decide +kernel
theorem dX5_takeAsk_41 : decode cX5_takeAsk 41 = .ok (.putfield 123, 3) := by decide +kernel
theorem dX5_takeAsk_44 : decode cX5_takeAsk 44 = .ok (.aload_n 0, 1) := by decide +kernel
theorem dX5_takeAsk_45 : decode cX5_takeAsk 45 = .ok (.iconst 3, 1) := by decide +kernel
theorem dX5_takeAsk_46 : decode cX5_takeAsk 46 = .ok (.aload_n 1, 1) := by decide +kernel
theorem dX5_takeAsk_47 : decode cX5_takeAsk 47 = .ok (.getfield 113, 3) := by decide +kernel
theorem dX5_takeAsk_50 : decode cX5_takeAsk 50 = .ok (.getfield 164, 3) := by decide +kernel
theorem dX5_takeAsk_53 : decode cX5_takeAsk 53 = .ok (.aload_n 1, 1) := by decide +kernel
theorem dX5_takeAsk_54 : decode cX5_takeAsk 54 = .ok (.getfield 113, 3) := by decide +kernel
theorem dX5_takeAsk_57 : decode cX5_takeAsk 57 = .ok (.invokevirtual 78, 3) := by decide +kernel
theorem dX5_takeAsk_60 : decode cX5_takeAsk 60 = .ok (.pop, 1) := by decide +kernel
theorem dX5_takeAsk_61 : decode cX5_takeAsk 61 = .ok (.iconst 1, 1) := by decide +kernel
theorem dX5_takeAsk_62 : decode cX5_takeAsk 62 = .ok (.ireturn, 1) := by decide +kernel
theorem dX5_takeValue_0 : decode cX5_takeValue 0 = .ok (.aload_n 0, 1) := by decide +kernel
theorem dX5_takeValue_1 : decode cX5_takeValue 1 = .ok (.aload_n 1, 1) := by decide +kernel
theorem dX5_takeValue_2 : decode cX5_takeValue 2 = .ok (.getfield 199, 3) := by decide +kernel
theorem dX5_takeValue_5 : decode cX5_takeValue 5 = .ok (.invokevirtual 61, 3) := by decide +kernel
theorem dX5_takeValue_8 : decode cX5_takeValue 8 = .ok (.astore_n 2, 1) := by decide +kernel
theorem dX5_takeValue_9 : decode cX5_takeValue 9 = .ok (.aload_n 2, 1) := by decide +kernel
theorem dX5_takeValue_10 : decode cX5_takeValue 10 = .ok (.iconst 2, 1) := by decide +kernel
theorem dX5_takeValue_11 : decode cX5_takeValue 11 = .ok (.aload_n 1, 1) := by decide +kernel
theorem dX5_takeValue_12 : decode cX5_takeValue 12 = .ok (.getfield 113, 3) := by decide +kernel
theorem dX5_takeValue_15 : decode cX5_takeValue 15 = .ok (.invokevirtual 230, 3) := by decide +kernel
theorem dX5_takeValue_18 : decode cX5_takeValue 18 = .ok (.ifCond .ne 5, 3) := by decide +kernel
theorem dX5_takeValue_21 : decode cX5_takeValue 21 = .ok (.iconst 0, 1) := by decide +kernel
theorem dX5_takeValue_22 : decode cX5_takeValue 22 = .ok (.ireturn, 1) := by decide +kernel
theorem dX5_takeValue_23 : decode cX5_takeValue 23 = .ok (.aload_n 2, 1) := by decide +kernel
theorem dX5_takeValue_24 : decode cX5_takeValue 24 = .ok (.dup, 1) := by decide +kernel
theorem dX5_takeValue_25 : decode cX5_takeValue 25 = .ok (.getfield 179, 3) := by decide +kernel
theorem dX5_takeValue_28 : decode cX5_takeValue 28 = .ok (.aload_n 1, 1) := by decide +kernel
theorem dX5_takeValue_29 : decode cX5_takeValue 29 = .ok (.getfield 113, 3) := by decide +kernel
theorem dX5_takeValue_32 : decode cX5_takeValue 32 = .ok (.getfield 182, 3) := by decide +kernel
theorem dX5_takeValue_35 : decode cX5_takeValue 35 = .ok (.iadd, 1) := by decide +kernel
theorem dX5_takeValue_36 : decode cX5_takeValue 36 = .ok (.putfield 179, 3) := by decide +kernel
theorem dX5_takeValue_39 : decode cX5_takeValue 39 = .ok (.aload_n 2, 1) := by decide +kernel
theorem dX5_takeValue_40 : decode cX5_takeValue 40 = .ok (.invokevirtual 244, 3) := by decide +kernel
theorem dX5_takeValue_43 : decode cX5_takeValue 43 = .ok (.aload_n 0, 1) := by decide +kernel
theorem dX5_takeValue_44 : decode cX5_takeValue 44 = .ok (.iconst 4, 1) := by decide +kernel
theorem dX5_takeValue_45 : decode cX5_takeValue 45 = .ok (.aload_n 1, 1) := by decide +kernel
theorem dX5_takeValue_46 : decode cX5_takeValue 46 = .ok (.getfield 113, 3) := by decide +kernel
theorem dX5_takeValue_49 : decode cX5_takeValue 49 = .ok (.getfield 158, 3) := by decide +kernel
theorem dX5_takeValue_52 : decode cX5_takeValue 52 = .ok (.aload_n 1, 1) := by decide +kernel
theorem dX5_takeValue_53 : decode cX5_takeValue 53 = .ok (.getfield 113, 3) := by decide +kernel
theorem dX5_takeValue_56 : decode cX5_takeValue 56 = .ok (.invokevirtual 78, 3) := by decide +kernel
theorem dX5_takeValue_59 : decode cX5_takeValue 59 = .ok (.pop, 1) := by decide +kernel
theorem dX5_takeValue_60 : decode cX5_takeValue 60 = .ok (.iconst 1, 1) := by decide +kernel
theorem dX5_takeValue_61 : decode cX5_takeValue 61 = .ok (.ireturn, 1) := by decide +kernel
theorem dX5_takeThanks_0 : decode cX5_takeThanks 0 = .ok (.aload_n 0, 1) := by decide +kernel
theorem dX5_takeThanks_1 : decode cX5_takeThanks 1 = .ok (.aload_n 1, 1) := by decide +kernel
theorem dX5_takeThanks_2 : decode cX5_takeThanks 2 = .ok (.getfield 199, 3) := by decide +kernel
theorem dX5_takeThanks_5 : decode cX5_takeThanks 5 = .ok (.invokevirtual 61, 3) := by decide +kernel
theorem dX5_takeThanks_8 : decode cX5_takeThanks 8 = .ok (.astore_n 2, 1) := by decide +kernel
theorem dX5_takeThanks_9 : decode cX5_takeThanks 9 = .ok (.aload_n 2, 1) := by decide +kernel
theorem dX5_takeThanks_10 : decode cX5_takeThanks 10 = .ok (.iconst 3, 1) := by decide +kernel
theorem dX5_takeThanks_11 : decode cX5_takeThanks 11 = .ok (.aload_n 1, 1) := by decide +kernel
theorem dX5_takeThanks_12 : decode cX5_takeThanks 12 = .ok (.getfield 113, 3) := by decide +kernel
theorem dX5_takeThanks_15 : decode cX5_takeThanks 15 = .ok (.invokevirtual 230, 3) := by decide +kernel
theorem dX5_takeThanks_18 : decode cX5_takeThanks 18 = .ok (.ifCond .ne 5, 3) := by decide +kernel
theorem dX5_takeThanks_21 : decode cX5_takeThanks 21 = .ok (.iconst 0, 1) := by decide +kernel
theorem dX5_takeThanks_22 : decode cX5_takeThanks 22 = .ok (.ireturn, 1) := by decide +kernel
theorem dX5_takeThanks_23 : decode cX5_takeThanks 23 = .ok (.aload_n 2, 1) := by decide +kernel
theorem dX5_takeThanks_24 : decode cX5_takeThanks 24 = .ok (.invokevirtual 244, 3) := by decide +kernel
theorem dX5_takeThanks_27 : decode cX5_takeThanks 27 = .ok (.iconst 1, 1) := by decide +kernel
theorem dX5_takeThanks_28 : decode cX5_takeThanks 28 = .ok (.ireturn, 1) := by decide +kernel
theorem dX5_takeClear_0 : decode cX5_takeClear 0 = .ok (.aload_n 0, 1) := by decide +kernel
theorem dX5_takeClear_1 : decode cX5_takeClear 1 = .ok (.aload_n 1, 1) := by decide +kernel
theorem dX5_takeClear_2 : decode cX5_takeClear 2 = .ok (.getfield 199, 3) := by decide +kernel
theorem dX5_takeClear_5 : decode cX5_takeClear 5 = .ok (.invokevirtual 61, 3) := by decide +kernel
theorem dX5_takeClear_8 : decode cX5_takeClear 8 = .ok (.astore_n 2, 1) := by decide +kernel
theorem dX5_takeClear_9 : decode cX5_takeClear 9 = .ok (.aload_n 2, 1) := by decide +kernel
theorem dX5_takeClear_10 : decode cX5_takeClear 10 = .ok (.getfield 123, 3) := by decide +kernel
theorem dX5_takeClear_13 : decode cX5_takeClear 13 = .ok (.ifCond .ne 13, 3) := by decide +kernel
theorem dX5_takeClear_16 : decode cX5_takeClear 16 = .ok (.aload_n 2, 1) := by decide +kernel
theorem dX5_takeClear_17 : decode cX5_takeClear 17 = .ok (.getfield 134, 3) := by decide +kernel
theorem dX5_takeClear_20 : decode cX5_takeClear 20 = .ok (.invokevirtual 247, 3) := by decide +kernel
theorem dX5_takeClear_23 : decode cX5_takeClear 23 = .ok (.ifCond .eq 5, 3) := by decide +kernel
theorem dX5_takeClear_26 : decode cX5_takeClear 26 = .ok (.iconst 0, 1) := by decide +kernel
theorem dX5_takeClear_27 : decode cX5_takeClear 27 = .ok (.ireturn, 1) := by decide +kernel
theorem dX5_takeClear_28 : decode cX5_takeClear 28 = .ok (.iconst 0, 1) := by decide +kernel
theorem dX5_takeClear_29 : decode cX5_takeClear 29 = .ok (.istore_n 3, 1) := by decide +kernel
theorem dX5_takeClear_30 : decode cX5_takeClear 30 = .ok (.iload_n 3, 1) := by decide +kernel
theorem dX5_takeClear_31 : decode cX5_takeClear 31 = .ok (.aload_n 2, 1) := by decide +kernel
theorem dX5_takeClear_32 : decode cX5_takeClear 32 = .ok (.getfield 134, 3) := by decide +kernel
theorem dX5_takeClear_35 : decode cX5_takeClear 35 = .ok (.invokevirtual 43, 3) := by decide +kernel
theorem dX5_takeClear_38 : decode cX5_takeClear 38 = .ok (.if_icmp .ge 40, 3) := by decide +kernel
theorem dX5_takeClear_41 : decode cX5_takeClear 41 = .ok (.aload_n 0, 1) := by decide +kernel
theorem dX5_takeClear_42 : decode cX5_takeClear 42 = .ok (.getfield 31, 3) := by decide +kernel
theorem dX5_takeClear_45 : decode cX5_takeClear 45 = .ok (.aload_n 1, 1) := by decide +kernel
theorem dX5_takeClear_46 : decode cX5_takeClear 46 = .ok (.getfield 250, 3) := by decide +kernel
theorem dX5_takeClear_49 : decode cX5_takeClear 49 = .ok (.aload_n 2, 1) := by decide +kernel
theorem dX5_takeClear_50 : decode cX5_takeClear 50 = .ok (.getfield 237, 3) := by decide +kernel
theorem dX5_takeClear_53 : decode cX5_takeClear 53 = .ok (.aload_n 2, 1) := by decide +kernel
theorem dX5_takeClear_54 : decode cX5_takeClear 54 = .ok (.getfield 134, 3) := by decide +kernel
theorem dX5_takeClear_57 : decode cX5_takeClear 57 = .ok (.iload_n 3, 1) := by decide +kernel
theorem dX5_takeClear_58 : decode cX5_takeClear 58 = .ok (.invokevirtual 137, 3) := by decide +kernel
theorem dX5_takeClear_61 : decode cX5_takeClear 61 = .ok (.checkcast 7, 3) := by decide +kernel
theorem dX5_takeClear_64 : decode cX5_takeClear 64 = .ok (.invokevirtual 253, 3) := by decide +kernel
theorem dX5_takeClear_67 : decode cX5_takeClear 67 = .ok (.ifCond .ne 5, 3) := by decide +kernel
theorem dX5_takeClear_70 : decode cX5_takeClear 70 = .ok (.iconst 0, 1) := by decide +kernel
theorem dX5_takeClear_71 : decode cX5_takeClear 71 = .ok (.ireturn, 1) := by decide +kernel
theorem dX5_takeClear_72 : decode cX5_takeClear 72 = .ok (.iinc 3 1, 3) := by decide +kernel
theorem dX5_takeClear_75 : decode cX5_takeClear 75 = .ok (.goto (-45), 3) := by decide +kernel
theorem dX5_takeClear_78 : decode cX5_takeClear 78 = .ok (.aload_n 2, 1) := by decide +kernel
theorem dX5_takeClear_79 : decode cX5_takeClear 79 = .ok (.getfield 134, 3) := by decide +kernel
theorem dX5_takeClear_82 : decode cX5_takeClear 82 = .ok (.invokevirtual 257, 3) := by decide +kernel
theorem dX5_takeClear_85 : decode cX5_takeClear 85 = .ok (.iconst 1, 1) := by decide +kernel
theorem dX5_takeClear_86 : decode cX5_takeClear 86 = .ok (.ireturn, 1) := by decide +kernel
theorem dX5_pendingOfPayer_0 : decode cX5_pendingOfPayer 0 = .ok (.aload_n 1, 1) := by decide +kernel
theorem dX5_pendingOfPayer_1 : decode cX5_pendingOfPayer 1 = .ok (.getfield 123, 3) := by decide +kernel
theorem dX5_pendingOfPayer_4 : decode cX5_pendingOfPayer 4 = .ok (.iconst 3, 1) := by decide +kernel
theorem dX5_pendingOfPayer_5 : decode cX5_pendingOfPayer 5 = .ok (.if_icmp .ne 14, 3) := by decide +kernel
theorem dX5_pendingOfPayer_8 : decode cX5_pendingOfPayer 8 = .ok (.aload_n 0, 1) := by decide +kernel
theorem dX5_pendingOfPayer_9 : decode cX5_pendingOfPayer 9 = .ok (.aload_n 1, 1) := by decide +kernel
theorem dX5_pendingOfPayer_10 : decode cX5_pendingOfPayer 10 = .ok (.getfield 187, 3) := by decide +kernel
theorem dX5_pendingOfPayer_13 : decode cX5_pendingOfPayer 13 = .ok (.invokevirtual 210, 3) := by decide +kernel
theorem dX5_pendingOfPayer_16 : decode cX5_pendingOfPayer 16 = .ok (.goto 4, 3) := by decide +kernel
theorem dX5_pendingOfPayer_19 : decode cX5_pendingOfPayer 19 = .ok (.lconst 0, 1) := by decide +kernel
theorem dX5_pendingOfPayer_20 : decode cX5_pendingOfPayer 20 = .ok (.lstore_n 2, 1) := by decide +kernel
theorem dX5_pendingOfPayer_21 : decode cX5_pendingOfPayer 21 = .ok (.iconst 0, 1) := by decide +kernel
theorem dX5_pendingOfPayer_22 : decode cX5_pendingOfPayer 22 = .ok (.istore 4, 2) := by decide +kernel
theorem dX5_pendingOfPayer_24 : decode cX5_pendingOfPayer 24 = .ok (.iload 4, 2) := by decide +kernel
theorem dX5_pendingOfPayer_26 : decode cX5_pendingOfPayer 26 = .ok (.aload_n 1, 1) := by decide +kernel
theorem dX5_pendingOfPayer_27 : decode cX5_pendingOfPayer 27 = .ok (.getfield 134, 3) := by decide +kernel
theorem dX5_pendingOfPayer_30 : decode cX5_pendingOfPayer 30 = .ok (.invokevirtual 43, 3) := by decide +kernel
theorem dX5_pendingOfPayer_33 : decode cX5_pendingOfPayer 33 = .ok (.if_icmp .ge 60, 3) := by decide +kernel
theorem dX5_pendingOfPayer_36 : decode cX5_pendingOfPayer 36 = .ok (.aload_n 1, 1) := by decide +kernel
theorem dX5_pendingOfPayer_37 : decode cX5_pendingOfPayer 37 = .ok (.getfield 134, 3) := by decide +kernel
theorem dX5_pendingOfPayer_40 : decode cX5_pendingOfPayer 40 = .ok (.iload 4, 2) := by decide +kernel
theorem dX5_pendingOfPayer_42 : decode cX5_pendingOfPayer 42 = .ok (.invokevirtual 137, 3) := by decide +kernel
theorem dX5_pendingOfPayer_45 : decode cX5_pendingOfPayer 45 = .ok (.checkcast 7, 3) := by decide +kernel
theorem dX5_pendingOfPayer_48 : decode cX5_pendingOfPayer 48 = .ok (.astore 5, 2) := by decide +kernel
theorem dX5_pendingOfPayer_50 : decode cX5_pendingOfPayer 50 = .ok (.aload 5, 2) := by decide +kernel
theorem dX5_pendingOfPayer_52 : decode cX5_pendingOfPayer 52 = .ok (.getfield 158, 3) := by decide +kernel
theorem dX5_pendingOfPayer_55 : decode cX5_pendingOfPayer 55 = .ok (.aload_n 1, 1) := by decide +kernel
theorem dX5_pendingOfPayer_56 : decode cX5_pendingOfPayer 56 = .ok (.getfield 237, 3) := by decide +kernel
theorem dX5_pendingOfPayer_59 : decode cX5_pendingOfPayer 59 = .ok (.if_icmp .ne 28, 3) := by decide +kernel
theorem dX5_pendingOfPayer_62 : decode cX5_pendingOfPayer 62 = .ok (.aload_n 0, 1) := by decide +kernel
theorem dX5_pendingOfPayer_63 : decode cX5_pendingOfPayer 63 = .ok (.getfield 31, 3) := by decide +kernel
theorem dX5_pendingOfPayer_66 : decode cX5_pendingOfPayer 66 = .ok (.aload_n 1, 1) := by decide +kernel
theorem dX5_pendingOfPayer_67 : decode cX5_pendingOfPayer 67 = .ok (.getfield 237, 3) := by decide +kernel
theorem dX5_pendingOfPayer_70 : decode cX5_pendingOfPayer 70 = .ok (.aload 5, 2) := by decide +kernel
theorem dX5_pendingOfPayer_72 : decode cX5_pendingOfPayer 72 = .ok (.invokevirtual 161, 3) := by decide +kernel
theorem dX5_pendingOfPayer_75 : decode cX5_pendingOfPayer 75 = .ok (.ifCond .ne 12, 3) := by decide +kernel
theorem dX5_pendingOfPayer_78 : decode cX5_pendingOfPayer 78 = .ok (.lload_n 2, 1) := by decide +kernel
theorem dX5_pendingOfPayer_79 : decode cX5_pendingOfPayer 79 = .ok (.aload_n 0, 1) := by decide +kernel
theorem dX5_pendingOfPayer_80 : decode cX5_pendingOfPayer 80 = .ok (.aload 5, 2) := by decide +kernel
theorem dX5_pendingOfPayer_82 : decode cX5_pendingOfPayer 82 = .ok (.invokevirtual 210, 3) := by decide +kernel
theorem dX5_pendingOfPayer_85 : decode cX5_pendingOfPayer 85 = .ok (.ladd, 1) := by decide +kernel
theorem dX5_pendingOfPayer_86 : decode cX5_pendingOfPayer 86 = .ok (.lstore_n 2, 1) := by decide +kernel
theorem dX5_pendingOfPayer_87 : decode cX5_pendingOfPayer 87 = .ok (.iinc 4 1, 3) := by decide +kernel
theorem dX5_pendingOfPayer_90 : decode cX5_pendingOfPayer 90 = .ok (.goto (-66), 3) := by decide +kernel
theorem dX5_pendingOfPayer_93 : decode cX5_pendingOfPayer 93 = .ok (.lload_n 2, 1) := by decide +kernel
theorem dX5_pendingOfPayer_94 : decode cX5_pendingOfPayer 94 = .ok (.lreturn, 1) := by decide +kernel
theorem dX5_amountIfPayeeWaits_0 : decode cX5_amountIfPayeeWaits 0 = .ok (.aload_n 0, 1) := by decide +kernel
theorem dX5_amountIfPayeeWaits_1 : decode cX5_amountIfPayeeWaits 1 = .ok (.aload_n 1, 1) := by decide +kernel
theorem dX5_amountIfPayeeWaits_2 : decode cX5_amountIfPayeeWaits 2 = .ok (.getfield 164, 3) := by decide +kernel
theorem dX5_amountIfPayeeWaits_5 : decode cX5_amountIfPayeeWaits 5 = .ok (.invokevirtual 61, 3) := by decide +kernel
theorem dX5_amountIfPayeeWaits_8 : decode cX5_amountIfPayeeWaits 8 = .ok (.astore_n 2, 1) := by decide +kernel
theorem dX5_amountIfPayeeWaits_9 : decode cX5_amountIfPayeeWaits 9 = .ok (.aload_n 2, 1) := by decide +kernel
theorem dX5_amountIfPayeeWaits_10 : decode cX5_amountIfPayeeWaits 10 = .ok (.iconst 2, 1) := by decide +kernel
theorem dX5_amountIfPayeeWaits_11 : decode cX5_amountIfPayeeWaits 11 = .ok (.aload_n 1, 1) := by decide +kernel
theorem dX5_amountIfPayeeWaits_12 : decode cX5_amountIfPayeeWaits 12 = .ok (.invokevirtual 230, 3) := by decide +kernel
theorem dX5_amountIfPayeeWaits_15 : decode cX5_amountIfPayeeWaits 15 = .ok (.ifCond .ne 26, 3) := by decide +kernel
theorem dX5_amountIfPayeeWaits_18 : decode cX5_amountIfPayeeWaits 18 = .ok (.aload_n 2, 1) := by decide +kernel
theorem dX5_amountIfPayeeWaits_19 : decode cX5_amountIfPayeeWaits 19 = .ok (.aload_n 1, 1) := by decide +kernel
theorem dX5_amountIfPayeeWaits_20 : decode cX5_amountIfPayeeWaits 20 = .ok (.invokevirtual 260, 3) := by decide +kernel
theorem dX5_amountIfPayeeWaits_23 : decode cX5_amountIfPayeeWaits 23 = .ok (.ifCond .ne 18, 3) := by decide +kernel
theorem dX5_amountIfPayeeWaits_26 : decode cX5_amountIfPayeeWaits 26 = .ok (.aload_n 0, 1) := by decide +kernel
theorem dX5_amountIfPayeeWaits_27 : decode cX5_amountIfPayeeWaits 27 = .ok (.getfield 31, 3) := by decide +kernel
theorem dX5_amountIfPayeeWaits_30 : decode cX5_amountIfPayeeWaits 30 = .ok (.aload_n 1, 1) := by decide +kernel
theorem dX5_amountIfPayeeWaits_31 : decode cX5_amountIfPayeeWaits 31 = .ok (.getfield 164, 3) := by decide +kernel
theorem dX5_amountIfPayeeWaits_34 : decode cX5_amountIfPayeeWaits 34 = .ok (.aload_n 1, 1) := by decide +kernel
theorem dX5_amountIfPayeeWaits_35 : decode cX5_amountIfPayeeWaits 35 = .ok (.invokevirtual 161, 3) := by decide +kernel
theorem dX5_amountIfPayeeWaits_38 : decode cX5_amountIfPayeeWaits 38 = .ok (.ifCond .eq 7, 3) := by decide +kernel
theorem dX5_amountIfPayeeWaits_41 : decode cX5_amountIfPayeeWaits 41 = .ok (.iconst 1, 1) := by decide +kernel
theorem dX5_amountIfPayeeWaits_42 : decode cX5_amountIfPayeeWaits 42 = .ok (.goto 4, 3) := by decide +kernel
theorem dX5_amountIfPayeeWaits_45 : decode cX5_amountIfPayeeWaits 45 = .ok (.iconst 0, 1) := by decide +kernel
theorem dX5_amountIfPayeeWaits_46 : decode cX5_amountIfPayeeWaits 46 = .ok (.istore_n 3, 1) := by decide +kernel
theorem dX5_amountIfPayeeWaits_47 : decode cX5_amountIfPayeeWaits 47 = .ok (.iload_n 3, 1) := by decide +kernel
theorem dX5_amountIfPayeeWaits_48 : decode cX5_amountIfPayeeWaits 48 = .ok (.ifCond .eq 22, 3) := by decide +kernel
theorem dX5_amountIfPayeeWaits_51 : decode cX5_amountIfPayeeWaits 51 = .ok (.aload_n 0, 1) := by decide +kernel
theorem dX5_amountIfPayeeWaits_52 : decode cX5_amountIfPayeeWaits 52 = .ok (.getfield 31, 3) := by decide +kernel
theorem dX5_amountIfPayeeWaits_55 : decode cX5_amountIfPayeeWaits 55 = .ok (.aload_n 1, 1) := by decide +kernel
theorem dX5_amountIfPayeeWaits_56 : decode cX5_amountIfPayeeWaits 56 = .ok (.invokevirtual 264, 3) := by decide +kernel
theorem dX5_amountIfPayeeWaits_59 : decode cX5_amountIfPayeeWaits 59 = .ok (.ifCond .ne 11, 3) := by decide +kernel
theorem dX5_amountIfPayeeWaits_62 : decode cX5_amountIfPayeeWaits 62 = .ok (.aload_n 1, 1) := by decide +kernel
theorem dX5_amountIfPayeeWaits_63 : decode cX5_amountIfPayeeWaits 63 = .ok (.getfield 182, 3) := by decide +kernel
theorem dX5_amountIfPayeeWaits_66 : decode cX5_amountIfPayeeWaits 66 = .ok (.i2l, 1) := by decide +kernel
theorem dX5_amountIfPayeeWaits_67 : decode cX5_amountIfPayeeWaits 67 = .ok (.goto 4, 3) := by decide +kernel
theorem dX5_amountIfPayeeWaits_70 : decode cX5_amountIfPayeeWaits 70 = .ok (.lconst 0, 1) := by decide +kernel
theorem dX5_amountIfPayeeWaits_71 : decode cX5_amountIfPayeeWaits 71 = .ok (.lreturn, 1) := by decide +kernel
end
section
set_option maxRecDepth 20000 in
theorem ggX5_init_X4_init : GoodIn wsX5_init wsX4_init := goodIn_r _ [19, 20, 2, 3, 21, 22, 23, 24, 25, 48, 49, 50, 51, 52] (by decide +kernel) (by decide +kernel)
set_option maxRecDepth 20000 in
theorem gX5_init_X4_init : GoodIn wsX5_init (wsX4_init) := ggX5_init_X4_init
set_option maxRecDepth 20000 in
theorem ggX5_init_Jx4a65c_init_da8c8 : GoodIn wsX5_init wsJx4a65c_init_da8c8 := goodIn_r _ [28, 29, 30, 31, 32, 33, 34, 35, 36, 37, 38, 39, 40, 2, 3, 57, 58, 59] (by decide +kernel) (by decide +kernel)
set_option maxRecDepth 20000 in
theorem gX5_init_Jx4a65c_init_da8c8 : GoodIn wsX5_init (wsJx4a65c_init_da8c8) := ggX5_init_Jx4a65c_init_da8c8
set_option maxRecDepth 20000 in
theorem ggX5_init_X0_init : GoodIn wsX5_init wsX0_init := goodIn_r _ [43, 44, 2, 3, 45, 9, 10, 46, 47, 27, 28, 29, 30, 31, 32, 33, 34, 35, 36, 37, 38, 39, 40, 57, 58, 59, 60] (by decide +kernel) (by decide +kernel)
set_option maxRecDepth 20000 in
theorem gX5_init_X0_init : GoodIn wsX5_init (wsX0_init) := ggX5_init_X0_init
set_option maxRecDepth 20000 in
theorem ggX5_purse_Jx4a65c_size_8abf5 : GoodIn wsX5_purse wsJx4a65c_size_8abf5 := goodIn_r _ [15, 16, 110, 111, 112] (by decide +kernel) (by decide +kernel)
set_option maxRecDepth 20000 in
theorem gX5_purse_Jx4a65c_size_8abf5 : GoodIn wsX5_purse (wsV RX5 43 RJx4a65c yJx4a65c_size_8abf5 wsJx4a65c_size_8abf5) := goodIn_app (goodIn_of _ (by decide +kernel)) ggX5_purse_Jx4a65c_size_8abf5
set_option maxRecDepth 20000 in
theorem ggX5_purse_X3_init : GoodIn wsX5_purse wsX3_init := goodIn_r _ [19, 20, 21, 22, 23, 24, 25, 26, 27, 14, 28, 29, 30, 31, 32, 33, 34, 35, 36, 37, 38, 39, 40, 41, 42, 43, 44, 45, 46, 103, 104, 105, 106, 107, 108, 109, 110, 111, 112] (by decide +kernel) (by decide +kernel)
set_option maxRecDepth 20000 in
theorem gX5_purse_X3_init : GoodIn wsX5_purse (wsX3_init) := ggX5_purse_X3_init
set_option maxRecDepth 20000 in
theorem ggX5_purse_Jx4a65c_add_9ea2d : GoodIn wsX5_purse wsJx4a65c_add_9ea2d := goodIn_r _ [50, 51, 52, 36, 16, 53, 54, 55, 14, 56, 57, 58, 59, 60, 61, 62, 63, 64, 35, 65, 66, 67, 68, 69, 70, 71, 72, 73, 74, 75, 76, 77, 78, 79, 80, 81, 82, 83, 84, 85, 86, 87, 88, 89, 90, 91, 92, 93, 94, 95, 96, 97, 98, 110, 111, 112] (by decide +kernel) (by decide +kernel)
set_option maxRecDepth 20000 in
theorem gX5_purse_Jx4a65c_add_9ea2d : GoodIn wsX5_purse (wsV RX5 57 RJx4a65c yJx4a65c_add_9ea2d wsJx4a65c_add_9ea2d) := goodIn_app (goodIn_of _ (by decide +kernel)) ggX5_purse_Jx4a65c_add_9ea2d
set_option maxRecDepth 20000 in
theorem ggX5_begin_X5_purseAt : GoodIn wsX5_begin wsX5_purseAt := goodIn_ca (goodIn_r _ [12, 13, 14, 15, 16, 17, 18, 19, 20, 21, 22, 23, 24, 25, 26, 27, 28, 29, 30, 31, 32, 33, 34, 35, 36, 37, 38, 39, 139, 140, 141, 142, 143, 144, 145] (by decide +kernel) (by decide +kernel)) (goodIn_sub (fun _ h => List.mem_cons_of_mem _ (List.mem_append_left _ (List.mem_append_right _ h))) (by decide +kernel))
set_option maxRecDepth 20000 in
theorem gX5_begin_X5_purseAt : GoodIn wsX5_begin (wsV RX5 61 RX5 yX5_purseAt wsX5_purseAt) := goodIn_app (goodIn_of _ (by decide +kernel)) ggX5_begin_X5_purseAt
set_option maxRecDepth 20000 in
theorem ggX5_begin_X5_needRoomFor : GoodIn wsX5_begin wsX5_needRoomFor := goodIn_ca (goodIn_r _ [43, 44, 45, 46, 17, 18, 19, 20, 21, 22, 139, 140, 141, 142, 143, 144, 145] (by decide +kernel) (by decide +kernel)) (goodIn_sub (fun _ h => List.mem_cons_of_mem _ (List.mem_append_right _ h)) (by decide +kernel))
set_option maxRecDepth 20000 in
theorem gX5_begin_X5_needRoomFor : GoodIn wsX5_begin (wsV RX5 70 RX5 yX5_needRoomFor wsX5_needRoomFor) := goodIn_app (goodIn_of _ (by decide +kernel)) ggX5_begin_X5_needRoomFor
set_option maxRecDepth 20000 in
theorem ggX5_begin_X4_init : GoodIn wsX5_begin wsX4_init := goodIn_r _ [49, 50, 51, 52, 53, 54, 55, 56, 57, 127, 128, 129, 130, 131] (by decide +kernel) (by decide +kernel)
set_option maxRecDepth 20000 in
theorem gX5_begin_X4_init : GoodIn wsX5_begin (wsX4_init) := ggX5_begin_X4_init
set_option maxRecDepth 20000 in
theorem ggX5_begin_X5_send : GoodIn wsX5_begin wsX5_send := goodIn_r _ [61, 46, 62, 63, 64, 17, 18, 19, 20, 21, 22, 65, 66, 67, 68, 51, 52, 69, 70, 71, 72, 73, 74, 75, 76, 77, 78, 79, 39, 80, 81, 82, 83, 84, 85, 86, 87, 88, 89, 90, 91, 92, 93, 94, 95, 96, 97, 98, 99, 100, 101, 102, 103, 104, 105, 106, 107, 108, 109, 110, 111, 112, 113, 114, 115, 116, 117, 118, 119, 120, 121, 122, 123, 124, 125, 126, 139, 140, 141, 142, 146, 147, 148, 149, 150, 143, 144, 145] (by decide +kernel) (by decide +kernel)
set_option maxRecDepth 20000 in
theorem gX5_begin_X5_send : GoodIn wsX5_begin (wsV RX5 78 RX5 yX5_send wsX5_send) := goodIn_app (goodIn_of _ (by decide +kernel)) ggX5_begin_X5_send
set_option maxRecDepth 20000 in
theorem ggX5_deliver_X5_messageAt : GoodIn wsX5_deliver wsX5_messageAt := goodIn_ca (goodIn_r _ [9, 10, 11, 12, 13, 14, 15, 16, 17, 18, 19, 20, 21, 22, 23, 24, 25, 26, 27, 28, 29, 30, 31, 32, 33, 34, 35, 36, 251, 252, 253, 254, 255, 256, 257] (by decide +kernel) (by decide +kernel)) (goodIn_sub (fun _ h => List.mem_cons_of_mem _ (List.mem_append_left _ (List.mem_append_right _ h))) (by decide +kernel))
set_option maxRecDepth 20000 in
theorem gX5_deliver_X5_messageAt : GoodIn wsX5_deliver (wsV RX5 82 RX5 yX5_messageAt wsX5_messageAt) := goodIn_app (goodIn_of _ (by decide +kernel)) ggX5_deliver_X5_messageAt
set_option maxRecDepth 20000 in
theorem ggX5_deliver_X5_mayBeAnswered : GoodIn wsX5_deliver wsX5_mayBeAnswered := goodIn_ca (goodIn_r _ [40, 1, 41, 4, 42, 43, 44, 8, 45, 10, 11, 46, 47, 14, 15, 16, 17, 18, 19, 20, 21, 22, 23, 24, 25, 26, 27, 28, 29, 30, 31, 32, 33, 34, 35, 36, 48, 49, 50, 51, 52, 53, 54, 55, 56, 57, 58, 59, 60, 61, 62, 63, 64, 246, 247, 248, 249, 250, 251, 252, 253, 254, 255, 256, 257, 258, 259, 260, 261, 262, 263, 264, 265, 266, 267, 268, 269] (by decide +kernel) (by decide +kernel)) (goodIn_sub (fun _ h => List.mem_cons_of_mem _ (List.mem_append_left _ (List.mem_append_right _ h))) (by decide +kernel))
set_option maxRecDepth 20000 in
theorem gX5_deliver_X5_mayBeAnswered : GoodIn wsX5_deliver (wsV RX5 86 RX5 yX5_mayBeAnswered wsX5_mayBeAnswered) := goodIn_app (goodIn_of _ (by decide +kernel)) ggX5_deliver_X5_mayBeAnswered
set_option maxRecDepth 20000 in
theorem ggX5_deliver_X5_needRoomFor : GoodIn wsX5_deliver wsX5_needRoomFor := goodIn_ca (goodIn_r _ [68, 69, 70, 12, 14, 15, 16, 17, 18, 19, 251, 252, 253, 254, 255, 256, 257] (by decide +kernel) (by decide +kernel)) (goodIn_sub (fun _ h => List.mem_cons_of_mem _ (List.mem_append_right _ h)) (by decide +kernel))
set_option maxRecDepth 20000 in
theorem gX5_deliver_X5_needRoomFor : GoodIn wsX5_deliver (wsV RX5 70 RX5 yX5_needRoomFor wsX5_needRoomFor) := goodIn_app (goodIn_of _ (by decide +kernel)) ggX5_deliver_X5_needRoomFor
set_option maxRecDepth 20000 in
theorem ggX5_deliver_X5_takePay : GoodIn wsX5_deliver wsX5_takePay := goodIn_ca (goodIn_r _ [74, 41, 4, 75, 76, 77, 78, 58, 79, 80, 81, 82, 42, 43, 44, 8, 45, 10, 11, 46, 47, 14, 15, 16, 17, 18, 19, 20, 21, 22, 23, 24, 25, 26, 27, 28, 29, 30, 31, 32, 33, 34, 35, 36, 83, 84, 85, 51, 86, 53, 87, 54, 88, 89, 90, 91, 92, 93, 94, 95, 96, 97, 98, 99, 100, 101, 102, 103, 104, 105, 106, 107, 108, 109, 110, 111, 112, 113, 114, 115, 116, 117, 118, 119, 120, 121, 122, 123, 124, 125, 126, 127, 128, 129, 130, 131, 132, 133, 134, 135, 136, 137, 138, 139, 140, 141, 142, 143, 144, 145, 146, 147, 148, 149, 150, 151, 152, 153, 154, 155, 156, 157, 60, 61, 62, 63, 64, 158, 159, 160, 161, 246, 247, 248, 249, 250, 258, 259, 260, 261, 262, 263, 264, 265, 266, 267, 268, 269, 251, 252, 253, 254, 255, 256, 257] (by decide +kernel) (by decide +kernel)) (goodIn_sub (fun _ h => List.mem_cons_of_mem _ (List.mem_append_left _ (List.mem_append_right _ h))) (by decide +kernel))
set_option maxRecDepth 20000 in
theorem gX5_deliver_X5_takePay : GoodIn wsX5_deliver (wsV RX5 95 RX5 yX5_takePay wsX5_takePay) := goodIn_app (goodIn_of _ (by decide +kernel)) ggX5_deliver_X5_takePay
set_option maxRecDepth 20000 in
theorem ggX5_deliver_X5_takeEarn : GoodIn wsX5_deliver wsX5_takeEarn := goodIn_ca (goodIn_r _ [165, 41, 4, 77, 78, 58, 166, 167, 79, 80, 76, 168, 42, 43, 44, 8, 45, 10, 11, 46, 47, 14, 15, 16, 17, 18, 19, 20, 21, 22, 23, 24, 25, 26, 27, 28, 29, 30, 31, 32, 33, 34, 35, 36, 83, 84, 85, 51, 86, 53, 87, 54, 88, 89, 90, 91, 92, 93, 94, 95, 96, 97, 98, 99, 100, 101, 102, 103, 104, 105, 106, 107, 108, 109, 110, 111, 112, 113, 114, 115, 116, 117, 118, 119, 120, 121, 122, 123, 124, 125, 126, 127, 128, 129, 130, 131, 132, 133, 134, 135, 136, 137, 138, 139, 140, 141, 142, 143, 144, 145, 146, 147, 148, 149, 150, 151, 152, 153, 154, 155, 156, 157, 60, 61, 62, 63, 64, 158, 159, 160, 161, 169, 170, 171, 172, 12, 173, 174, 175, 176, 177, 178, 179, 180, 181, 182, 183, 184, 185, 246, 247, 248, 249, 250, 265, 266, 267, 268, 269, 258, 259, 260, 261, 262, 263, 264, 251, 252, 253, 254, 255, 256, 257] (by decide +kernel) (by decide +kernel)) (goodIn_sub (fun _ h => List.mem_cons_of_mem _ (List.mem_append_left _ (List.mem_append_right _ h))) (by decide +kernel))
set_option maxRecDepth 20000 in
theorem gX5_deliver_X5_takeEarn : GoodIn wsX5_deliver (wsV RX5 98 RX5 yX5_takeEarn wsX5_takeEarn) := goodIn_app (goodIn_of _ (by decide +kernel)) ggX5_deliver_X5_takeEarn
set_option maxRecDepth 20000 in
theorem ggX5_deliver_X5_takeAsk : GoodIn wsX5_deliver wsX5_takeAsk := goodIn_ca (goodIn_r _ [189, 41, 4, 75, 76, 190, 81, 42, 43, 44, 8, 45, 10, 11, 46, 47, 14, 15, 16, 17, 18, 19, 20, 21, 22, 23, 24, 25, 26, 27, 28, 29, 30, 31, 32, 33, 34, 35, 36, 48, 49, 50, 51, 52, 53, 54, 55, 56, 57, 58, 59, 60, 61, 62, 63, 64, 169, 170, 171, 172, 12, 173, 174, 175, 176, 177, 178, 179, 156, 157, 180, 181, 182, 183, 184, 185, 90, 91, 92, 93, 94, 95, 96, 97, 98, 99, 100, 101, 102, 103, 104, 105, 106, 107, 108, 109, 110, 111, 112, 113, 114, 115, 116, 117, 118, 119, 120, 121, 122, 123, 124, 125, 126, 127, 128, 129, 130, 131, 132, 133, 134, 135, 136, 137, 138, 139, 140, 141, 246, 247, 248, 249, 250, 258, 259, 260, 261, 262, 263, 264, 265, 266, 267, 268, 269, 251, 252, 253, 254, 255, 256, 257] (by decide +kernel) (by decide +kernel)) (goodIn_sub (fun _ h => List.mem_cons_of_mem _ (List.mem_append_left _ (List.mem_append_right _ h))) (by decide +kernel))
set_option maxRecDepth 20000 in
theorem gX5_deliver_X5_takeAsk : GoodIn wsX5_deliver (wsV RX5 101 RX5 yX5_takeAsk wsX5_takeAsk) := goodIn_app (goodIn_of _ (by decide +kernel)) ggX5_deliver_X5_takeAsk
set_option maxRecDepth 20000 in
theorem ggX5_deliver_X5_takeValue : GoodIn wsX5_deliver wsX5_takeValue := goodIn_ca (goodIn_r _ [194, 41, 4, 75, 76, 166, 42, 43, 44, 8, 45, 10, 11, 46, 47, 14, 15, 16, 17, 18, 19, 20, 21, 22, 23, 24, 25, 26, 27, 28, 29, 30, 31, 32, 33, 34, 35, 36, 48, 49, 50, 51, 52, 53, 54, 55, 56, 57, 58, 59, 60, 61, 62, 63, 64, 195, 143, 144, 145, 146, 169, 170, 171, 172, 12, 173, 174, 175, 176, 177, 178, 179, 156, 157, 180, 181, 182, 183, 184, 185, 90, 91, 92, 93, 94, 95, 96, 97, 98, 99, 100, 101, 102, 103, 104, 105, 106, 107, 108, 109, 110, 111, 112, 113, 114, 115, 116, 117, 118, 119, 120, 121, 122, 123, 124, 125, 126, 127, 128, 129, 130, 131, 132, 133, 134, 135, 136, 137, 138, 139, 140, 141, 246, 247, 248, 249, 250, 258, 259, 260, 261, 262, 263, 264, 265, 266, 267, 268, 269, 251, 252, 253, 254, 255, 256, 257] (by decide +kernel) (by decide +kernel)) (goodIn_sub (fun _ h => List.mem_cons_of_mem _ (List.mem_append_left _ (List.mem_append_right _ h))) (by decide +kernel))
set_option maxRecDepth 20000 in
theorem gX5_deliver_X5_takeValue : GoodIn wsX5_deliver (wsV RX5 104 RX5 yX5_takeValue wsX5_takeValue) := goodIn_app (goodIn_of _ (by decide +kernel)) ggX5_deliver_X5_takeValue
set_option maxRecDepth 20000 in
theorem ggX5_deliver_X5_takeThanks : GoodIn wsX5_deliver wsX5_takeThanks := goodIn_ca (goodIn_r _ [199, 41, 4, 42, 43, 44, 8, 45, 10, 11, 46, 47, 14, 15, 16, 17, 18, 19, 20, 21, 22, 23, 24, 25, 26, 27, 28, 29, 30, 31, 32, 33, 34, 35, 36, 48, 49, 50, 51, 52, 53, 54, 55, 56, 57, 58, 59, 60, 61, 62, 63, 64, 195, 143, 144, 145, 146, 246, 247, 248, 249, 250, 251, 252, 253, 254, 255, 256, 257, 258, 259, 260, 261, 262, 263, 264, 265, 266, 267, 268, 269] (by decide +kernel) (by decide +kernel)) (goodIn_sub (fun _ h => List.mem_cons_of_mem _ (List.mem_append_left _ (List.mem_append_right _ h))) (by decide +kernel))
set_option maxRecDepth 20000 in
theorem gX5_deliver_X5_takeThanks : GoodIn wsX5_deliver (wsV RX5 107 RX5 yX5_takeThanks wsX5_takeThanks) := goodIn_app (goodIn_of _ (by decide +kernel)) ggX5_deliver_X5_takeThanks
set_option maxRecDepth 20000 in
theorem ggX5_deliver_X0_takeRecord : GoodIn wsX5_deliver wsX0_takeRecord := goodIn_r _ [204, 205, 206, 207, 208, 209, 210, 211, 203, 212, 213, 15, 16, 17, 18, 19, 214, 215, 216, 217, 218, 219, 220, 221, 21, 22, 23, 24, 25, 26, 27, 28, 29, 30, 31, 32, 33, 34, 35, 36, 222, 56, 57, 58, 59, 60, 61, 62, 63, 64, 223, 224, 225, 226, 156, 157, 227, 228, 229, 90, 91, 92, 93, 94, 95, 96, 97, 98, 99, 100, 101, 102, 103, 104, 105, 106, 107, 108, 109, 110, 111, 112, 113, 114, 115, 116, 117, 118, 119, 120, 121, 122, 123, 124, 125, 126, 127, 128, 129, 130, 131, 132, 133, 134, 135, 136, 137, 138, 139, 140, 141, 270, 271, 272, 273, 255, 256, 257, 265, 266, 267, 268, 269] (by decide +kernel) (by decide +kernel)
set_option maxRecDepth 20000 in
theorem gX5_deliver_X0_takeRecord : GoodIn wsX5_deliver (wsV RX5 116 RX0 yX0_takeRecord wsX0_takeRecord) := goodIn_app (goodIn_of _ (by decide +kernel)) ggX5_deliver_X0_takeRecord
set_option maxRecDepth 20000 in
theorem ggX5_deliver_X5_takeClear : GoodIn wsX5_deliver wsX5_takeClear := goodIn_ca (goodIn_r _ [233, 41, 190, 234, 2, 235, 79, 236, 42, 43, 44, 8, 45, 10, 11, 46, 47, 14, 15, 16, 17, 18, 19, 20, 21, 22, 23, 24, 25, 26, 27, 28, 29, 30, 31, 32, 33, 34, 35, 36, 237, 238, 239, 240, 241, 215, 216, 203, 217, 205, 218, 219, 220, 213, 221, 222, 56, 57, 58, 59, 60, 61, 62, 63, 64, 242, 243, 244, 245, 93, 94, 246, 247, 248, 249, 250, 258, 259, 260, 261, 262, 263, 264, 251, 252, 253, 254, 255, 256, 257, 270, 271, 272, 273, 265, 266, 267, 268, 269] (by decide +kernel) (by decide +kernel)) (goodIn_sub (fun _ h => List.mem_cons_of_mem _ (List.mem_append_left _ (List.mem_append_right _ h))) (by decide +kernel))
set_option maxRecDepth 20000 in
theorem gX5_deliver_X5_takeClear : GoodIn wsX5_deliver (wsV RX5 120 RX5 yX5_takeClear wsX5_takeClear) := goodIn_app (goodIn_of _ (by decide +kernel)) ggX5_deliver_X5_takeClear
set_option maxRecDepth 20000 in
theorem ggX5_abort_X5_purseAt : GoodIn wsX5_abort wsX5_purseAt := goodIn_ca (goodIn_r _ [6, 7, 8, 9, 10, 11, 12, 13, 14, 15, 16, 17, 18, 19, 20, 21, 22, 23, 24, 25, 26, 27, 28, 29, 30, 31, 32, 33, 108, 109, 110, 111, 112, 113, 114] (by decide +kernel) (by decide +kernel)) (goodIn_sub (fun _ h => List.mem_cons_of_mem _ (List.mem_append_right _ h)) (by decide +kernel))
set_option maxRecDepth 20000 in
theorem gX5_abort_X5_purseAt : GoodIn wsX5_abort (wsV RX5 61 RX5 yX5_purseAt wsX5_purseAt) := goodIn_app (goodIn_of _ (by decide +kernel)) ggX5_abort_X5_purseAt
set_option maxRecDepth 20000 in
theorem ggX5_abort_X3_end : GoodIn wsX5_abort wsX3_end := goodIn_r _ [38, 39, 40, 41, 42, 43, 44, 45, 14, 46, 47, 48, 33, 16, 49, 50, 51, 52, 53, 54, 55, 56, 57, 58, 59, 60, 61, 62, 63, 64, 65, 66, 67, 68, 69, 70, 71, 72, 73, 74, 75, 76, 77, 78, 79, 80, 81, 82, 83, 84, 85, 86, 87, 88, 89, 90, 91, 92, 93, 94, 95, 96, 97, 98, 37, 99, 100, 101, 102, 103, 104, 105, 106, 107, 112, 113, 114] (by decide +kernel) (by decide +kernel)
set_option maxRecDepth 20000 in
theorem gX5_abort_X3_end : GoodIn wsX5_abort (wsV RX5 126 RX3 yX3_end wsX3_end) := goodIn_app (goodIn_of _ (by decide +kernel)) ggX5_abort_X3_end
set_option maxRecDepth 20000 in
theorem ggX5_readLog_X5_purseAt : GoodIn wsX5_readLog wsX5_purseAt := goodIn_ca (goodIn_r _ [14, 15, 16, 17, 18, 19, 20, 21, 22, 23, 24, 25, 26, 27, 28, 29, 30, 31, 32, 33, 34, 35, 36, 37, 38, 39, 40, 41, 119, 120, 121, 122, 128, 129, 130] (by decide +kernel) (by decide +kernel)) (goodIn_sub (fun _ h => List.mem_cons_of_mem _ (List.mem_append_left _ (List.mem_append_right _ h))) (by decide +kernel))
set_option maxRecDepth 20000 in
theorem gX5_readLog_X5_purseAt : GoodIn wsX5_readLog (wsV RX5 61 RX5 yX5_purseAt wsX5_purseAt) := goodIn_app (goodIn_of _ (by decide +kernel)) ggX5_readLog_X5_purseAt
set_option maxRecDepth 20000 in
theorem ggX5_readLog_Jx4a65c_size_8abf5 : GoodIn wsX5_readLog wsJx4a65c_size_8abf5 := goodIn_r _ [23, 24, 128, 129, 130] (by decide +kernel) (by decide +kernel)
set_option maxRecDepth 20000 in
theorem gX5_readLog_Jx4a65c_size_8abf5 : GoodIn wsX5_readLog (wsV RX5 43 RJx4a65c yJx4a65c_size_8abf5 wsJx4a65c_size_8abf5) := goodIn_app (goodIn_of _ (by decide +kernel)) ggX5_readLog_Jx4a65c_size_8abf5
set_option maxRecDepth 20000 in
theorem ggX5_readLog_X5_needRoomFor : GoodIn wsX5_readLog wsX5_needRoomFor := goodIn_ca (goodIn_r _ [45, 46, 47, 5, 19, 20, 21, 22, 23, 24, 119, 120, 121, 122, 128, 129, 130] (by decide +kernel) (by decide +kernel)) (goodIn_sub (fun _ h => List.mem_cons_of_mem _ (List.mem_append_right _ h)) (by decide +kernel))
set_option maxRecDepth 20000 in
theorem gX5_readLog_X5_needRoomFor : GoodIn wsX5_readLog (wsV RX5 70 RX5 yX5_needRoomFor wsX5_needRoomFor) := goodIn_app (goodIn_of _ (by decide +kernel)) ggX5_readLog_X5_needRoomFor
set_option maxRecDepth 20000 in
theorem ggX5_readLog_Jx4a65c_get_915e3 : GoodIn wsX5_readLog wsJx4a65c_get_915e3 := goodIn_r _ [28, 24, 29, 30, 31, 32, 33, 34, 35, 36, 37, 38, 39, 22, 40, 41, 128, 129, 130] (by decide +kernel) (by decide +kernel)
set_option maxRecDepth 20000 in
theorem gX5_readLog_Jx4a65c_get_915e3 : GoodIn wsX5_readLog (wsV RX5 137 RJx4a65c yJx4a65c_get_915e3 wsJx4a65c_get_915e3) := goodIn_app (goodIn_of _ (by decide +kernel)) ggX5_readLog_Jx4a65c_get_915e3
set_option maxRecDepth 20000 in
theorem ggX5_readLog_X2_init : GoodIn wsX5_readLog wsX2_init := goodIn_r _ [50, 51, 52, 53, 54, 55, 56, 57, 58, 123, 124, 125, 126, 127] (by decide +kernel) (by decide +kernel)
set_option maxRecDepth 20000 in
theorem gX5_readLog_X2_init : GoodIn wsX5_readLog (wsX2_init) := ggX5_readLog_X2_init
set_option maxRecDepth 20000 in
theorem ggX5_readLog_Jx4a65c_add_9ea2d : GoodIn wsX5_readLog wsJx4a65c_add_9ea2d := goodIn_r _ [62, 63, 64, 41, 24, 65, 66, 67, 22, 68, 69, 70, 71, 72, 73, 74, 75, 76, 77, 78, 79, 80, 81, 82, 83, 84, 85, 86, 87, 88, 89, 90, 91, 92, 93, 94, 95, 96, 97, 98, 99, 100, 101, 102, 103, 104, 105, 106, 107, 108, 109, 110, 111, 128, 129, 130] (by decide +kernel) (by decide +kernel)
set_option maxRecDepth 20000 in
theorem gX5_readLog_Jx4a65c_add_9ea2d : GoodIn wsX5_readLog (wsV RX5 57 RJx4a65c yJx4a65c_add_9ea2d wsJx4a65c_add_9ea2d) := goodIn_app (goodIn_of _ (by decide +kernel)) ggX5_readLog_Jx4a65c_add_9ea2d
set_option maxRecDepth 20000 in
theorem ggX5_authorise_X5_purseAt : GoodIn wsX5_authorise wsX5_purseAt := goodIn_ca (goodIn_r _ [13, 14, 15, 16, 17, 18, 19, 20, 21, 22, 23, 24, 25, 26, 27, 28, 29, 30, 31, 32, 33, 34, 35, 36, 37, 38, 39, 40, 125, 126, 127, 128, 134, 135, 136] (by decide +kernel) (by decide +kernel)) (goodIn_sub (fun _ h => List.mem_cons_of_mem _ (List.mem_append_left _ (List.mem_append_right _ h))) (by decide +kernel))
set_option maxRecDepth 20000 in
theorem gX5_authorise_X5_purseAt : GoodIn wsX5_authorise (wsV RX5 61 RX5 yX5_purseAt wsX5_purseAt) := goodIn_app (goodIn_of _ (by decide +kernel)) ggX5_authorise_X5_purseAt
set_option maxRecDepth 20000 in
theorem ggX5_authorise_X0_hasAnyOf : GoodIn wsX5_authorise wsX0_hasAnyOf := goodIn_r _ [45, 46, 47, 48, 49, 19, 20, 21, 22, 23, 50, 25, 26, 27, 28, 29, 30, 31, 32, 33, 34, 35, 36, 37, 38, 39, 40, 137, 138, 139, 140, 134, 135, 136] (by decide +kernel) (by decide +kernel)
set_option maxRecDepth 20000 in
theorem gX5_authorise_X0_hasAnyOf : GoodIn wsX5_authorise (wsV RX5 144 RX0 yX0_hasAnyOf wsX0_hasAnyOf) := goodIn_app (goodIn_of _ (by decide +kernel)) ggX5_authorise_X0_hasAnyOf
set_option maxRecDepth 20000 in
theorem ggX5_authorise_X5_needRoomFor : GoodIn wsX5_authorise wsX5_needRoomFor := goodIn_ca (goodIn_r _ [54, 55, 56, 4, 18, 19, 20, 21, 22, 23, 125, 126, 127, 128, 134, 135, 136] (by decide +kernel) (by decide +kernel)) (goodIn_sub (fun _ h => List.mem_cons_of_mem _ (List.mem_append_right _ h)) (by decide +kernel))
set_option maxRecDepth 20000 in
theorem gX5_authorise_X5_needRoomFor : GoodIn wsX5_authorise (wsV RX5 70 RX5 yX5_needRoomFor wsX5_needRoomFor) := goodIn_app (goodIn_of _ (by decide +kernel)) ggX5_authorise_X5_needRoomFor
set_option maxRecDepth 20000 in
theorem ggX5_authorise_Jx4a65c_size_8abf5 : GoodIn wsX5_authorise wsJx4a65c_size_8abf5 := goodIn_r _ [22, 23, 134, 135, 136] (by decide +kernel) (by decide +kernel)
set_option maxRecDepth 20000 in
theorem gX5_authorise_Jx4a65c_size_8abf5 : GoodIn wsX5_authorise (wsV RX5 43 RJx4a65c yJx4a65c_size_8abf5 wsJx4a65c_size_8abf5) := goodIn_app (goodIn_of _ (by decide +kernel)) ggX5_authorise_Jx4a65c_size_8abf5
set_option maxRecDepth 20000 in
theorem ggX5_authorise_X0_size : GoodIn wsX5_authorise wsX0_size := goodIn_r _ [60, 46, 49, 19, 20, 21, 22, 23, 137, 134, 135, 136] (by decide +kernel) (by decide +kernel)
set_option maxRecDepth 20000 in
theorem gX5_authorise_X0_size : GoodIn wsX5_authorise (wsV RX5 150 RX0 yX0_size wsX0_size) := goodIn_app (goodIn_of _ (by decide +kernel)) ggX5_authorise_X0_size
set_option maxRecDepth 20000 in
theorem ggX5_authorise_X2_init : GoodIn wsX5_authorise wsX2_init := goodIn_r _ [63, 64, 65, 66, 67, 68, 69, 70, 71, 129, 130, 131, 132, 133] (by decide +kernel) (by decide +kernel)
set_option maxRecDepth 20000 in
theorem gX5_authorise_X2_init : GoodIn wsX5_authorise (wsX2_init) := ggX5_authorise_X2_init
set_option maxRecDepth 20000 in
theorem ggX5_authorise_Jx4a65c_add_9ea2d : GoodIn wsX5_authorise wsJx4a65c_add_9ea2d := goodIn_r _ [75, 76, 77, 40, 23, 78, 79, 80, 21, 81, 82, 83, 84, 85, 86, 87, 88, 89, 90, 91, 92, 93, 94, 95, 96, 97, 98, 99, 100, 101, 102, 103, 104, 105, 106, 107, 108, 109, 110, 111, 112, 113, 114, 115, 116, 117, 118, 119, 120, 121, 122, 123, 124, 134, 135, 136] (by decide +kernel) (by decide +kernel)
set_option maxRecDepth 20000 in
theorem gX5_authorise_Jx4a65c_add_9ea2d : GoodIn wsX5_authorise (wsV RX5 57 RJx4a65c yJx4a65c_add_9ea2d wsJx4a65c_add_9ea2d) := goodIn_app (goodIn_of _ (by decide +kernel)) ggX5_authorise_Jx4a65c_add_9ea2d
set_option maxRecDepth 20000 in
theorem ggX5_refund_X5_entryAt : GoodIn wsX5_refund wsX5_entryAt := goodIn_ca (goodIn_r _ [14, 15, 16, 3, 17, 18, 19, 20, 21, 22, 23, 24, 25, 26, 27, 28, 29, 30, 31, 32, 33, 34, 35, 36, 37, 38, 39, 40, 41, 42, 43, 44, 45, 46, 47, 82, 83, 84, 85, 101, 102, 103, 104] (by decide +kernel) (by decide +kernel)) (goodIn_sub (fun _ h => List.mem_cons_of_mem _ (List.mem_append_right _ h)) (by decide +kernel))
set_option maxRecDepth 20000 in
theorem gX5_refund_X5_entryAt : GoodIn wsX5_refund (wsV RX5 151 RX5 yX5_entryAt wsX5_entryAt) := goodIn_app (goodIn_of _ (by decide +kernel)) ggX5_refund_X5_entryAt
set_option maxRecDepth 20000 in
theorem ggX5_refund_X0_has : GoodIn wsX5_refund wsX0_has := goodIn_r _ [51, 24, 25, 26, 27, 28, 29, 30, 52, 53, 54, 22, 55, 56, 57, 58, 59, 32, 33, 34, 35, 36, 37, 38, 39, 40, 41, 42, 43, 44, 45, 46, 47, 60, 61, 62, 63, 64, 65, 66, 67, 68, 69, 101, 102, 103, 104, 86, 87, 88, 89, 90, 91, 92, 93] (by decide +kernel) (by decide +kernel)
set_option maxRecDepth 20000 in
theorem gX5_refund_X0_has : GoodIn wsX5_refund (wsV RX5 161 RX0 yX0_has wsX0_has) := goodIn_app (goodIn_of _ (by decide +kernel)) ggX5_refund_X0_has
set_option maxRecDepth 20000 in
theorem ggX5_refund_X0_markRefunded : GoodIn wsX5_refund wsX0_markRefunded := goodIn_r _ [73, 24, 56, 58, 74, 25, 26, 27, 28, 29, 30, 59, 32, 33, 34, 35, 36, 37, 38, 39, 40, 41, 42, 43, 44, 45, 46, 47, 60, 61, 62, 63, 64, 65, 66, 67, 68, 69, 101, 86, 87, 88, 102, 103, 104, 89, 90, 91, 92, 93] (by decide +kernel) (by decide +kernel)
set_option maxRecDepth 20000 in
theorem gX5_refund_X0_markRefunded : GoodIn wsX5_refund (wsV RX5 175 RX0 yX0_markRefunded wsX0_markRefunded) := goodIn_app (goodIn_of _ (by decide +kernel)) ggX5_refund_X0_markRefunded
set_option maxRecDepth 20000 in
theorem ggX5_refund_X5_purseAt : GoodIn wsX5_refund wsX5_purseAt := goodIn_ca (goodIn_r _ [78, 15, 16, 79, 80, 81, 26, 27, 28, 29, 30, 31, 32, 33, 34, 35, 36, 37, 38, 39, 40, 41, 42, 43, 44, 45, 46, 47, 82, 83, 84, 85, 102, 103, 104] (by decide +kernel) (by decide +kernel)) (goodIn_sub (fun _ h => List.mem_cons_of_mem _ (List.mem_append_right _ h)) (by decide +kernel))
set_option maxRecDepth 20000 in
theorem gX5_refund_X5_purseAt : GoodIn wsX5_refund (wsV RX5 61 RX5 yX5_purseAt wsX5_purseAt) := goodIn_app (goodIn_of _ (by decide +kernel)) ggX5_refund_X5_purseAt
set_option maxRecDepth 20000 in
theorem ggX5_told_X5_purseAt : GoodIn wsX5_told wsX5_purseAt := goodIn_ca (goodIn_r _ [11, 12, 13, 14, 15, 16, 17, 18, 19, 20, 21, 22, 23, 24, 25, 26, 27, 28, 29, 30, 31, 32, 33, 34, 35, 36, 37, 38, 46, 47, 48, 49, 50, 51, 52] (by decide +kernel) (by decide +kernel)) (goodIn_sub (fun _ h => List.mem_cons_of_mem _ (List.mem_append_right _ h)) (by decide +kernel))
set_option maxRecDepth 20000 in
theorem gX5_told_X5_purseAt : GoodIn wsX5_told (wsV RX5 61 RX5 yX5_purseAt wsX5_purseAt) := goodIn_app (goodIn_of _ (by decide +kernel)) ggX5_told_X5_purseAt
set_option maxRecDepth 20000 in
theorem ggX5_told_Jx4a65c_size_8abf5 : GoodIn wsX5_told wsJx4a65c_size_8abf5 := goodIn_r _ [20, 21, 50, 51, 52] (by decide +kernel) (by decide +kernel)
set_option maxRecDepth 20000 in
theorem gX5_told_Jx4a65c_size_8abf5 : GoodIn wsX5_told (wsV RX5 43 RJx4a65c yJx4a65c_size_8abf5 wsJx4a65c_size_8abf5) := goodIn_app (goodIn_of _ (by decide +kernel)) ggX5_told_Jx4a65c_size_8abf5
set_option maxRecDepth 20000 in
theorem ggX5_transfer_X5_purseAt : GoodIn wsX5_transfer wsX5_purseAt := goodIn_ca (goodIn_r _ [6, 7, 8, 9, 10, 11, 12, 13, 14, 15, 16, 17, 18, 19, 20, 21, 22, 23, 24, 25, 26, 27, 28, 29, 30, 31, 32, 33, 51, 52, 53, 54, 55, 56, 57] (by decide +kernel) (by decide +kernel)) (goodIn_sub (fun _ h => List.mem_cons_of_mem _ (List.mem_append_left _ (List.mem_append_right _ h))) (by decide +kernel))
set_option maxRecDepth 20000 in
theorem gX5_transfer_X5_purseAt : GoodIn wsX5_transfer (wsV RX5 61 RX5 yX5_purseAt wsX5_purseAt) := goodIn_app (goodIn_of _ (by decide +kernel)) ggX5_transfer_X5_purseAt
set_option maxRecDepth 20000 in
theorem ggX5_transfer_X5_partOf : GoodIn wsX5_transfer wsX5_partOf := goodIn_ca (goodIn_r _ [36, 37, 38, 39, 40, 41, 42, 43, 58, 59, 60, 61, 62] (by decide +kernel) (by decide +kernel)) (goodIn_sub (fun _ h => List.mem_cons_of_mem _ (List.mem_append_right _ h)) (by decide +kernel))
set_option maxRecDepth 20000 in
theorem gX5_transfer_X5_partOf : GoodIn wsX5_transfer (va_wsS RX5 190 yX5_partOf wsX5_partOf) := goodIn_app (goodIn_of _ (by decide +kernel)) ggX5_transfer_X5_partOf
set_option maxRecDepth 20000 in
theorem ggX5_log_X5_purseAt : GoodIn wsX5_log wsX5_purseAt := goodIn_ca (goodIn_r _ [9, 1, 2, 10, 11, 12, 13, 14, 15, 16, 17, 18, 19, 20, 21, 22, 23, 24, 25, 26, 27, 28, 29, 30, 31, 32, 33, 34, 52, 53, 54, 55, 56, 57, 58] (by decide +kernel) (by decide +kernel)) (goodIn_sub (fun _ h => List.mem_cons_of_mem _ (List.mem_append_left _ (List.mem_append_right _ h))) (by decide +kernel))
set_option maxRecDepth 20000 in
theorem gX5_log_X5_purseAt : GoodIn wsX5_log (wsV RX5 61 RX5 yX5_purseAt wsX5_purseAt) := goodIn_app (goodIn_of _ (by decide +kernel)) ggX5_log_X5_purseAt
set_option maxRecDepth 20000 in
theorem ggX5_log_Jx4a65c_size_8abf5 : GoodIn wsX5_log wsJx4a65c_size_8abf5 := goodIn_r _ [16, 17, 56, 57, 58] (by decide +kernel) (by decide +kernel)
set_option maxRecDepth 20000 in
theorem gX5_log_Jx4a65c_size_8abf5 : GoodIn wsX5_log (wsV RX5 43 RJx4a65c yJx4a65c_size_8abf5 wsJx4a65c_size_8abf5) := goodIn_app (goodIn_of _ (by decide +kernel)) ggX5_log_Jx4a65c_size_8abf5
set_option maxRecDepth 20000 in
theorem ggX5_log_Jx4a65c_get_915e3 : GoodIn wsX5_log wsJx4a65c_get_915e3 := goodIn_r _ [21, 17, 22, 23, 24, 25, 26, 27, 28, 29, 30, 31, 32, 15, 33, 34, 56, 57, 58] (by decide +kernel) (by decide +kernel)
set_option maxRecDepth 20000 in
theorem gX5_log_Jx4a65c_get_915e3 : GoodIn wsX5_log (wsV RX5 137 RJx4a65c yJx4a65c_get_915e3 wsJx4a65c_get_915e3) := goodIn_app (goodIn_of _ (by decide +kernel)) ggX5_log_Jx4a65c_get_915e3
set_option maxRecDepth 20000 in
theorem ggX5_log_X5_partOf : GoodIn wsX5_log wsX5_partOf := goodIn_ca (goodIn_r _ [37, 38, 39, 40, 41, 42, 43, 44, 59, 60, 61, 62, 63] (by decide +kernel) (by decide +kernel)) (goodIn_sub (fun _ h => List.mem_cons_of_mem _ (List.mem_append_right _ h)) (by decide +kernel))
set_option maxRecDepth 20000 in
theorem gX5_log_X5_partOf : GoodIn wsX5_log (va_wsS RX5 190 yX5_partOf wsX5_partOf) := goodIn_app (goodIn_of _ (by decide +kernel)) ggX5_log_X5_partOf
set_option maxRecDepth 20000 in
theorem ggX5_messages_Jx4a65c_size_8abf5 : GoodIn wsX5_messages wsJx4a65c_size_8abf5 := goodIn_r _ [6, 7, 12, 13, 14] (by decide +kernel) (by decide +kernel)
set_option maxRecDepth 20000 in
theorem gX5_messages_Jx4a65c_size_8abf5 : GoodIn wsX5_messages (wsV RX5 43 RJx4a65c yJx4a65c_size_8abf5 wsJx4a65c_size_8abf5) := goodIn_app (goodIn_of _ (by decide +kernel)) ggX5_messages_Jx4a65c_size_8abf5
set_option maxRecDepth 20000 in
theorem ggX5_message_X5_messageAt : GoodIn wsX5_message wsX5_messageAt := goodIn_ca (goodIn_r _ [8, 9, 10, 11, 12, 13, 14, 15, 16, 17, 18, 19, 20, 21, 22, 23, 24, 25, 26, 27, 28, 29, 30, 31, 32, 33, 34, 35, 51, 52, 53, 54, 55, 56, 57] (by decide +kernel) (by decide +kernel)) (goodIn_sub (fun _ h => List.mem_cons_of_mem _ (List.mem_append_left _ (List.mem_append_right _ h))) (by decide +kernel))
set_option maxRecDepth 20000 in
theorem gX5_message_X5_messageAt : GoodIn wsX5_message (wsV RX5 82 RX5 yX5_messageAt wsX5_messageAt) := goodIn_app (goodIn_of _ (by decide +kernel)) ggX5_message_X5_messageAt
set_option maxRecDepth 20000 in
theorem ggX5_message_X5_partOf : GoodIn wsX5_message wsX5_partOf := goodIn_ca (goodIn_r _ [38, 39, 40, 41, 42, 43, 44, 45, 58, 59, 60, 61, 62] (by decide +kernel) (by decide +kernel)) (goodIn_sub (fun _ h => List.mem_cons_of_mem _ (List.mem_append_right _ h)) (by decide +kernel))
set_option maxRecDepth 20000 in
theorem gX5_message_X5_partOf : GoodIn wsX5_message (va_wsS RX5 190 yX5_partOf wsX5_partOf) := goodIn_app (goodIn_of _ (by decide +kernel)) ggX5_message_X5_partOf
set_option maxRecDepth 20000 in
theorem ggX5_entries_X0_size : GoodIn wsX5_entries wsX0_size := goodIn_r _ [6, 7, 8, 9, 10, 11, 12, 13, 18, 19, 20, 21] (by decide +kernel) (by decide +kernel)
set_option maxRecDepth 20000 in
theorem gX5_entries_X0_size : GoodIn wsX5_entries (wsV RX5 150 RX0 yX0_size wsX0_size) := goodIn_app (goodIn_of _ (by decide +kernel)) ggX5_entries_X0_size
set_option maxRecDepth 20000 in
theorem ggX5_entry_X5_entryAt : GoodIn wsX5_entry wsX5_entryAt := goodIn_ca (goodIn_r _ [8, 9, 10, 11, 12, 13, 14, 15, 16, 17, 18, 19, 20, 21, 22, 23, 24, 25, 26, 27, 28, 29, 30, 31, 32, 33, 34, 35, 36, 37, 38, 39, 40, 41, 42, 56, 57, 58, 59, 60, 61, 62, 63] (by decide +kernel) (by decide +kernel)) (goodIn_sub (fun _ h => List.mem_cons_of_mem _ (List.mem_append_left _ (List.mem_append_right _ h))) (by decide +kernel))
set_option maxRecDepth 20000 in
theorem gX5_entry_X5_entryAt : GoodIn wsX5_entry (wsV RX5 151 RX5 yX5_entryAt wsX5_entryAt) := goodIn_app (goodIn_of _ (by decide +kernel)) ggX5_entry_X5_entryAt
set_option maxRecDepth 20000 in
theorem ggX5_entry_X5_partOf : GoodIn wsX5_entry wsX5_partOf := goodIn_ca (goodIn_r _ [45, 46, 47, 48, 49, 50, 51, 52, 64, 65, 66, 67, 68] (by decide +kernel) (by decide +kernel)) (goodIn_sub (fun _ h => List.mem_cons_of_mem _ (List.mem_append_right _ h)) (by decide +kernel))
set_option maxRecDepth 20000 in
theorem gX5_entry_X5_partOf : GoodIn wsX5_entry (va_wsS RX5 190 yX5_partOf wsX5_partOf) := goodIn_app (goodIn_of _ (by decide +kernel)) ggX5_entry_X5_partOf
set_option maxRecDepth 20000 in
theorem ggX5_balances_Jx4a65c_size_8abf5 : GoodIn wsX5_balances wsJx4a65c_size_8abf5 := goodIn_r _ [8, 9, 38, 39, 40] (by decide +kernel) (by decide +kernel)
set_option maxRecDepth 20000 in
theorem gX5_balances_Jx4a65c_size_8abf5 : GoodIn wsX5_balances (wsV RX5 43 RJx4a65c yJx4a65c_size_8abf5 wsJx4a65c_size_8abf5) := goodIn_app (goodIn_of _ (by decide +kernel)) ggX5_balances_Jx4a65c_size_8abf5
set_option maxRecDepth 20000 in
theorem ggX5_balances_Jx4a65c_get_915e3 : GoodIn wsX5_balances wsJx4a65c_get_915e3 := goodIn_r _ [13, 9, 14, 15, 16, 17, 18, 19, 20, 21, 22, 23, 24, 7, 25, 26, 38, 39, 40] (by decide +kernel) (by decide +kernel)
set_option maxRecDepth 20000 in
theorem gX5_balances_Jx4a65c_get_915e3 : GoodIn wsX5_balances (wsV RX5 137 RJx4a65c yJx4a65c_get_915e3 wsJx4a65c_get_915e3) := goodIn_app (goodIn_of _ (by decide +kernel)) ggX5_balances_Jx4a65c_get_915e3
set_option maxRecDepth 20000 in
theorem ggX5_pending_Jx4a65c_size_8abf5 : GoodIn wsX5_pending wsJx4a65c_size_8abf5 := goodIn_r _ [13, 14, 117, 118, 119] (by decide +kernel) (by decide +kernel)
set_option maxRecDepth 20000 in
theorem gX5_pending_Jx4a65c_size_8abf5 : GoodIn wsX5_pending (wsV RX5 43 RJx4a65c yJx4a65c_size_8abf5 wsJx4a65c_size_8abf5) := goodIn_app (goodIn_of _ (by decide +kernel)) ggX5_pending_Jx4a65c_size_8abf5
set_option maxRecDepth 20000 in
theorem ggX5_pending_Jx4a65c_get_915e3 : GoodIn wsX5_pending wsJx4a65c_get_915e3 := goodIn_r _ [18, 14, 19, 20, 21, 22, 23, 24, 25, 26, 27, 28, 29, 12, 30, 31, 117, 118, 119] (by decide +kernel) (by decide +kernel)
set_option maxRecDepth 20000 in
theorem gX5_pending_Jx4a65c_get_915e3 : GoodIn wsX5_pending (wsV RX5 137 RJx4a65c yJx4a65c_get_915e3 wsJx4a65c_get_915e3) := goodIn_app (goodIn_of _ (by decide +kernel)) ggX5_pending_Jx4a65c_get_915e3
set_option maxRecDepth 20000 in
theorem ggX5_pending_X5_pendingOfPayer : GoodIn wsX5_pending wsX5_pendingOfPayer := goodIn_ca (goodIn_r _ [36, 37, 38, 39, 40, 8, 41, 3, 42, 43, 44, 35, 45, 46, 47, 48, 49, 50, 51, 52, 53, 1, 2, 9, 10, 11, 12, 13, 14, 15, 16, 17, 18, 19, 20, 21, 22, 23, 24, 25, 26, 27, 28, 29, 30, 31, 54, 55, 56, 57, 58, 59, 60, 61, 62, 63, 64, 65, 66, 67, 68, 69, 70, 71, 72, 73, 74, 75, 76, 77, 78, 79, 80, 81, 82, 83, 84, 85, 86, 87, 88, 89, 90, 91, 92, 93, 94, 95, 96, 97, 98, 99, 120, 121, 122, 123, 124, 125, 126, 112, 113, 114, 115, 116, 104, 105, 106, 107, 117, 118, 119, 108, 109, 110, 111] (by decide +kernel) (by decide +kernel)) (goodIn_sub (fun _ h => List.mem_cons_of_mem _ (List.mem_append_right _ h)) (by decide +kernel))
set_option maxRecDepth 20000 in
theorem gX5_pending_X5_pendingOfPayer : GoodIn wsX5_pending (wsV RX5 203 RX5 yX5_pendingOfPayer wsX5_pendingOfPayer) := goodIn_app (goodIn_of _ (by decide +kernel)) ggX5_pending_X5_pendingOfPayer
set_option maxRecDepth 20000 in
theorem ggX5_pending_X0_size : GoodIn wsX5_pending wsX0_size := goodIn_r _ [103, 84, 85, 10, 11, 12, 13, 14, 108, 117, 118, 119] (by decide +kernel) (by decide +kernel)
set_option maxRecDepth 20000 in
theorem gX5_pending_X0_size : GoodIn wsX5_pending (wsV RX5 150 RX0 yX0_size wsX0_size) := goodIn_app (goodIn_of _ (by decide +kernel)) ggX5_pending_X0_size
set_option maxRecDepth 20000 in
theorem ggX5_pending_X5_amountIfPayeeWaits : GoodIn wsX5_pending wsX5_amountIfPayeeWaits := goodIn_ca (goodIn_r _ [45, 46, 3, 47, 48, 49, 50, 35, 51, 52, 53, 1, 2, 9, 10, 11, 12, 13, 14, 15, 16, 17, 18, 19, 20, 21, 22, 23, 24, 25, 26, 27, 28, 29, 30, 31, 54, 55, 56, 57, 58, 59, 60, 61, 62, 63, 64, 65, 66, 67, 68, 69, 70, 71, 72, 73, 74, 75, 76, 77, 78, 79, 80, 81, 82, 83, 84, 85, 86, 87, 88, 89, 90, 91, 92, 93, 94, 95, 96, 97, 98, 99, 112, 113, 114, 115, 116, 104, 105, 106, 107, 117, 118, 119, 120, 121, 122, 123, 124, 125, 126, 108, 109, 110, 111] (by decide +kernel) (by decide +kernel)) (goodIn_sub (fun _ h => List.mem_cons_of_mem _ (List.mem_append_right _ h)) (by decide +kernel))
set_option maxRecDepth 20000 in
theorem gX5_pending_X5_amountIfPayeeWaits : GoodIn wsX5_pending (wsV RX5 210 RX5 yX5_amountIfPayeeWaits wsX5_amountIfPayeeWaits) := goodIn_app (goodIn_of _ (by decide +kernel)) ggX5_pending_X5_amountIfPayeeWaits
set_option maxRecDepth 20000 in
theorem ggX5_purses_Jx4a65c_size_8abf5 : GoodIn wsX5_purses wsJx4a65c_size_8abf5 := goodIn_r _ [6, 7, 12, 13, 14] (by decide +kernel) (by decide +kernel)
set_option maxRecDepth 20000 in
theorem gX5_purses_Jx4a65c_size_8abf5 : GoodIn wsX5_purses (wsV RX5 43 RJx4a65c yJx4a65c_size_8abf5 wsJx4a65c_size_8abf5) := goodIn_app (goodIn_of _ (by decide +kernel)) ggX5_purses_Jx4a65c_size_8abf5
set_option maxRecDepth 20000 in
theorem ggX5_purseAt_Jx4a65c_size_8abf5 : GoodIn wsX5_purseAt wsJx4a65c_size_8abf5 := goodIn_r _ [9, 10, 32, 33, 34] (by decide +kernel) (by decide +kernel)
set_option maxRecDepth 20000 in
theorem gX5_purseAt_Jx4a65c_size_8abf5 : GoodIn wsX5_purseAt (wsV RX5 43 RJx4a65c yJx4a65c_size_8abf5 wsJx4a65c_size_8abf5) := goodIn_app (goodIn_of _ (by decide +kernel)) ggX5_purseAt_Jx4a65c_size_8abf5
set_option maxRecDepth 20000 in
theorem ggX5_purseAt_Jx4a65c_get_915e3 : GoodIn wsX5_purseAt wsJx4a65c_get_915e3 := goodIn_r _ [14, 10, 15, 16, 17, 18, 19, 20, 21, 22, 23, 24, 25, 8, 26, 27, 32, 33, 34] (by decide +kernel) (by decide +kernel)
set_option maxRecDepth 20000 in
theorem gX5_purseAt_Jx4a65c_get_915e3 : GoodIn wsX5_purseAt (wsV RX5 137 RJx4a65c yJx4a65c_get_915e3 wsJx4a65c_get_915e3) := goodIn_app (goodIn_of _ (by decide +kernel)) ggX5_purseAt_Jx4a65c_get_915e3
set_option maxRecDepth 20000 in
theorem ggX5_messageAt_Jx4a65c_size_8abf5 : GoodIn wsX5_messageAt wsJx4a65c_size_8abf5 := goodIn_r _ [9, 10, 32, 33, 34] (by decide +kernel) (by decide +kernel)
set_option maxRecDepth 20000 in
theorem gX5_messageAt_Jx4a65c_size_8abf5 : GoodIn wsX5_messageAt (wsV RX5 43 RJx4a65c yJx4a65c_size_8abf5 wsJx4a65c_size_8abf5) := goodIn_app (goodIn_of _ (by decide +kernel)) ggX5_messageAt_Jx4a65c_size_8abf5
set_option maxRecDepth 20000 in
theorem ggX5_messageAt_Jx4a65c_get_915e3 : GoodIn wsX5_messageAt wsJx4a65c_get_915e3 := goodIn_r _ [14, 10, 15, 16, 17, 18, 19, 20, 21, 22, 23, 24, 25, 8, 26, 27, 32, 33, 34] (by decide +kernel) (by decide +kernel)
set_option maxRecDepth 20000 in
theorem gX5_messageAt_Jx4a65c_get_915e3 : GoodIn wsX5_messageAt (wsV RX5 137 RJx4a65c yJx4a65c_get_915e3 wsJx4a65c_get_915e3) := goodIn_app (goodIn_of _ (by decide +kernel)) ggX5_messageAt_Jx4a65c_get_915e3
set_option maxRecDepth 20000 in
theorem ggX5_entryAt_X0_size : GoodIn wsX5_entryAt wsX0_size := goodIn_r _ [10, 11, 12, 13, 14, 15, 16, 17, 39, 40, 41, 42] (by decide +kernel) (by decide +kernel)
set_option maxRecDepth 20000 in
theorem gX5_entryAt_X0_size : GoodIn wsX5_entryAt (wsV RX5 150 RX0 yX0_size wsX0_size) := goodIn_app (goodIn_of _ (by decide +kernel)) ggX5_entryAt_X0_size
set_option maxRecDepth 20000 in
theorem ggX5_entryAt_Jx4a65c_get_915e3 : GoodIn wsX5_entryAt wsJx4a65c_get_915e3 := goodIn_r _ [21, 17, 22, 23, 24, 25, 26, 27, 28, 29, 30, 31, 32, 15, 33, 34, 40, 41, 42] (by decide +kernel) (by decide +kernel)
set_option maxRecDepth 20000 in
theorem gX5_entryAt_Jx4a65c_get_915e3 : GoodIn wsX5_entryAt (wsV RX5 137 RJx4a65c yJx4a65c_get_915e3 wsJx4a65c_get_915e3) := goodIn_app (goodIn_of _ (by decide +kernel)) ggX5_entryAt_Jx4a65c_get_915e3
set_option maxRecDepth 20000 in
theorem ggX5_needRoomFor_Jx4a65c_size_8abf5 : GoodIn wsX5_needRoomFor wsJx4a65c_size_8abf5 := goodIn_r _ [8, 9, 14, 15, 16] (by decide +kernel) (by decide +kernel)
set_option maxRecDepth 20000 in
theorem gX5_needRoomFor_Jx4a65c_size_8abf5 : GoodIn wsX5_needRoomFor (wsV RX5 43 RJx4a65c yJx4a65c_size_8abf5 wsJx4a65c_size_8abf5) := goodIn_app (goodIn_of _ (by decide +kernel)) ggX5_needRoomFor_Jx4a65c_size_8abf5
set_option maxRecDepth 20000 in
theorem ggX5_send_Jx4a65c_size_8abf5 : GoodIn wsX5_send wsJx4a65c_size_8abf5 := goodIn_r _ [9, 10, 85, 86, 87] (by decide +kernel) (by decide +kernel)
set_option maxRecDepth 20000 in
theorem gX5_send_Jx4a65c_size_8abf5 : GoodIn wsX5_send (wsV RX5 43 RJx4a65c yJx4a65c_size_8abf5 wsJx4a65c_size_8abf5) := goodIn_app (goodIn_of _ (by decide +kernel)) ggX5_send_Jx4a65c_size_8abf5
set_option maxRecDepth 20000 in
theorem ggX5_send_X2_init : GoodIn wsX5_send wsX2_init := goodIn_r _ [13, 14, 15, 16, 17, 18, 19, 20, 21, 80, 81, 82, 83, 84] (by decide +kernel) (by decide +kernel)
set_option maxRecDepth 20000 in
theorem gX5_send_X2_init : GoodIn wsX5_send (wsX2_init) := ggX5_send_X2_init
set_option maxRecDepth 20000 in
theorem ggX5_send_Jx4a65c_add_9ea2d : GoodIn wsX5_send wsJx4a65c_add_9ea2d := goodIn_r _ [25, 26, 27, 28, 10, 29, 30, 31, 8, 32, 33, 34, 35, 36, 37, 38, 39, 40, 41, 42, 43, 44, 45, 46, 47, 48, 49, 50, 51, 52, 53, 54, 55, 56, 57, 58, 59, 60, 61, 62, 63, 64, 65, 66, 67, 68, 69, 70, 71, 72, 73, 74, 75, 85, 86, 87] (by decide +kernel) (by decide +kernel)
set_option maxRecDepth 20000 in
theorem gX5_send_Jx4a65c_add_9ea2d : GoodIn wsX5_send (wsV RX5 57 RJx4a65c yJx4a65c_add_9ea2d wsJx4a65c_add_9ea2d) := goodIn_app (goodIn_of _ (by decide +kernel)) ggX5_send_Jx4a65c_add_9ea2d
set_option maxRecDepth 20000 in
theorem ggX5_mayBeAnswered_X5_purseAt : GoodIn wsX5_mayBeAnswered wsX5_purseAt := goodIn_ca (goodIn_r _ [8, 9, 10, 11, 12, 13, 14, 15, 16, 17, 18, 19, 20, 21, 22, 23, 24, 25, 26, 27, 28, 29, 30, 31, 32, 33, 34, 35, 58, 59, 60, 61, 62, 63, 64] (by decide +kernel) (by decide +kernel)) (goodIn_sub (fun _ h => List.mem_cons_of_mem _ (List.mem_append_right _ h)) (by decide +kernel))
set_option maxRecDepth 20000 in
theorem gX5_mayBeAnswered_X5_purseAt : GoodIn wsX5_mayBeAnswered (wsV RX5 61 RX5 yX5_purseAt wsX5_purseAt) := goodIn_app (goodIn_of _ (by decide +kernel)) ggX5_mayBeAnswered_X5_purseAt
set_option maxRecDepth 20000 in
theorem ggX5_mayBeAnswered_X3_does : GoodIn wsX5_mayBeAnswered wsX3_does := goodIn_r _ [40, 41, 42, 43, 44, 45, 46, 47, 48, 49, 50, 51, 52, 65, 66, 67, 68, 69, 70, 71, 72, 73, 74, 75, 76] (by decide +kernel) (by decide +kernel)
set_option maxRecDepth 20000 in
theorem gX5_mayBeAnswered_X3_does : GoodIn wsX5_mayBeAnswered (wsV RX5 230 RX3 yX3_does wsX3_does) := goodIn_app (goodIn_of _ (by decide +kernel)) ggX5_mayBeAnswered_X3_does
set_option maxRecDepth 20000 in
theorem ggX5_takePay_X5_purseAt : GoodIn wsX5_takePay wsX5_purseAt := goodIn_ca (goodIn_r _ [16, 17, 18, 19, 20, 21, 22, 23, 24, 25, 26, 27, 28, 29, 30, 31, 32, 33, 34, 35, 36, 37, 38, 39, 40, 41, 42, 43, 148, 149, 150, 151, 152, 153, 154] (by decide +kernel) (by decide +kernel)) (goodIn_sub (fun _ h => List.mem_cons_of_mem _ (List.mem_append_right _ h)) (by decide +kernel))
set_option maxRecDepth 20000 in
theorem gX5_takePay_X5_purseAt : GoodIn wsX5_takePay (wsV RX5 61 RX5 yX5_purseAt wsX5_purseAt) := goodIn_app (goodIn_of _ (by decide +kernel)) ggX5_takePay_X5_purseAt
set_option maxRecDepth 20000 in
theorem ggX5_takePay_X3_end : GoodIn wsX5_takePay wsX3_end := goodIn_r _ [48, 49, 50, 51, 52, 53, 54, 55, 24, 56, 57, 58, 43, 26, 59, 60, 61, 62, 63, 64, 65, 66, 67, 68, 69, 70, 71, 72, 73, 74, 75, 76, 77, 78, 79, 80, 81, 82, 83, 84, 85, 86, 87, 88, 89, 90, 91, 92, 93, 94, 95, 96, 97, 98, 99, 100, 101, 102, 103, 104, 105, 106, 107, 108, 47, 109, 110, 136, 137, 138, 139, 140, 141, 142, 152, 153, 154] (by decide +kernel) (by decide +kernel)
set_option maxRecDepth 20000 in
theorem gX5_takePay_X3_end : GoodIn wsX5_takePay (wsV RX5 126 RX3 yX3_end wsX3_end) := goodIn_app (goodIn_of _ (by decide +kernel)) ggX5_takePay_X3_end
set_option maxRecDepth 20000 in
theorem ggX5_takePay_X3_logIsFull : GoodIn wsX5_takePay wsX3_logIsFull := goodIn_r _ [114, 50, 115, 22, 23, 24, 25, 26, 136, 137, 138, 139, 140, 141, 142, 152, 153, 154] (by decide +kernel) (by decide +kernel)
set_option maxRecDepth 20000 in
theorem gX5_takePay_X3_logIsFull : GoodIn wsX5_takePay (wsV RX5 233 RX3 yX3_logIsFull wsX3_logIsFull) := goodIn_app (goodIn_of _ (by decide +kernel)) ggX5_takePay_X3_logIsFull
set_option maxRecDepth 20000 in
theorem ggX5_takePay_X4_init : GoodIn wsX5_takePay wsX4_init := goodIn_r _ [118, 119, 120, 121, 122, 123, 124, 125, 126, 143, 144, 145, 146, 147] (by decide +kernel) (by decide +kernel)
set_option maxRecDepth 20000 in
theorem gX5_takePay_X4_init : GoodIn wsX5_takePay (wsX4_init) := ggX5_takePay_X4_init
set_option maxRecDepth 20000 in
theorem ggX5_takePay_X3_start : GoodIn wsX5_takePay wsX3_start := goodIn_r _ [130, 49, 51, 52, 136, 137, 138, 139, 140, 141, 142] (by decide +kernel) (by decide +kernel)
set_option maxRecDepth 20000 in
theorem gX5_takePay_X3_start : GoodIn wsX5_takePay (wsV RX5 240 RX3 yX3_start wsX3_start) := goodIn_app (goodIn_of _ (by decide +kernel)) ggX5_takePay_X3_start
set_option maxRecDepth 20000 in
theorem ggX5_takeEarn_X5_purseAt : GoodIn wsX5_takeEarn wsX5_purseAt := goodIn_ca (goodIn_r _ [16, 17, 18, 19, 20, 21, 22, 23, 24, 25, 26, 27, 28, 29, 30, 31, 32, 33, 34, 35, 36, 37, 38, 39, 40, 41, 42, 43, 166, 167, 168, 169, 170, 171, 172] (by decide +kernel) (by decide +kernel)) (goodIn_sub (fun _ h => List.mem_cons_of_mem _ (List.mem_append_right _ h)) (by decide +kernel))
set_option maxRecDepth 20000 in
theorem gX5_takeEarn_X5_purseAt : GoodIn wsX5_takeEarn (wsV RX5 61 RX5 yX5_purseAt wsX5_purseAt) := goodIn_app (goodIn_of _ (by decide +kernel)) ggX5_takeEarn_X5_purseAt
set_option maxRecDepth 20000 in
theorem ggX5_takeEarn_X3_end : GoodIn wsX5_takeEarn wsX3_end := goodIn_r _ [48, 49, 50, 51, 52, 53, 54, 55, 24, 56, 57, 58, 43, 26, 59, 60, 61, 62, 63, 64, 65, 66, 67, 68, 69, 70, 71, 72, 73, 74, 75, 76, 77, 78, 79, 80, 81, 82, 83, 84, 85, 86, 87, 88, 89, 90, 91, 92, 93, 94, 95, 96, 97, 98, 99, 100, 101, 102, 103, 104, 105, 106, 107, 108, 47, 109, 110, 159, 160, 161, 162, 163, 164, 165, 170, 171, 172] (by decide +kernel) (by decide +kernel)
set_option maxRecDepth 20000 in
theorem gX5_takeEarn_X3_end : GoodIn wsX5_takeEarn (wsV RX5 126 RX3 yX3_end wsX3_end) := goodIn_app (goodIn_of _ (by decide +kernel)) ggX5_takeEarn_X3_end
set_option maxRecDepth 20000 in
theorem ggX5_takeEarn_X3_logIsFull : GoodIn wsX5_takeEarn wsX3_logIsFull := goodIn_r _ [114, 50, 115, 22, 23, 24, 25, 26, 159, 160, 161, 162, 163, 164, 165, 170, 171, 172] (by decide +kernel) (by decide +kernel)
set_option maxRecDepth 20000 in
theorem gX5_takeEarn_X3_logIsFull : GoodIn wsX5_takeEarn (wsV RX5 233 RX3 yX3_logIsFull wsX3_logIsFull) := goodIn_app (goodIn_of _ (by decide +kernel)) ggX5_takeEarn_X3_logIsFull
set_option maxRecDepth 20000 in
theorem ggX5_takeEarn_X4_init : GoodIn wsX5_takeEarn wsX4_init := goodIn_r _ [118, 119, 120, 121, 122, 123, 124, 125, 126, 154, 155, 156, 157, 158] (by decide +kernel) (by decide +kernel)
set_option maxRecDepth 20000 in
theorem gX5_takeEarn_X4_init : GoodIn wsX5_takeEarn (wsX4_init) := ggX5_takeEarn_X4_init
set_option maxRecDepth 20000 in
theorem ggX5_takeEarn_X3_start : GoodIn wsX5_takeEarn wsX3_start := goodIn_r _ [130, 49, 51, 52, 159, 160, 161, 162, 163, 164, 165] (by decide +kernel) (by decide +kernel)
set_option maxRecDepth 20000 in
theorem gX5_takeEarn_X3_start : GoodIn wsX5_takeEarn (wsV RX5 240 RX3 yX3_start wsX3_start) := goodIn_app (goodIn_of _ (by decide +kernel)) ggX5_takeEarn_X3_start
set_option maxRecDepth 20000 in
theorem ggX5_takeEarn_X5_send : GoodIn wsX5_takeEarn wsX5_send := goodIn_r _ [134, 135, 136, 137, 138, 21, 22, 23, 24, 25, 26, 139, 140, 141, 142, 120, 121, 143, 144, 145, 146, 147, 148, 54, 55, 56, 57, 58, 43, 59, 60, 61, 62, 63, 64, 65, 66, 67, 68, 69, 70, 71, 72, 73, 74, 75, 76, 77, 78, 79, 80, 81, 82, 83, 84, 85, 86, 87, 88, 89, 90, 91, 92, 93, 94, 95, 96, 97, 98, 99, 100, 101, 102, 103, 104, 105, 166, 167, 168, 169, 149, 150, 151, 152, 153, 170, 171, 172] (by decide +kernel) (by decide +kernel)
set_option maxRecDepth 20000 in
theorem gX5_takeEarn_X5_send : GoodIn wsX5_takeEarn (wsV RX5 78 RX5 yX5_send wsX5_send) := goodIn_app (goodIn_of _ (by decide +kernel)) ggX5_takeEarn_X5_send
set_option maxRecDepth 20000 in
theorem ggX5_takeAsk_X5_purseAt : GoodIn wsX5_takeAsk wsX5_purseAt := goodIn_ca (goodIn_r _ [11, 12, 13, 14, 15, 16, 17, 18, 19, 20, 21, 22, 23, 24, 25, 26, 27, 28, 29, 30, 31, 32, 33, 34, 35, 36, 37, 38, 145, 146, 147, 148, 149, 150, 151] (by decide +kernel) (by decide +kernel)) (goodIn_sub (fun _ h => List.mem_cons_of_mem _ (List.mem_append_right _ h)) (by decide +kernel))
set_option maxRecDepth 20000 in
theorem gX5_takeAsk_X5_purseAt : GoodIn wsX5_takeAsk (wsV RX5 61 RX5 yX5_purseAt wsX5_purseAt) := goodIn_app (goodIn_of _ (by decide +kernel)) ggX5_takeAsk_X5_purseAt
set_option maxRecDepth 20000 in
theorem ggX5_takeAsk_X3_does : GoodIn wsX5_takeAsk wsX3_does := goodIn_r _ [43, 44, 45, 46, 47, 48, 49, 50, 51, 52, 53, 54, 55, 133, 134, 135, 136, 137, 138, 139, 140, 141, 142, 143, 144] (by decide +kernel) (by decide +kernel)
set_option maxRecDepth 20000 in
theorem gX5_takeAsk_X3_does : GoodIn wsX5_takeAsk (wsV RX5 230 RX3 yX3_does wsX3_does) := goodIn_app (goodIn_of _ (by decide +kernel)) ggX5_takeAsk_X3_does
set_option maxRecDepth 20000 in
theorem ggX5_takeAsk_X5_send : GoodIn wsX5_takeAsk wsX5_send := goodIn_r _ [59, 60, 61, 62, 63, 16, 17, 18, 19, 20, 21, 64, 65, 66, 67, 68, 69, 70, 71, 72, 73, 74, 75, 76, 77, 78, 79, 80, 38, 81, 82, 83, 84, 85, 86, 87, 88, 89, 90, 91, 92, 93, 94, 95, 96, 97, 98, 99, 100, 101, 102, 103, 104, 105, 106, 107, 108, 109, 110, 111, 112, 113, 114, 115, 116, 117, 118, 119, 120, 121, 122, 123, 124, 125, 126, 127, 145, 146, 147, 148, 128, 129, 130, 131, 132, 149, 150, 151] (by decide +kernel) (by decide +kernel)
set_option maxRecDepth 20000 in
theorem gX5_takeAsk_X5_send : GoodIn wsX5_takeAsk (wsV RX5 78 RX5 yX5_send wsX5_send) := goodIn_app (goodIn_of _ (by decide +kernel)) ggX5_takeAsk_X5_send
set_option maxRecDepth 20000 in
theorem ggX5_takeValue_X5_purseAt : GoodIn wsX5_takeValue wsX5_purseAt := goodIn_ca (goodIn_r _ [10, 11, 12, 13, 14, 15, 16, 17, 18, 19, 20, 21, 22, 23, 24, 25, 26, 27, 28, 29, 30, 31, 32, 33, 34, 35, 36, 37, 149, 150, 151, 152, 153, 154, 155] (by decide +kernel) (by decide +kernel)) (goodIn_sub (fun _ h => List.mem_cons_of_mem _ (List.mem_append_right _ h)) (by decide +kernel))
set_option maxRecDepth 20000 in
theorem gX5_takeValue_X5_purseAt : GoodIn wsX5_takeValue (wsV RX5 61 RX5 yX5_purseAt wsX5_purseAt) := goodIn_app (goodIn_of _ (by decide +kernel)) ggX5_takeValue_X5_purseAt
set_option maxRecDepth 20000 in
theorem ggX5_takeValue_X3_does : GoodIn wsX5_takeValue wsX3_does := goodIn_r _ [42, 43, 44, 45, 46, 47, 48, 49, 50, 51, 52, 53, 54, 137, 138, 139, 140, 141, 142, 143, 144, 145, 146, 147, 148] (by decide +kernel) (by decide +kernel)
set_option maxRecDepth 20000 in
theorem gX5_takeValue_X3_does : GoodIn wsX5_takeValue (wsV RX5 230 RX3 yX3_does wsX3_does) := goodIn_app (goodIn_of _ (by decide +kernel)) ggX5_takeValue_X3_does
set_option maxRecDepth 20000 in
theorem ggX5_takeValue_X3_rest : GoodIn wsX5_takeValue wsX3_rest := goodIn_r _ [58, 43, 59, 44, 137, 138, 139, 140, 141, 142, 143] (by decide +kernel) (by decide +kernel)
set_option maxRecDepth 20000 in
theorem gX5_takeValue_X3_rest : GoodIn wsX5_takeValue (wsV RX5 244 RX3 yX3_rest wsX3_rest) := goodIn_app (goodIn_of _ (by decide +kernel)) ggX5_takeValue_X3_rest
set_option maxRecDepth 20000 in
theorem ggX5_takeValue_X5_send : GoodIn wsX5_takeValue wsX5_send := goodIn_r _ [63, 64, 65, 66, 67, 15, 16, 17, 18, 19, 20, 68, 69, 70, 71, 72, 73, 74, 75, 76, 77, 78, 79, 80, 81, 82, 83, 84, 37, 85, 86, 87, 88, 89, 90, 91, 92, 93, 94, 95, 96, 97, 98, 99, 100, 101, 102, 103, 104, 105, 106, 107, 108, 109, 110, 111, 112, 113, 114, 115, 116, 117, 118, 119, 120, 121, 122, 123, 124, 125, 126, 127, 128, 129, 130, 131, 149, 150, 151, 152, 132, 133, 134, 135, 136, 153, 154, 155] (by decide +kernel) (by decide +kernel)
set_option maxRecDepth 20000 in
theorem gX5_takeValue_X5_send : GoodIn wsX5_takeValue (wsV RX5 78 RX5 yX5_send wsX5_send) := goodIn_app (goodIn_of _ (by decide +kernel)) ggX5_takeValue_X5_send
set_option maxRecDepth 20000 in
theorem ggX5_takeThanks_X5_purseAt : GoodIn wsX5_takeThanks wsX5_purseAt := goodIn_ca (goodIn_r _ [7, 8, 9, 10, 11, 12, 13, 14, 15, 16, 17, 18, 19, 20, 21, 22, 23, 24, 25, 26, 27, 28, 29, 30, 31, 32, 33, 34, 62, 63, 64, 65, 66, 67, 68] (by decide +kernel) (by decide +kernel)) (goodIn_sub (fun _ h => List.mem_cons_of_mem _ (List.mem_append_right _ h)) (by decide +kernel))
set_option maxRecDepth 20000 in
theorem gX5_takeThanks_X5_purseAt : GoodIn wsX5_takeThanks (wsV RX5 61 RX5 yX5_purseAt wsX5_purseAt) := goodIn_app (goodIn_of _ (by decide +kernel)) ggX5_takeThanks_X5_purseAt
set_option maxRecDepth 20000 in
theorem ggX5_takeThanks_X3_does : GoodIn wsX5_takeThanks wsX3_does := goodIn_r _ [39, 40, 41, 42, 43, 44, 45, 46, 47, 48, 49, 50, 51, 69, 70, 71, 72, 73, 74, 75, 76, 77, 78, 79, 80] (by decide +kernel) (by decide +kernel)
set_option maxRecDepth 20000 in
theorem gX5_takeThanks_X3_does : GoodIn wsX5_takeThanks (wsV RX5 230 RX3 yX3_does wsX3_does) := goodIn_app (goodIn_of _ (by decide +kernel)) ggX5_takeThanks_X3_does
set_option maxRecDepth 20000 in
theorem ggX5_takeThanks_X3_rest : GoodIn wsX5_takeThanks wsX3_rest := goodIn_r _ [55, 40, 56, 41, 69, 70, 71, 72, 73, 74, 75] (by decide +kernel) (by decide +kernel)
set_option maxRecDepth 20000 in
theorem gX5_takeThanks_X3_rest : GoodIn wsX5_takeThanks (wsV RX5 244 RX3 yX3_rest wsX3_rest) := goodIn_app (goodIn_of _ (by decide +kernel)) ggX5_takeThanks_X3_rest
set_option maxRecDepth 20000 in
theorem ggX5_takeClear_X5_purseAt : GoodIn wsX5_takeClear wsX5_purseAt := goodIn_ca (goodIn_r _ [12, 13, 14, 15, 16, 17, 18, 19, 20, 21, 22, 23, 24, 25, 26, 27, 28, 29, 30, 31, 32, 33, 34, 35, 36, 37, 38, 39, 83, 84, 85, 86, 87, 88, 89] (by decide +kernel) (by decide +kernel)) (goodIn_sub (fun _ h => List.mem_cons_of_mem _ (List.mem_append_right _ h)) (by decide +kernel))
set_option maxRecDepth 20000 in
theorem gX5_takeClear_X5_purseAt : GoodIn wsX5_takeClear (wsV RX5 61 RX5 yX5_purseAt wsX5_purseAt) := goodIn_app (goodIn_of _ (by decide +kernel)) ggX5_takeClear_X5_purseAt
set_option maxRecDepth 20000 in
theorem ggX5_takeClear_Jx4a65c_isEmpty_aae02 : GoodIn wsX5_takeClear wsJx4a65c_isEmpty_aae02 := goodIn_r _ [43, 22, 87, 88, 89] (by decide +kernel) (by decide +kernel)
set_option maxRecDepth 20000 in
theorem gX5_takeClear_Jx4a65c_isEmpty_aae02 : GoodIn wsX5_takeClear (wsV RX5 247 RJx4a65c yJx4a65c_isEmpty_aae02 wsJx4a65c_isEmpty_aae02) := goodIn_app (goodIn_of _ (by decide +kernel)) ggX5_takeClear_Jx4a65c_isEmpty_aae02
set_option maxRecDepth 20000 in
theorem ggX5_takeClear_Jx4a65c_size_8abf5 : GoodIn wsX5_takeClear wsJx4a65c_size_8abf5 := goodIn_r _ [21, 22, 87, 88, 89] (by decide +kernel) (by decide +kernel)
set_option maxRecDepth 20000 in
theorem gX5_takeClear_Jx4a65c_size_8abf5 : GoodIn wsX5_takeClear (wsV RX5 43 RJx4a65c yJx4a65c_size_8abf5 wsJx4a65c_size_8abf5) := goodIn_app (goodIn_of _ (by decide +kernel)) ggX5_takeClear_Jx4a65c_size_8abf5
set_option maxRecDepth 20000 in
theorem ggX5_takeClear_Jx4a65c_get_915e3 : GoodIn wsX5_takeClear wsJx4a65c_get_915e3 := goodIn_r _ [26, 22, 27, 28, 29, 30, 31, 32, 33, 34, 35, 36, 37, 20, 38, 39, 87, 88, 89] (by decide +kernel) (by decide +kernel)
set_option maxRecDepth 20000 in
theorem gX5_takeClear_Jx4a65c_get_915e3 : GoodIn wsX5_takeClear (wsV RX5 137 RJx4a65c yJx4a65c_get_915e3 wsJx4a65c_get_915e3) := goodIn_app (goodIn_of _ (by decide +kernel)) ggX5_takeClear_Jx4a65c_get_915e3
set_option maxRecDepth 20000 in
theorem ggX5_takeClear_X0_hadAmong : GoodIn wsX5_takeClear wsX0_hadAmong := goodIn_r _ [48, 49, 50, 51, 52, 53, 18, 19, 20, 21, 22, 54, 24, 25, 26, 27, 28, 29, 30, 31, 32, 33, 34, 35, 36, 37, 38, 39, 55, 56, 57, 58, 59, 60, 61, 62, 63, 64, 90, 91, 92, 93, 87, 88, 89, 94, 95, 96, 97, 98] (by decide +kernel) (by decide +kernel)
set_option maxRecDepth 20000 in
theorem gX5_takeClear_X0_hadAmong : GoodIn wsX5_takeClear (wsV RX5 253 RX0 yX0_hadAmong wsX0_hadAmong) := goodIn_app (goodIn_of _ (by decide +kernel)) ggX5_takeClear_X0_hadAmong
set_option maxRecDepth 20000 in
theorem ggX5_takeClear_Jx4a65c_clear_da8c8 : GoodIn wsX5_takeClear wsJx4a65c_clear_da8c8 := goodIn_r _ [68, 69, 70, 39, 22, 87, 88, 89] (by decide +kernel) (by decide +kernel)
set_option maxRecDepth 20000 in
theorem gX5_takeClear_Jx4a65c_clear_da8c8 : GoodIn wsX5_takeClear (wsV RX5 257 RJx4a65c yJx4a65c_clear_da8c8 wsJx4a65c_clear_da8c8) := goodIn_app (goodIn_of _ (by decide +kernel)) ggX5_takeClear_Jx4a65c_clear_da8c8
set_option maxRecDepth 20000 in
theorem ggX5_pendingOfPayer_X5_amountIfPayeeWaits : GoodIn wsX5_pendingOfPayer wsX5_amountIfPayeeWaits := goodIn_ca (goodIn_r _ [12, 13, 7, 14, 15, 16, 17, 11, 18, 19, 20, 21, 22, 23, 24, 25, 26, 27, 28, 29, 30, 31, 32, 33, 34, 35, 36, 37, 38, 39, 40, 41, 42, 43, 44, 45, 46, 47, 48, 49, 50, 51, 52, 53, 54, 55, 56, 57, 58, 59, 60, 61, 62, 63, 64, 65, 66, 67, 68, 69, 70, 71, 72, 73, 74, 75, 76, 77, 78, 79, 80, 81, 82, 83, 84, 85, 86, 87, 88, 89, 90, 91, 99, 100, 101, 102, 103, 104, 105, 106, 107, 108, 109, 110, 92, 93, 94, 95, 96, 97, 98, 111, 112, 113, 114] (by decide +kernel) (by decide +kernel)) (goodIn_sub (fun _ h => List.mem_cons_of_mem _ (List.mem_append_right _ h)) (by decide +kernel))
set_option maxRecDepth 20000 in
theorem gX5_pendingOfPayer_X5_amountIfPayeeWaits : GoodIn wsX5_pendingOfPayer (wsV RX5 210 RX5 yX5_amountIfPayeeWaits wsX5_amountIfPayeeWaits) := goodIn_app (goodIn_of _ (by decide +kernel)) ggX5_pendingOfPayer_X5_amountIfPayeeWaits
set_option maxRecDepth 20000 in
theorem ggX5_pendingOfPayer_Jx4a65c_size_8abf5 : GoodIn wsX5_pendingOfPayer wsJx4a65c_size_8abf5 := goodIn_r _ [27, 28, 108, 109, 110] (by decide +kernel) (by decide +kernel)
set_option maxRecDepth 20000 in
theorem gX5_pendingOfPayer_Jx4a65c_size_8abf5 : GoodIn wsX5_pendingOfPayer (wsV RX5 43 RJx4a65c yJx4a65c_size_8abf5 wsJx4a65c_size_8abf5) := goodIn_app (goodIn_of _ (by decide +kernel)) ggX5_pendingOfPayer_Jx4a65c_size_8abf5
set_option maxRecDepth 20000 in
theorem ggX5_pendingOfPayer_Jx4a65c_get_915e3 : GoodIn wsX5_pendingOfPayer wsJx4a65c_get_915e3 := goodIn_r _ [32, 28, 33, 34, 35, 36, 37, 38, 39, 40, 41, 42, 43, 26, 44, 45, 108, 109, 110] (by decide +kernel) (by decide +kernel)
set_option maxRecDepth 20000 in
theorem gX5_pendingOfPayer_Jx4a65c_get_915e3 : GoodIn wsX5_pendingOfPayer (wsV RX5 137 RJx4a65c yJx4a65c_get_915e3 wsJx4a65c_get_915e3) := goodIn_app (goodIn_of _ (by decide +kernel)) ggX5_pendingOfPayer_Jx4a65c_get_915e3
set_option maxRecDepth 20000 in
theorem ggX5_pendingOfPayer_X0_has : GoodIn wsX5_pendingOfPayer wsX0_has := goodIn_r _ [75, 76, 77, 24, 25, 26, 27, 28, 78, 79, 80, 74, 81, 82, 83, 84, 85, 30, 31, 32, 33, 34, 35, 36, 37, 38, 39, 40, 41, 42, 43, 44, 45, 86, 54, 55, 56, 57, 58, 59, 60, 61, 62, 111, 108, 109, 110, 112, 113, 114, 99, 100, 101, 102, 103] (by decide +kernel) (by decide +kernel)
set_option maxRecDepth 20000 in
theorem gX5_pendingOfPayer_X0_has : GoodIn wsX5_pendingOfPayer (wsV RX5 161 RX0 yX0_has wsX0_has) := goodIn_app (goodIn_of _ (by decide +kernel)) ggX5_pendingOfPayer_X0_has
set_option maxRecDepth 20000 in
theorem ggX5_amountIfPayeeWaits_X5_purseAt : GoodIn wsX5_amountIfPayeeWaits wsX5_purseAt := goodIn_ca (goodIn_r _ [8, 9, 10, 11, 12, 13, 14, 15, 16, 17, 18, 19, 20, 21, 22, 23, 24, 25, 26, 27, 28, 29, 30, 31, 32, 33, 34, 35, 87, 88, 89, 90, 91, 92, 93] (by decide +kernel) (by decide +kernel)) (goodIn_sub (fun _ h => List.mem_cons_of_mem _ (List.mem_append_right _ h)) (by decide +kernel))
set_option maxRecDepth 20000 in
theorem gX5_amountIfPayeeWaits_X5_purseAt : GoodIn wsX5_amountIfPayeeWaits (wsV RX5 61 RX5 yX5_purseAt wsX5_purseAt) := goodIn_app (goodIn_of _ (by decide +kernel)) ggX5_amountIfPayeeWaits_X5_purseAt
set_option maxRecDepth 20000 in
theorem ggX5_amountIfPayeeWaits_X3_does : GoodIn wsX5_amountIfPayeeWaits wsX3_does := goodIn_r _ [40, 41, 42, 43, 44, 45, 46, 47, 48, 49, 50, 51, 52, 94, 95, 96, 97, 98, 99, 100, 82, 83, 84, 85, 86] (by decide +kernel) (by decide +kernel)
set_option maxRecDepth 20000 in
theorem gX5_amountIfPayeeWaits_X3_does : GoodIn wsX5_amountIfPayeeWaits (wsV RX5 230 RX3 yX3_does wsX3_does) := goodIn_app (goodIn_of _ (by decide +kernel)) ggX5_amountIfPayeeWaits_X3_does
set_option maxRecDepth 20000 in
theorem ggX5_amountIfPayeeWaits_X3_hasKept : GoodIn wsX5_amountIfPayeeWaits wsX3_hasKept := goodIn_r _ [56, 57, 58, 59, 14, 15, 16, 17, 18, 60, 20, 21, 22, 23, 24, 25, 26, 27, 28, 29, 30, 31, 32, 33, 34, 35, 43, 44, 45, 46, 47, 48, 49, 50, 51, 52, 94, 95, 96, 97, 98, 99, 100, 91, 92, 93, 82, 83, 84, 85, 86] (by decide +kernel) (by decide +kernel)
set_option maxRecDepth 20000 in
theorem gX5_amountIfPayeeWaits_X3_hasKept : GoodIn wsX5_amountIfPayeeWaits (wsV RX5 260 RX3 yX3_hasKept wsX3_hasKept) := goodIn_app (goodIn_of _ (by decide +kernel)) ggX5_amountIfPayeeWaits_X3_hasKept
set_option maxRecDepth 20000 in
theorem ggX5_amountIfPayeeWaits_X0_has : GoodIn wsX5_amountIfPayeeWaits wsX0_has := goodIn_r _ [65, 66, 67, 14, 15, 16, 17, 18, 68, 69, 70, 64, 71, 72, 73, 74, 75, 20, 21, 22, 23, 24, 25, 26, 27, 28, 29, 30, 31, 32, 33, 34, 35, 76, 44, 45, 46, 47, 48, 49, 50, 51, 52, 101, 91, 92, 93, 102, 103, 104, 82, 83, 84, 85, 86] (by decide +kernel) (by decide +kernel)
set_option maxRecDepth 20000 in
theorem gX5_amountIfPayeeWaits_X0_has : GoodIn wsX5_amountIfPayeeWaits (wsV RX5 161 RX0 yX0_has wsX0_has) := goodIn_app (goodIn_of _ (by decide +kernel)) ggX5_amountIfPayeeWaits_X0_has
set_option maxRecDepth 20000 in
theorem ggX5_amountIfPayeeWaits_X0_hasRefunded : GoodIn wsX5_amountIfPayeeWaits wsX0_hasRefunded := goodIn_r _ [80, 66, 72, 81, 74, 67, 14, 15, 16, 17, 18, 75, 20, 21, 22, 23, 24, 25, 26, 27, 28, 29, 30, 31, 32, 33, 34, 35, 76, 44, 45, 46, 47, 48, 49, 50, 51, 52, 101, 102, 103, 104, 91, 92, 93, 82, 83, 84, 85, 86] (by decide +kernel) (by decide +kernel)
set_option maxRecDepth 20000 in
theorem gX5_amountIfPayeeWaits_X0_hasRefunded : GoodIn wsX5_amountIfPayeeWaits (wsV RX5 264 RX0 yX0_hasRefunded wsX0_hasRefunded) := goodIn_app (goodIn_of _ (by decide +kernel)) ggX5_amountIfPayeeWaits_X0_hasRefunded
end
section
theorem dX6_init_0 : decode cX6_init 0 = .ok (.aload_n 0, 1) := by decide +kernel
theorem dX6_init_1 : decode cX6_init 1 = .ok (.invokespecial 1, 3) := by decide +kernel
theorem dX6_init_4 : decode cX6_init 4 = .ok (.aload_n 0, 1) := by decide +kernel
theorem dX6_init_5 : decode cX6_init 5 = .ok (.bipush 12, 2) := by decide +kernel
theorem dX6_init_7 : decode cX6_init 7 = .ok (.newarray .int, 2) := by decide +kernel
theorem dX6_init_9 : decode cX6_init 9 = .ok (.putfield 7, 3) := by decide +kernel
theorem dX6_init_12 : decode cX6_init 12 = .ok (.aload_n 0, 1) := by decide +kernel
theorem dX6_init_13 : decode cX6_init 13 = .ok (.bipush 12, 2) := by decide +kernel
theorem dX6_init_15 : decode cX6_init 15 = .ok (.newarray .int, 2) := by decide +kernel
theorem dX6_init_17 : decode cX6_init 17 = .ok (.putfield 13, 3) := by decide +kernel
theorem dX6_init_20 : decode cX6_init 20 = .ok (.aload_n 0, 1) := by decide +kernel
theorem dX6_init_21 : decode cX6_init 21 = .ok (.bipush 12, 2) := by decide +kernel
theorem dX6_init_23 : decode cX6_init 23 = .ok (.newarray .int, 2) := by decide +kernel
theorem dX6_init_25 : decode cX6_init 25 = .ok (.putfield 16, 3) := by decide +kernel
theorem dX6_init_28 : decode cX6_init 28 = .ok (.aload_n 0, 1) := by decide +kernel
theorem dX6_init_29 : decode cX6_init 29 = .ok (.bipush 12, 2) := by decide +kernel
theorem dX6_init_31 : decode cX6_init 31 = .ok (.newarray .int, 2) := by decide +kernel
theorem dX6_init_33 : decode cX6_init 33 = .ok (.putfield 19, 3) := by decide +kernel
theorem dX6_init_36 : decode cX6_init 36 = .ok (.aload_n 0, 1) := by decide +kernel
theorem dX6_init_37 : decode cX6_init 37 = .ok (.sipush 800, 3) := by decide +kernel
theorem dX6_init_40 : decode cX6_init 40 = .ok (.newarray .int, 2) := by decide +kernel
theorem dX6_init_42 : decode cX6_init 42 = .ok (.putfield 22, 3) := by decide +kernel
theorem dX6_init_45 : decode cX6_init 45 = .ok (.aload_n 0, 1) := by decide +kernel
theorem dX6_init_46 : decode cX6_init 46 = .ok (.sipush 800, 3) := by decide +kernel
theorem dX6_init_49 : decode cX6_init 49 = .ok (.newarray .int, 2) := by decide +kernel
theorem dX6_init_51 : decode cX6_init 51 = .ok (.putfield 25, 3) := by decide +kernel
theorem dX6_init_54 : decode cX6_init 54 = .ok (.aload_n 0, 1) := by decide +kernel
theorem dX6_init_55 : decode cX6_init 55 = .ok (.sipush 800, 3) := by decide +kernel
theorem dX6_init_58 : decode cX6_init 58 = .ok (.newarray .int, 2) := by decide +kernel
theorem dX6_init_60 : decode cX6_init 60 = .ok (.putfield 28, 3) := by decide +kernel
theorem dX6_init_63 : decode cX6_init 63 = .ok (.aload_n 0, 1) := by decide +kernel
theorem dX6_init_64 : decode cX6_init 64 = .ok (.sipush 800, 3) := by decide +kernel
theorem dX6_init_67 : decode cX6_init 67 = .ok (.newarray .int, 2) := by decide +kernel
theorem dX6_init_69 : decode cX6_init 69 = .ok (.putfield 31, 3) := by decide +kernel
theorem dX6_init_72 : decode cX6_init 72 = .ok (.aload_n 0, 1) := by decide +kernel
theorem dX6_init_73 : decode cX6_init 73 = .ok (.sipush 800, 3) := by decide +kernel
theorem dX6_init_76 : decode cX6_init 76 = .ok (.newarray .boolean, 2) := by decide +kernel
theorem dX6_init_78 : decode cX6_init 78 = .ok (.putfield 34, 3) := by decide +kernel
theorem dX6_init_81 : decode cX6_init 81 = .ok (.aload_n 0, 1) := by decide +kernel
theorem dX6_init_82 : decode cX6_init 82 = .ok (.sipush 8360, 3) := by decide +kernel
theorem dX6_init_85 : decode cX6_init 85 = .ok (.newarray .int, 2) := by decide +kernel
theorem dX6_init_87 : decode cX6_init 87 = .ok (.putfield 38, 3) := by decide +kernel
theorem dX6_init_90 : decode cX6_init 90 = .ok (.return_, 1) := by decide +kernel
theorem dX6_thrown_0 : decode cX6_thrown 0 = .ok (.aload_n 0, 1) := by decide +kernel
theorem dX6_thrown_1 : decode cX6_thrown 1 = .ok (.getfield 41, 3) := by decide +kernel
theorem dX6_thrown_4 : decode cX6_thrown 4 = .ok (.ireturn, 1) := by decide +kernel
theorem dX6_in_0 : decode cX6_in 0 = .ok (.iload_n 0, 1) := by decide +kernel
theorem dX6_in_1 : decode cX6_in 1 = .ok (.iload_n 1, 1) := by decide +kernel
theorem dX6_in_2 : decode cX6_in 2 = .ok (.if_icmp .lt 12, 3) := by decide +kernel
theorem dX6_in_5 : decode cX6_in 5 = .ok (.iload_n 0, 1) := by decide +kernel
theorem dX6_in_6 : decode cX6_in 6 = .ok (.iload_n 2, 1) := by decide +kernel
theorem dX6_in_7 : decode cX6_in 7 = .ok (.if_icmp .gt 7, 3) := by decide +kernel
theorem dX6_in_10 : decode cX6_in 10 = .ok (.iconst 1, 1) := by decide +kernel
theorem dX6_in_11 : decode cX6_in 11 = .ok (.goto 4, 3) := by decide +kernel
theorem dX6_in_14 : decode cX6_in 14 = .ok (.iconst 0, 1) := by decide +kernel
theorem dX6_in_15 : decode cX6_in 15 = .ok (.ireturn, 1) := by decide +kernel
theorem dX6_isPurse_0 : decode cX6_isPurse 0 = .ok (.iload_n 1, 1) := by decide +kernel
theorem dX6_isPurse_1 : decode cX6_isPurse 1 = .ok (.iconst 0, 1) := by decide +kernel
theorem dX6_isPurse_2 : decode cX6_isPurse 2 = .ok (.aload_n 0, 1) := by decide +kernel
theorem dX6_isPurse_3 : decode cX6_isPurse 3 = .ok (.getfield 45, 3) := by decide +kernel
theorem dX6_isPurse_6 : decode cX6_isPurse 6 = .ok (.iconst 1, 1) := by decide +kernel
theorem dX6_isPurse_7 : decode cX6_isPurse 7 = .ok (.isub, 1) := by decide +kernel
theorem dX6_isPurse_8 : decode cX6_isPurse 8 = .ok (.invokestatic 48, 3) := by decide +kernel
theorem dX6_isPurse_11 : decode cX6_isPurse 11 = .ok (.ireturn, 1) := by decide +kernel
theorem dX6_part_0 : decode cX6_part 0 = .ok (.aload_n 0, 1) := by decide +kernel
theorem dX6_part_1 : decode cX6_part 1 = .ok (.getfield 38, 3) := by decide +kernel
theorem dX6_part_4 : decode cX6_part 4 = .ok (.iconst 5, 1) := by decide +kernel
theorem dX6_part_5 : decode cX6_part 5 = .ok (.iload_n 1, 1) := by decide +kernel
theorem dX6_part_6 : decode cX6_part 6 = .ok (.imul, 1) := by decide +kernel
theorem dX6_part_7 : decode cX6_part 7 = .ok (.iload_n 2, 1) := by decide +kernel
theorem dX6_part_8 : decode cX6_part 8 = .ok (.iadd, 1) := by decide +kernel
theorem dX6_part_9 : decode cX6_part 9 = .ok (.iaload, 1) := by decide +kernel
theorem dX6_part_10 : decode cX6_part 10 = .ok (.ireturn, 1) := by decide +kernel
theorem dX6_copy_0 : decode cX6_copy 0 = .ok (.iconst 0, 1) := by decide +kernel
theorem dX6_copy_1 : decode cX6_copy 1 = .ok (.istore_n 3, 1) := by decide +kernel
theorem dX6_copy_2 : decode cX6_copy 2 = .ok (.iload_n 3, 1) := by decide +kernel
theorem dX6_copy_3 : decode cX6_copy 3 = .ok (.iconst 5, 1) := by decide +kernel
theorem dX6_copy_4 : decode cX6_copy 4 = .ok (.if_icmp .ge 29, 3) := by decide +kernel
theorem dX6_copy_7 : decode cX6_copy 7 = .ok (.aload_n 0, 1) := by decide +kernel
theorem dX6_copy_8 : decode cX6_copy 8 = .ok (.getfield 38, 3) := by decide +kernel
theorem dX6_copy_11 : decode cX6_copy 11 = .ok (.iconst 5, 1) := by decide +kernel
theorem dX6_copy_12 : decode cX6_copy 12 = .ok (.iload_n 2, 1) := by decide +kernel
theorem dX6_copy_13 : decode cX6_copy 13 = .ok (.imul, 1) := by decide +kernel
theorem dX6_copy_14 : decode cX6_copy 14 = .ok (.iload_n 3, 1) := by decide +kernel
theorem dX6_copy_15 : decode cX6_copy 15 = .ok (.iadd, 1) := by decide +kernel
theorem dX6_copy_16 : decode cX6_copy 16 = .ok (.aload_n 0, 1) := by decide +kernel
theorem dX6_copy_17 : decode cX6_copy 17 = .ok (.getfield 38, 3) := by decide +kernel
theorem dX6_copy_20 : decode cX6_copy 20 = .ok (.iconst 5, 1) := by decide +kernel
theorem dX6_copy_21 : decode cX6_copy 21 = .ok (.iload_n 1, 1) := by decide +kernel
theorem dX6_copy_22 : decode cX6_copy 22 = .ok (.imul, 1) := by decide +kernel
theorem dX6_copy_23 : decode cX6_copy 23 = .ok (.iload_n 3, 1) := by decide +kernel
theorem dX6_copy_24 : decode cX6_copy 24 = .ok (.iadd, 1) := by decide +kernel
theorem dX6_copy_25 : decode cX6_copy 25 = .ok (.iaload, 1) := by decide +kernel
theorem dX6_copy_26 : decode cX6_copy 26 = .ok (.iastore, 1) := by decide +kernel
theorem dX6_copy_27 : decode cX6_copy 27 = .ok (.iinc 3 1, 3) := by decide +kernel
theorem dX6_copy_30 : decode cX6_copy 30 = .ok (.goto (-28), 3) := by decide +kernel
theorem dX6_copy_33 : decode cX6_copy 33 = .ok (.return_, 1) := by decide +kernel
theorem dX6_lay_0 : decode cX6_lay 0 = .ok (.aload_n 0, 1) := by decide +kernel
theorem dX6_lay_1 : decode cX6_lay 1 = .ok (.getfield 38, 3) := by decide +kernel
theorem dX6_lay_4 : decode cX6_lay 4 = .ok (.iconst 5, 1) := by decide +kernel
theorem dX6_lay_5 : decode cX6_lay 5 = .ok (.iload_n 1, 1) := by decide +kernel
theorem dX6_lay_6 : decode cX6_lay 6 = .ok (.imul, 1) := by decide +kernel
theorem dX6_lay_7 : decode cX6_lay 7 = .ok (.iload_n 2, 1) := by decide +kernel
theorem dX6_lay_8 : decode cX6_lay 8 = .ok (.iastore, 1) := by decide +kernel
theorem dX6_lay_9 : decode cX6_lay 9 = .ok (.aload_n 0, 1) := by decide +kernel
theorem dX6_lay_10 : decode cX6_lay 10 = .ok (.getfield 38, 3) := by decide +kernel
theorem dX6_lay_13 : decode cX6_lay 13 = .ok (.iconst 5, 1) := by decide +kernel
theorem dX6_lay_14 : decode cX6_lay 14 = .ok (.iload_n 1, 1) := by decide +kernel
theorem dX6_lay_15 : decode cX6_lay 15 = .ok (.imul, 1) := by decide +kernel
theorem dX6_lay_16 : decode cX6_lay 16 = .ok (.iconst 1, 1) := by decide +kernel
theorem dX6_lay_17 : decode cX6_lay 17 = .ok (.iadd, 1) := by decide +kernel
theorem dX6_lay_18 : decode cX6_lay 18 = .ok (.iload_n 3, 1) := by decide +kernel
theorem dX6_lay_19 : decode cX6_lay 19 = .ok (.iastore, 1) := by decide +kernel
theorem dX6_lay_20 : decode cX6_lay 20 = .ok (.aload_n 0, 1) := by decide +kernel
theorem dX6_lay_21 : decode cX6_lay 21 = .ok (.getfield 38, 3) := by decide +kernel
theorem dX6_lay_24 : decode cX6_lay 24 = .ok (.iconst 5, 1) := by decide +kernel
theorem dX6_lay_25 : decode cX6_lay 25 = .ok (.iload_n 1, 1) := by decide +kernel
theorem dX6_lay_26 : decode cX6_lay 26 = .ok (.imul, 1) := by decide +kernel
theorem dX6_lay_27 : decode cX6_lay 27 = .ok (.iconst 2, 1) := by decide +kernel
theorem dX6_lay_28 : decode cX6_lay 28 = .ok (.iadd, 1) := by decide +kernel
theorem dX6_lay_29 : decode cX6_lay 29 = .ok (.iload 4, 2) := by decide +kernel
theorem dX6_lay_31 : decode cX6_lay 31 = .ok (.iastore, 1) := by decide +kernel
theorem dX6_lay_32 : decode cX6_lay 32 = .ok (.aload_n 0, 1) := by decide +kernel
theorem dX6_lay_33 : decode cX6_lay 33 = .ok (.getfield 38, 3) := by decide +kernel
theorem dX6_lay_36 : decode cX6_lay 36 = .ok (.iconst 5, 1) := by decide +kernel
theorem dX6_lay_37 : decode cX6_lay 37 = .ok (.iload_n 1, 1) := by decide +kernel
theorem dX6_lay_38 : decode cX6_lay 38 = .ok (.imul, 1) := by decide +kernel
theorem dX6_lay_39 : decode cX6_lay 39 = .ok (.iconst 3, 1) := by decide +kernel
theorem dX6_lay_40 : decode cX6_lay 40 = .ok (.iadd, 1) := by decide +kernel
theorem dX6_lay_41 : decode cX6_lay 41 = .ok (.iload 5, 2) := by decide +kernel
theorem dX6_lay_43 : decode cX6_lay 43 = .ok (.iastore, 1) := by decide +kernel
theorem dX6_lay_44 : decode cX6_lay 44 = .ok (.aload_n 0, 1) := by decide +kernel
theorem dX6_lay_45 : decode cX6_lay 45 = .ok (.getfield 38, 3) := by decide +kernel
theorem dX6_lay_48 : decode cX6_lay 48 = .ok (.iconst 5, 1) := by decide +kernel
theorem dX6_lay_49 : decode cX6_lay 49 = .ok (.iload_n 1, 1) := by decide +kernel
theorem dX6_lay_50 : decode cX6_lay 50 = .ok (.imul, 1) := by decide +kernel
theorem dX6_lay_51 : decode cX6_lay 51 = .ok (.iconst 4, 1) := by decide +kernel
theorem dX6_lay_52 : decode cX6_lay 52 = .ok (.iadd, 1) := by decide +kernel
theorem dX6_lay_53 : decode cX6_lay 53 = .ok (.iload 6, 2) := by decide +kernel
theorem dX6_lay_55 : decode cX6_lay 55 = .ok (.iastore, 1) := by decide +kernel
theorem dX6_lay_56 : decode cX6_lay 56 = .ok (.return_, 1) := by decide +kernel
theorem dX6_same_0 : decode cX6_same 0 = .ok (.iconst 1, 1) := by decide +kernel
theorem dX6_same_1 : decode cX6_same 1 = .ok (.istore_n 3, 1) := by decide +kernel
theorem dX6_same_2 : decode cX6_same 2 = .ok (.iconst 0, 1) := by decide +kernel
theorem dX6_same_3 : decode cX6_same 3 = .ok (.istore 4, 2) := by decide +kernel
theorem dX6_same_5 : decode cX6_same 5 = .ok (.iload 4, 2) := by decide +kernel
theorem dX6_same_7 : decode cX6_same 7 = .ok (.iconst 5, 1) := by decide +kernel
theorem dX6_same_8 : decode cX6_same 8 = .ok (.if_icmp .ge 44, 3) := by decide +kernel
theorem dX6_same_11 : decode cX6_same 11 = .ok (.iload_n 3, 1) := by decide +kernel
theorem dX6_same_12 : decode cX6_same 12 = .ok (.ifCond .eq 32, 3) := by decide +kernel
theorem dX6_same_15 : decode cX6_same 15 = .ok (.aload_n 0, 1) := by decide +kernel
theorem dX6_same_16 : decode cX6_same 16 = .ok (.getfield 38, 3) := by decide +kernel
theorem dX6_same_19 : decode cX6_same 19 = .ok (.iconst 5, 1) := by decide +kernel
theorem dX6_same_20 : decode cX6_same 20 = .ok (.iload_n 1, 1) := by decide +kernel
theorem dX6_same_21 : decode cX6_same 21 = .ok (.imul, 1) := by decide +kernel
theorem dX6_same_22 : decode cX6_same 22 = .ok (.iload 4, 2) := by decide +kernel
theorem dX6_same_24 : decode cX6_same 24 = .ok (.iadd, 1) := by decide +kernel
theorem dX6_same_25 : decode cX6_same 25 = .ok (.iaload, 1) := by decide +kernel
theorem dX6_same_26 : decode cX6_same 26 = .ok (.aload_n 0, 1) := by decide +kernel
theorem dX6_same_27 : decode cX6_same 27 = .ok (.getfield 38, 3) := by decide +kernel
theorem dX6_same_30 : decode cX6_same 30 = .ok (.iconst 5, 1) := by decide +kernel
theorem dX6_same_31 : decode cX6_same 31 = .ok (.iload_n 2, 1) := by decide +kernel
theorem dX6_same_32 : decode cX6_same 32 = .ok (.imul, 1) := by decide +kernel
theorem dX6_same_33 : decode cX6_same 33 = .ok (.iload 4, 2) := by decide +kernel
theorem dX6_same_35 : decode cX6_same 35 = .ok (.iadd, 1) := by decide +kernel
theorem dX6_same_36 : decode cX6_same 36 = .ok (.iaload, 1) := by decide +kernel
theorem dX6_same_37 : decode cX6_same 37 = .ok (.if_icmp .ne 7, 3) := by decide +kernel
theorem dX6_same_40 : decode cX6_same 40 = .ok (.iconst 1, 1) := by decide +kernel
theorem dX6_same_41 : decode cX6_same 41 = .ok (.goto 4, 3) := by decide +kernel
theorem dX6_same_44 : decode cX6_same 44 = .ok (.iconst 0, 1) := by decide +kernel
theorem dX6_same_45 : decode cX6_same 45 = .ok (.istore_n 3, 1) := by decide +kernel
theorem dX6_same_46 : decode cX6_same 46 = .ok (.iinc 4 1, 3) := by decide +kernel
theorem dX6_same_49 : decode cX6_same 49 = .ok (.goto (-44), 3) := by decide +kernel
theorem dX6_same_52 : decode cX6_same 52 = .ok (.iload_n 3, 1) := by decide +kernel
theorem dX6_same_53 : decode cX6_same 53 = .ok (.ireturn, 1) := by decide +kernel
theorem dX6_isInLog_0 : decode cX6_isInLog 0 = .ok (.iconst 0, 1) := by decide +kernel
theorem dX6_isInLog_1 : decode cX6_isInLog 1 = .ok (.istore_n 3, 1) := by decide +kernel
theorem dX6_isInLog_2 : decode cX6_isInLog 2 = .ok (.iconst 0, 1) := by decide +kernel
theorem dX6_isInLog_3 : decode cX6_isInLog 3 = .ok (.istore 4, 2) := by decide +kernel
theorem dX6_isInLog_5 : decode cX6_isInLog 5 = .ok (.iload 4, 2) := by decide +kernel
theorem dX6_isInLog_7 : decode cX6_isInLog 7 = .ok (.aload_n 0, 1) := by decide +kernel
theorem dX6_isInLog_8 : decode cX6_isInLog 8 = .ok (.getfield 19, 3) := by decide +kernel
theorem dX6_isInLog_11 : decode cX6_isInLog 11 = .ok (.iload_n 1, 1) := by decide +kernel
theorem dX6_isInLog_12 : decode cX6_isInLog 12 = .ok (.iaload, 1) := by decide +kernel
theorem dX6_isInLog_13 : decode cX6_isInLog 13 = .ok (.if_icmp .ge 36, 3) := by decide +kernel
theorem dX6_isInLog_16 : decode cX6_isInLog 16 = .ok (.iload_n 3, 1) := by decide +kernel
theorem dX6_isInLog_17 : decode cX6_isInLog 17 = .ok (.ifCond .ne 20, 3) := by decide +kernel
theorem dX6_isInLog_20 : decode cX6_isInLog 20 = .ok (.aload_n 0, 1) := by decide +kernel
theorem dX6_isInLog_21 : decode cX6_isInLog 21 = .ok (.bipush 12, 2) := by decide +kernel
theorem dX6_isInLog_23 : decode cX6_isInLog 23 = .ok (.iconst 5, 1) := by decide +kernel
theorem dX6_isInLog_24 : decode cX6_isInLog 24 = .ok (.iload_n 1, 1) := by decide +kernel
theorem dX6_isInLog_25 : decode cX6_isInLog 25 = .ok (.imul, 1) := by decide +kernel
theorem dX6_isInLog_26 : decode cX6_isInLog 26 = .ok (.iadd, 1) := by decide +kernel
theorem dX6_isInLog_27 : decode cX6_isInLog 27 = .ok (.iload 4, 2) := by decide +kernel
theorem dX6_isInLog_29 : decode cX6_isInLog 29 = .ok (.iadd, 1) := by decide +kernel
theorem dX6_isInLog_30 : decode cX6_isInLog 30 = .ok (.iload_n 2, 1) := by decide +kernel
theorem dX6_isInLog_31 : decode cX6_isInLog 31 = .ok (.invokevirtual 52, 3) := by decide +kernel
theorem dX6_isInLog_34 : decode cX6_isInLog 34 = .ok (.ifCond .eq 7, 3) := by decide +kernel
theorem dX6_isInLog_37 : decode cX6_isInLog 37 = .ok (.iconst 1, 1) := by decide +kernel
theorem dX6_isInLog_38 : decode cX6_isInLog 38 = .ok (.goto 4, 3) := by decide +kernel
theorem dX6_isInLog_41 : decode cX6_isInLog 41 = .ok (.iconst 0, 1) := by decide +kernel
theorem dX6_isInLog_42 : decode cX6_isInLog 42 = .ok (.istore_n 3, 1) := by decide +kernel
theorem dX6_isInLog_43 : decode cX6_isInLog 43 = .ok (.iinc 4 1, 3) := by decide +kernel
theorem dX6_isInLog_46 : decode cX6_isInLog 46 = .ok (.goto (-41), 3) := by decide +kernel
theorem dX6_isInLog_49 : decode cX6_isInLog 49 = .ok (.iload_n 3, 1) := by decide +kernel
theorem dX6_isInLog_50 : decode cX6_isInLog 50 = .ok (.ireturn, 1) := by decide +kernel
theorem dX6_isKept_0 : decode cX6_isKept 0 = .ok (.iconst 0, 1) := by decide +kernel
theorem dX6_isKept_1 : decode cX6_isKept 1 = .ok (.istore 4, 2) := by decide +kernel
theorem dX6_isKept_3 : decode cX6_isKept 3 = .ok (.iconst 0, 1) := by decide +kernel
theorem dX6_isKept_4 : decode cX6_isKept 4 = .ok (.istore 5, 2) := by decide +kernel
theorem dX6_isKept_6 : decode cX6_isKept 6 = .ok (.iload 5, 2) := by decide +kernel
theorem dX6_isKept_8 : decode cX6_isKept 8 = .ok (.iload_n 3, 1) := by decide +kernel
theorem dX6_isKept_9 : decode cX6_isKept 9 = .ok (.if_icmp .ge 46, 3) := by decide +kernel
theorem dX6_isKept_12 : decode cX6_isKept 12 = .ok (.iload 4, 2) := by decide +kernel
theorem dX6_isKept_14 : decode cX6_isKept 14 = .ok (.ifCond .ne 28, 3) := by decide +kernel
theorem dX6_isKept_17 : decode cX6_isKept 17 = .ok (.aload_n 0, 1) := by decide +kernel
theorem dX6_isKept_18 : decode cX6_isKept 18 = .ok (.getfield 31, 3) := by decide +kernel
theorem dX6_isKept_21 : decode cX6_isKept 21 = .ok (.iload 5, 2) := by decide +kernel
theorem dX6_isKept_23 : decode cX6_isKept 23 = .ok (.iaload, 1) := by decide +kernel
theorem dX6_isKept_24 : decode cX6_isKept 24 = .ok (.iload_n 1, 1) := by decide +kernel
theorem dX6_isKept_25 : decode cX6_isKept 25 = .ok (.if_icmp .ne 21, 3) := by decide +kernel
theorem dX6_isKept_28 : decode cX6_isKept 28 = .ok (.aload_n 0, 1) := by decide +kernel
theorem dX6_isKept_29 : decode cX6_isKept 29 = .ok (.sipush 872, 3) := by decide +kernel
theorem dX6_isKept_32 : decode cX6_isKept 32 = .ok (.iload 5, 2) := by decide +kernel
theorem dX6_isKept_34 : decode cX6_isKept 34 = .ok (.iadd, 1) := by decide +kernel
theorem dX6_isKept_35 : decode cX6_isKept 35 = .ok (.iload_n 2, 1) := by decide +kernel
theorem dX6_isKept_36 : decode cX6_isKept 36 = .ok (.invokevirtual 52, 3) := by decide +kernel
theorem dX6_isKept_39 : decode cX6_isKept 39 = .ok (.ifCond .eq 7, 3) := by decide +kernel
theorem dX6_isKept_42 : decode cX6_isKept 42 = .ok (.iconst 1, 1) := by decide +kernel
theorem dX6_isKept_43 : decode cX6_isKept 43 = .ok (.goto 4, 3) := by decide +kernel
theorem dX6_isKept_46 : decode cX6_isKept 46 = .ok (.iconst 0, 1) := by decide +kernel
theorem dX6_isKept_47 : decode cX6_isKept 47 = .ok (.istore 4, 2) := by decide +kernel
theorem dX6_isKept_49 : decode cX6_isKept 49 = .ok (.iinc 5 1, 3) := by decide +kernel
theorem dX6_isKept_52 : decode cX6_isKept 52 = .ok (.goto (-46), 3) := by decide +kernel
theorem dX6_isKept_55 : decode cX6_isKept 55 = .ok (.iload 4, 2) := by decide +kernel
theorem dX6_isKept_57 : decode cX6_isKept 57 = .ok (.ireturn, 1) := by decide +kernel
theorem dX6_isRefunded_0 : decode cX6_isRefunded 0 = .ok (.iconst 0, 1) := by decide +kernel
theorem dX6_isRefunded_1 : decode cX6_isRefunded 1 = .ok (.istore_n 2, 1) := by decide +kernel
theorem dX6_isRefunded_2 : decode cX6_isRefunded 2 = .ok (.iconst 0, 1) := by decide +kernel
theorem dX6_isRefunded_3 : decode cX6_isRefunded 3 = .ok (.istore_n 3, 1) := by decide +kernel
theorem dX6_isRefunded_4 : decode cX6_isRefunded 4 = .ok (.iload_n 3, 1) := by decide +kernel
theorem dX6_isRefunded_5 : decode cX6_isRefunded 5 = .ok (.aload_n 0, 1) := by decide +kernel
theorem dX6_isRefunded_6 : decode cX6_isRefunded 6 = .ok (.getfield 56, 3) := by decide +kernel
theorem dX6_isRefunded_9 : decode cX6_isRefunded 9 = .ok (.if_icmp .ge 41, 3) := by decide +kernel
theorem dX6_isRefunded_12 : decode cX6_isRefunded 12 = .ok (.iload_n 2, 1) := by decide +kernel
theorem dX6_isRefunded_13 : decode cX6_isRefunded 13 = .ok (.ifCond .ne 25, 3) := by decide +kernel
theorem dX6_isRefunded_16 : decode cX6_isRefunded 16 = .ok (.aload_n 0, 1) := by decide +kernel
theorem dX6_isRefunded_17 : decode cX6_isRefunded 17 = .ok (.getfield 34, 3) := by decide +kernel
theorem dX6_isRefunded_20 : decode cX6_isRefunded 20 = .ok (.iload_n 3, 1) := by decide +kernel
theorem dX6_isRefunded_21 : decode cX6_isRefunded 21 = .ok (.baload, 1) := by decide +kernel
theorem dX6_isRefunded_22 : decode cX6_isRefunded 22 = .ok (.ifCond .eq 20, 3) := by decide +kernel
theorem dX6_isRefunded_25 : decode cX6_isRefunded 25 = .ok (.aload_n 0, 1) := by decide +kernel
theorem dX6_isRefunded_26 : decode cX6_isRefunded 26 = .ok (.sipush 872, 3) := by decide +kernel
theorem dX6_isRefunded_29 : decode cX6_isRefunded 29 = .ok (.iload_n 3, 1) := by decide +kernel
theorem dX6_isRefunded_30 : decode cX6_isRefunded 30 = .ok (.iadd, 1) := by decide +kernel
theorem dX6_isRefunded_31 : decode cX6_isRefunded 31 = .ok (.iload_n 1, 1) := by decide +kernel
theorem dX6_isRefunded_32 : decode cX6_isRefunded 32 = .ok (.invokevirtual 52, 3) := by decide +kernel
theorem dX6_isRefunded_35 : decode cX6_isRefunded 35 = .ok (.ifCond .eq 7, 3) := by decide +kernel
theorem dX6_isRefunded_38 : decode cX6_isRefunded 38 = .ok (.iconst 1, 1) := by decide +kernel
theorem dX6_isRefunded_39 : decode cX6_isRefunded 39 = .ok (.goto 4, 3) := by decide +kernel
theorem dX6_isRefunded_42 : decode cX6_isRefunded 42 = .ok (.iconst 0, 1) := by decide +kernel
theorem dX6_isRefunded_43 : decode cX6_isRefunded 43 = .ok (.istore_n 2, 1) := by decide +kernel
theorem dX6_isRefunded_44 : decode cX6_isRefunded 44 = .ok (.iinc 3 1, 3) := by decide +kernel
theorem dX6_isRefunded_47 : decode cX6_isRefunded 47 = .ok (.goto (-43), 3) := by decide +kernel
theorem dX6_isRefunded_50 : decode cX6_isRefunded 50 = .ok (.iload_n 2, 1) := by decide +kernel
theorem dX6_isRefunded_51 : decode cX6_isRefunded 51 = .ok (.ireturn, 1) := by decide +kernel
theorem dX6_send_0 : decode cX6_send 0 = .ok (.aload_n 0, 1) := by decide +kernel
theorem dX6_send_1 : decode cX6_send 1 = .ok (.getfield 22, 3) := by decide +kernel
theorem dX6_send_4 : decode cX6_send 4 = .ok (.aload_n 0, 1) := by decide +kernel
theorem dX6_send_5 : decode cX6_send 5 = .ok (.getfield 59, 3) := by decide +kernel
theorem dX6_send_8 : decode cX6_send 8 = .ok (.iload_n 1, 1) := by decide +kernel
theorem dX6_send_9 : decode cX6_send 9 = .ok (.iastore, 1) := by decide +kernel
theorem dX6_send_10 : decode cX6_send 10 = .ok (.aload_n 0, 1) := by decide +kernel
theorem dX6_send_11 : decode cX6_send 11 = .ok (.getfield 25, 3) := by decide +kernel
theorem dX6_send_14 : decode cX6_send 14 = .ok (.aload_n 0, 1) := by decide +kernel
theorem dX6_send_15 : decode cX6_send 15 = .ok (.getfield 59, 3) := by decide +kernel
theorem dX6_send_18 : decode cX6_send 18 = .ok (.iload_n 2, 1) := by decide +kernel
theorem dX6_send_19 : decode cX6_send 19 = .ok (.iastore, 1) := by decide +kernel
theorem dX6_send_20 : decode cX6_send 20 = .ok (.aload_n 0, 1) := by decide +kernel
theorem dX6_send_21 : decode cX6_send 21 = .ok (.iload_n 3, 1) := by decide +kernel
theorem dX6_send_22 : decode cX6_send 22 = .ok (.bipush 72, 2) := by decide +kernel
theorem dX6_send_24 : decode cX6_send 24 = .ok (.aload_n 0, 1) := by decide +kernel
theorem dX6_send_25 : decode cX6_send 25 = .ok (.getfield 59, 3) := by decide +kernel
theorem dX6_send_28 : decode cX6_send 28 = .ok (.iadd, 1) := by decide +kernel
theorem dX6_send_29 : decode cX6_send 29 = .ok (.invokevirtual 62, 3) := by decide +kernel
theorem dX6_send_32 : decode cX6_send 32 = .ok (.aload_n 0, 1) := by decide +kernel
theorem dX6_send_33 : decode cX6_send 33 = .ok (.dup, 1) := by decide +kernel
theorem dX6_send_34 : decode cX6_send 34 = .ok (.getfield 59, 3) := by decide +kernel
theorem dX6_send_37 : decode cX6_send 37 = .ok (.iconst 1, 1) := by decide +kernel
theorem dX6_send_38 : decode cX6_send 38 = .ok (.iadd, 1) := by decide +kernel
theorem dX6_send_39 : decode cX6_send 39 = .ok (.putfield 59, 3) := by decide +kernel
theorem dX6_send_42 : decode cX6_send 42 = .ok (.return_, 1) := by decide +kernel
theorem dX6_endIt_0 : decode cX6_endIt 0 = .ok (.aload_n 0, 1) := by decide +kernel
theorem dX6_endIt_1 : decode cX6_endIt 1 = .ok (.getfield 16, 3) := by decide +kernel
theorem dX6_endIt_4 : decode cX6_endIt 4 = .ok (.iload_n 1, 1) := by decide +kernel
theorem dX6_endIt_5 : decode cX6_endIt 5 = .ok (.iaload, 1) := by decide +kernel
theorem dX6_endIt_6 : decode cX6_endIt 6 = .ok (.iconst 2, 1) := by decide +kernel
theorem dX6_endIt_7 : decode cX6_endIt 7 = .ok (.if_icmp .lt 31, 3) := by decide +kernel
theorem dX6_endIt_10 : decode cX6_endIt 10 = .ok (.aload_n 0, 1) := by decide +kernel
theorem dX6_endIt_11 : decode cX6_endIt 11 = .ok (.iload_n 1, 1) := by decide +kernel
theorem dX6_endIt_12 : decode cX6_endIt 12 = .ok (.bipush 12, 2) := by decide +kernel
theorem dX6_endIt_14 : decode cX6_endIt 14 = .ok (.iconst 5, 1) := by decide +kernel
theorem dX6_endIt_15 : decode cX6_endIt 15 = .ok (.iload_n 1, 1) := by decide +kernel
theorem dX6_endIt_16 : decode cX6_endIt 16 = .ok (.imul, 1) := by decide +kernel
theorem dX6_endIt_17 : decode cX6_endIt 17 = .ok (.iadd, 1) := by decide +kernel
theorem dX6_endIt_18 : decode cX6_endIt 18 = .ok (.aload_n 0, 1) := by decide +kernel
theorem dX6_endIt_19 : decode cX6_endIt 19 = .ok (.getfield 19, 3) := by decide +kernel
theorem dX6_endIt_22 : decode cX6_endIt 22 = .ok (.iload_n 1, 1) := by decide +kernel
theorem dX6_endIt_23 : decode cX6_endIt 23 = .ok (.iaload, 1) := by decide +kernel
theorem dX6_endIt_24 : decode cX6_endIt 24 = .ok (.iadd, 1) := by decide +kernel
theorem dX6_endIt_25 : decode cX6_endIt 25 = .ok (.invokevirtual 62, 3) := by decide +kernel
theorem dX6_endIt_28 : decode cX6_endIt 28 = .ok (.aload_n 0, 1) := by decide +kernel
theorem dX6_endIt_29 : decode cX6_endIt 29 = .ok (.getfield 19, 3) := by decide +kernel
theorem dX6_endIt_32 : decode cX6_endIt 32 = .ok (.iload_n 1, 1) := by decide +kernel
theorem dX6_endIt_33 : decode cX6_endIt 33 = .ok (.dup2, 1) := by decide +kernel
theorem dX6_endIt_34 : decode cX6_endIt 34 = .ok (.iaload, 1) := by decide +kernel
theorem dX6_endIt_35 : decode cX6_endIt 35 = .ok (.iconst 1, 1) := by decide +kernel
theorem dX6_endIt_36 : decode cX6_endIt 36 = .ok (.iadd, 1) := by decide +kernel
theorem dX6_endIt_37 : decode cX6_endIt 37 = .ok (.iastore, 1) := by decide +kernel
theorem dX6_endIt_38 : decode cX6_endIt 38 = .ok (.aload_n 0, 1) := by decide +kernel
theorem dX6_endIt_39 : decode cX6_endIt 39 = .ok (.getfield 13, 3) := by decide +kernel
theorem dX6_endIt_42 : decode cX6_endIt 42 = .ok (.iload_n 1, 1) := by decide +kernel
theorem dX6_endIt_43 : decode cX6_endIt 43 = .ok (.dup2, 1) := by decide +kernel
theorem dX6_endIt_44 : decode cX6_endIt 44 = .ok (.iaload, 1) := by decide +kernel
theorem dX6_endIt_45 : decode cX6_endIt 45 = .ok (.aload_n 0, 1) := by decide +kernel
theorem dX6_endIt_46 : decode cX6_endIt 46 = .ok (.getfield 16, 3) := by decide +kernel
theorem dX6_endIt_49 : decode cX6_endIt 49 = .ok (.iload_n 1, 1) := by decide +kernel
theorem dX6_endIt_50 : decode cX6_endIt 50 = .ok (.iaload, 1) := by decide +kernel
theorem dX6_endIt_51 : decode cX6_endIt 51 = .ok (.ifCond .ne 7, 3) := by decide +kernel
theorem dX6_endIt_54 : decode cX6_endIt 54 = .ok (.iconst 0, 1) := by decide +kernel
theorem dX6_endIt_55 : decode cX6_endIt 55 = .ok (.goto 4, 3) := by decide +kernel
theorem dX6_endIt_58 : decode cX6_endIt 58 = .ok (.iconst 1, 1) := by decide +kernel
theorem dX6_endIt_59 : decode cX6_endIt 59 = .ok (.iadd, 1) := by decide +kernel
theorem dX6_endIt_60 : decode cX6_endIt 60 = .ok (.iastore, 1) := by decide +kernel
theorem dX6_endIt_61 : decode cX6_endIt 61 = .ok (.aload_n 0, 1) := by decide +kernel
theorem dX6_endIt_62 : decode cX6_endIt 62 = .ok (.getfield 16, 3) := by decide +kernel
theorem dX6_endIt_65 : decode cX6_endIt 65 = .ok (.iload_n 1, 1) := by decide +kernel
theorem dX6_endIt_66 : decode cX6_endIt 66 = .ok (.iconst 0, 1) := by decide +kernel
theorem dX6_endIt_67 : decode cX6_endIt 67 = .ok (.iastore, 1) := by decide +kernel
theorem dX6_endIt_68 : decode cX6_endIt 68 = .ok (.return_, 1) := by decide +kernel
theorem dX6_waits_0 : decode cX6_waits 0 = .ok (.aload_n 0, 1) := by decide +kernel
theorem dX6_waits_1 : decode cX6_waits 1 = .ok (.getfield 16, 3) := by decide +kernel
theorem dX6_waits_4 : decode cX6_waits 4 = .ok (.iload_n 1, 1) := by decide +kernel
theorem dX6_waits_5 : decode cX6_waits 5 = .ok (.iaload, 1) := by decide +kernel
theorem dX6_waits_6 : decode cX6_waits 6 = .ok (.iload_n 2, 1) := by decide +kernel
theorem dX6_waits_7 : decode cX6_waits 7 = .ok (.if_icmp .ne 16, 3) := by decide +kernel
theorem dX6_waits_10 : decode cX6_waits 10 = .ok (.aload_n 0, 1) := by decide +kernel
theorem dX6_waits_11 : decode cX6_waits 11 = .ok (.iload_n 1, 1) := by decide +kernel
theorem dX6_waits_12 : decode cX6_waits 12 = .ok (.iload_n 3, 1) := by decide +kernel
theorem dX6_waits_13 : decode cX6_waits 13 = .ok (.invokevirtual 52, 3) := by decide +kernel
theorem dX6_waits_16 : decode cX6_waits 16 = .ok (.ifCond .eq 7, 3) := by decide +kernel
theorem dX6_waits_19 : decode cX6_waits 19 = .ok (.iconst 1, 1) := by decide +kernel
theorem dX6_waits_20 : decode cX6_waits 20 = .ok (.goto 4, 3) := by decide +kernel
theorem dX6_waits_23 : decode cX6_waits 23 = .ok (.iconst 0, 1) := by decide +kernel
theorem dX6_waits_24 : decode cX6_waits 24 = .ok (.ireturn, 1) := by decide +kernel
theorem dX6_takesBegin_0 : decode cX6_takesBegin 0 = .ok (.aload_n 0, 1) := by decide +kernel
theorem dX6_takesBegin_1 : decode cX6_takesBegin 1 = .ok (.iload_n 1, 1) := by decide +kernel
theorem dX6_takesBegin_2 : decode cX6_takesBegin 2 = .ok (.invokevirtual 66, 3) := by decide +kernel
theorem dX6_takesBegin_5 : decode cX6_takesBegin 5 = .ok (.aload_n 0, 1) := by decide +kernel
theorem dX6_takesBegin_6 : decode cX6_takesBegin 6 = .ok (.getfield 19, 3) := by decide +kernel
theorem dX6_takesBegin_9 : decode cX6_takesBegin 9 = .ok (.iload_n 1, 1) := by decide +kernel
theorem dX6_takesBegin_10 : decode cX6_takesBegin 10 = .ok (.iaload, 1) := by decide +kernel
theorem dX6_takesBegin_11 : decode cX6_takesBegin 11 = .ok (.iconst 5, 1) := by decide +kernel
theorem dX6_takesBegin_12 : decode cX6_takesBegin 12 = .ok (.if_icmp .eq 22, 3) := by decide +kernel
theorem dX6_takesBegin_15 : decode cX6_takesBegin 15 = .ok (.iload_n 3, 1) := by decide +kernel
theorem dX6_takesBegin_16 : decode cX6_takesBegin 16 = .ok (.ifCond .eq 20, 3) := by decide +kernel
theorem dX6_takesBegin_19 : decode cX6_takesBegin 19 = .ok (.aload_n 0, 1) := by decide +kernel
theorem dX6_takesBegin_20 : decode cX6_takesBegin 20 = .ok (.getfield 7, 3) := by decide +kernel
theorem dX6_takesBegin_23 : decode cX6_takesBegin 23 = .ok (.iload_n 1, 1) := by decide +kernel
theorem dX6_takesBegin_24 : decode cX6_takesBegin 24 = .ok (.iaload, 1) := by decide +kernel
theorem dX6_takesBegin_25 : decode cX6_takesBegin 25 = .ok (.aload_n 0, 1) := by decide +kernel
theorem dX6_takesBegin_26 : decode cX6_takesBegin 26 = .ok (.iload_n 2, 1) := by decide +kernel
theorem dX6_takesBegin_27 : decode cX6_takesBegin 27 = .ok (.iconst 4, 1) := by decide +kernel
theorem dX6_takesBegin_28 : decode cX6_takesBegin 28 = .ok (.invokevirtual 70, 3) := by decide +kernel
theorem dX6_takesBegin_31 : decode cX6_takesBegin 31 = .ok (.if_icmp .ge 5, 3) := by decide +kernel
theorem dX6_takesBegin_34 : decode cX6_takesBegin 34 = .ok (.iconst 0, 1) := by decide +kernel
theorem dX6_takesBegin_35 : decode cX6_takesBegin 35 = .ok (.ireturn, 1) := by decide +kernel
theorem dX6_takesBegin_36 : decode cX6_takesBegin 36 = .ok (.aload_n 0, 1) := by decide +kernel
theorem dX6_takesBegin_37 : decode cX6_takesBegin 37 = .ok (.iload_n 2, 1) := by decide +kernel
theorem dX6_takesBegin_38 : decode cX6_takesBegin 38 = .ok (.iload_n 1, 1) := by decide +kernel
theorem dX6_takesBegin_39 : decode cX6_takesBegin 39 = .ok (.invokevirtual 62, 3) := by decide +kernel
theorem dX6_takesBegin_42 : decode cX6_takesBegin 42 = .ok (.aload_n 0, 1) := by decide +kernel
theorem dX6_takesBegin_43 : decode cX6_takesBegin 43 = .ok (.getfield 38, 3) := by decide +kernel
theorem dX6_takesBegin_46 : decode cX6_takesBegin 46 = .ok (.iconst 5, 1) := by decide +kernel
theorem dX6_takesBegin_47 : decode cX6_takesBegin 47 = .ok (.iload_n 1, 1) := by decide +kernel
theorem dX6_takesBegin_48 : decode cX6_takesBegin 48 = .ok (.imul, 1) := by decide +kernel
theorem dX6_takesBegin_49 : decode cX6_takesBegin 49 = .ok (.iload_n 3, 1) := by decide +kernel
theorem dX6_takesBegin_50 : decode cX6_takesBegin 50 = .ok (.ifCond .eq 7, 3) := by decide +kernel
theorem dX6_takesBegin_53 : decode cX6_takesBegin 53 = .ok (.iconst 1, 1) := by decide +kernel
theorem dX6_takesBegin_54 : decode cX6_takesBegin 54 = .ok (.goto 4, 3) := by decide +kernel
theorem dX6_takesBegin_57 : decode cX6_takesBegin 57 = .ok (.iconst 3, 1) := by decide +kernel
theorem dX6_takesBegin_58 : decode cX6_takesBegin 58 = .ok (.iadd, 1) := by decide +kernel
theorem dX6_takesBegin_59 : decode cX6_takesBegin 59 = .ok (.aload_n 0, 1) := by decide +kernel
theorem dX6_takesBegin_60 : decode cX6_takesBegin 60 = .ok (.getfield 13, 3) := by decide +kernel
theorem dX6_takesBegin_63 : decode cX6_takesBegin 63 = .ok (.iload_n 1, 1) := by decide +kernel
theorem dX6_takesBegin_64 : decode cX6_takesBegin 64 = .ok (.iaload, 1) := by decide +kernel
theorem dX6_takesBegin_65 : decode cX6_takesBegin 65 = .ok (.iastore, 1) := by decide +kernel
theorem dX6_takesBegin_66 : decode cX6_takesBegin 66 = .ok (.aload_n 0, 1) := by decide +kernel
theorem dX6_takesBegin_67 : decode cX6_takesBegin 67 = .ok (.getfield 13, 3) := by decide +kernel
theorem dX6_takesBegin_70 : decode cX6_takesBegin 70 = .ok (.iload_n 1, 1) := by decide +kernel
theorem dX6_takesBegin_71 : decode cX6_takesBegin 71 = .ok (.dup2, 1) := by decide +kernel
theorem dX6_takesBegin_72 : decode cX6_takesBegin 72 = .ok (.iaload, 1) := by decide +kernel
theorem dX6_takesBegin_73 : decode cX6_takesBegin 73 = .ok (.iconst 1, 1) := by decide +kernel
theorem dX6_takesBegin_74 : decode cX6_takesBegin 74 = .ok (.iadd, 1) := by decide +kernel
theorem dX6_takesBegin_75 : decode cX6_takesBegin 75 = .ok (.iastore, 1) := by decide +kernel
theorem dX6_takesBegin_76 : decode cX6_takesBegin 76 = .ok (.aload_n 0, 1) := by decide +kernel
theorem dX6_takesBegin_77 : decode cX6_takesBegin 77 = .ok (.getfield 16, 3) := by decide +kernel
theorem dX6_takesBegin_80 : decode cX6_takesBegin 80 = .ok (.iload_n 1, 1) := by decide +kernel
theorem dX6_takesBegin_81 : decode cX6_takesBegin 81 = .ok (.iload_n 3, 1) := by decide +kernel
theorem dX6_takesBegin_82 : decode cX6_takesBegin 82 = .ok (.ifCond .eq 7, 3) := by decide +kernel
theorem dX6_takesBegin_85 : decode cX6_takesBegin 85 = .ok (.iconst 1, 1) := by decide +kernel
theorem dX6_takesBegin_86 : decode cX6_takesBegin 86 = .ok (.goto 4, 3) := by decide +kernel
theorem dX6_takesBegin_89 : decode cX6_takesBegin 89 = .ok (.iconst 2, 1) := by decide +kernel
theorem dX6_takesBegin_90 : decode cX6_takesBegin 90 = .ok (.iastore, 1) := by decide +kernel
theorem dX6_takesBegin_91 : decode cX6_takesBegin 91 = .ok (.iload_n 3, 1) := by decide +kernel
theorem dX6_takesBegin_92 : decode cX6_takesBegin 92 = .ok (.ifCond .ne 15, 3) := by decide +kernel
theorem dX6_takesBegin_95 : decode cX6_takesBegin 95 = .ok (.aload_n 0, 1) := by decide +kernel
theorem dX6_takesBegin_96 : decode cX6_takesBegin 96 = .ok (.iconst 2, 1) := by decide +kernel
theorem dX6_takesBegin_97 : decode cX6_takesBegin 97 = .ok (.aload_n 0, 1) := by decide +kernel
theorem dX6_takesBegin_98 : decode cX6_takesBegin 98 = .ok (.iload_n 1, 1) := by decide +kernel
theorem dX6_takesBegin_99 : decode cX6_takesBegin 99 = .ok (.iconst 0, 1) := by decide +kernel
theorem dX6_takesBegin_100 : decode cX6_takesBegin 100 = .ok (.invokevirtual 70, 3) := by decide +kernel
theorem dX6_takesBegin_103 : decode cX6_takesBegin 103 = .ok (.iload_n 1, 1) := by decide +kernel
theorem dX6_takesBegin_104 : decode cX6_takesBegin 104 = .ok (.invokevirtual 74, 3) := by decide +kernel
theorem dX6_takesBegin_107 : decode cX6_takesBegin 107 = .ok (.iconst 1, 1) := by decide +kernel
theorem dX6_takesBegin_108 : decode cX6_takesBegin 108 = .ok (.ireturn, 1) := by decide +kernel
theorem dX6_takesOther_0 : decode cX6_takesOther 0 = .ok (.aload_n 0, 1) := by decide +kernel
theorem dX6_takesOther_1 : decode cX6_takesOther 1 = .ok (.iload_n 1, 1) := by decide +kernel
theorem dX6_takesOther_2 : decode cX6_takesOther 2 = .ok (.iload_n 2, 1) := by decide +kernel
theorem dX6_takesOther_3 : decode cX6_takesOther 3 = .ok (.iconst 2, 1) := by decide +kernel
theorem dX6_takesOther_4 : decode cX6_takesOther 4 = .ok (.if_icmp .ne 7, 3) := by decide +kernel
theorem dX6_takesOther_7 : decode cX6_takesOther 7 = .ok (.iconst 1, 1) := by decide +kernel
theorem dX6_takesOther_8 : decode cX6_takesOther 8 = .ok (.goto 13, 3) := by decide +kernel
theorem dX6_takesOther_11 : decode cX6_takesOther 11 = .ok (.iload_n 2, 1) := by decide +kernel
theorem dX6_takesOther_12 : decode cX6_takesOther 12 = .ok (.iconst 3, 1) := by decide +kernel
theorem dX6_takesOther_13 : decode cX6_takesOther 13 = .ok (.if_icmp .ne 7, 3) := by decide +kernel
theorem dX6_takesOther_16 : decode cX6_takesOther 16 = .ok (.iconst 2, 1) := by decide +kernel
theorem dX6_takesOther_17 : decode cX6_takesOther 17 = .ok (.goto 4, 3) := by decide +kernel
theorem dX6_takesOther_20 : decode cX6_takesOther 20 = .ok (.iconst 3, 1) := by decide +kernel
theorem dX6_takesOther_21 : decode cX6_takesOther 21 = .ok (.iload_n 3, 1) := by decide +kernel
theorem dX6_takesOther_22 : decode cX6_takesOther 22 = .ok (.invokevirtual 78, 3) := by decide +kernel
theorem dX6_takesOther_25 : decode cX6_takesOther 25 = .ok (.istore 4, 2) := by decide +kernel
theorem dX6_takesOther_27 : decode cX6_takesOther 27 = .ok (.iload 4, 2) := by decide +kernel
theorem dX6_takesOther_29 : decode cX6_takesOther 29 = .ok (.ifCond .eq 45, 3) := by decide +kernel
theorem dX6_takesOther_32 : decode cX6_takesOther 32 = .ok (.iload_n 2, 1) := by decide +kernel
theorem dX6_takesOther_33 : decode cX6_takesOther 33 = .ok (.iconst 2, 1) := by decide +kernel
theorem dX6_takesOther_34 : decode cX6_takesOther 34 = .ok (.if_icmp .ne 40, 3) := by decide +kernel
theorem dX6_takesOther_37 : decode cX6_takesOther 37 = .ok (.aload_n 0, 1) := by decide +kernel
theorem dX6_takesOther_38 : decode cX6_takesOther 38 = .ok (.getfield 7, 3) := by decide +kernel
theorem dX6_takesOther_41 : decode cX6_takesOther 41 = .ok (.iload_n 1, 1) := by decide +kernel
theorem dX6_takesOther_42 : decode cX6_takesOther 42 = .ok (.dup2, 1) := by decide +kernel
theorem dX6_takesOther_43 : decode cX6_takesOther 43 = .ok (.iaload, 1) := by decide +kernel
theorem dX6_takesOther_44 : decode cX6_takesOther 44 = .ok (.aload_n 0, 1) := by decide +kernel
theorem dX6_takesOther_45 : decode cX6_takesOther 45 = .ok (.iload_n 3, 1) := by decide +kernel
theorem dX6_takesOther_46 : decode cX6_takesOther 46 = .ok (.iconst 4, 1) := by decide +kernel
theorem dX6_takesOther_47 : decode cX6_takesOther 47 = .ok (.invokevirtual 70, 3) := by decide +kernel
theorem dX6_takesOther_50 : decode cX6_takesOther 50 = .ok (.isub, 1) := by decide +kernel
theorem dX6_takesOther_51 : decode cX6_takesOther 51 = .ok (.iastore, 1) := by decide +kernel
theorem dX6_takesOther_52 : decode cX6_takesOther 52 = .ok (.aload_n 0, 1) := by decide +kernel
theorem dX6_takesOther_53 : decode cX6_takesOther 53 = .ok (.getfield 16, 3) := by decide +kernel
theorem dX6_takesOther_56 : decode cX6_takesOther 56 = .ok (.iload_n 1, 1) := by decide +kernel
theorem dX6_takesOther_57 : decode cX6_takesOther 57 = .ok (.iconst 3, 1) := by decide +kernel
theorem dX6_takesOther_58 : decode cX6_takesOther 58 = .ok (.iastore, 1) := by decide +kernel
theorem dX6_takesOther_59 : decode cX6_takesOther 59 = .ok (.aload_n 0, 1) := by decide +kernel
theorem dX6_takesOther_60 : decode cX6_takesOther 60 = .ok (.iconst 3, 1) := by decide +kernel
theorem dX6_takesOther_61 : decode cX6_takesOther 61 = .ok (.aload_n 0, 1) := by decide +kernel
theorem dX6_takesOther_62 : decode cX6_takesOther 62 = .ok (.iload_n 3, 1) := by decide +kernel
theorem dX6_takesOther_63 : decode cX6_takesOther 63 = .ok (.iconst 2, 1) := by decide +kernel
theorem dX6_takesOther_64 : decode cX6_takesOther 64 = .ok (.invokevirtual 70, 3) := by decide +kernel
theorem dX6_takesOther_67 : decode cX6_takesOther 67 = .ok (.iload_n 3, 1) := by decide +kernel
theorem dX6_takesOther_68 : decode cX6_takesOther 68 = .ok (.invokevirtual 74, 3) := by decide +kernel
theorem dX6_takesOther_71 : decode cX6_takesOther 71 = .ok (.goto 56, 3) := by decide +kernel
theorem dX6_takesOther_74 : decode cX6_takesOther 74 = .ok (.iload 4, 2) := by decide +kernel
theorem dX6_takesOther_76 : decode cX6_takesOther 76 = .ok (.ifCond .eq 51, 3) := by decide +kernel
theorem dX6_takesOther_79 : decode cX6_takesOther 79 = .ok (.aload_n 0, 1) := by decide +kernel
theorem dX6_takesOther_80 : decode cX6_takesOther 80 = .ok (.getfield 7, 3) := by decide +kernel
theorem dX6_takesOther_83 : decode cX6_takesOther 83 = .ok (.iload_n 1, 1) := by decide +kernel
theorem dX6_takesOther_84 : decode cX6_takesOther 84 = .ok (.dup2, 1) := by decide +kernel
theorem dX6_takesOther_85 : decode cX6_takesOther 85 = .ok (.iaload, 1) := by decide +kernel
theorem dX6_takesOther_86 : decode cX6_takesOther 86 = .ok (.iload_n 2, 1) := by decide +kernel
theorem dX6_takesOther_87 : decode cX6_takesOther 87 = .ok (.iconst 3, 1) := by decide +kernel
theorem dX6_takesOther_88 : decode cX6_takesOther 88 = .ok (.if_icmp .ne 12, 3) := by decide +kernel
theorem dX6_takesOther_91 : decode cX6_takesOther 91 = .ok (.aload_n 0, 1) := by decide +kernel
theorem dX6_takesOther_92 : decode cX6_takesOther 92 = .ok (.iload_n 3, 1) := by decide +kernel
theorem dX6_takesOther_93 : decode cX6_takesOther 93 = .ok (.iconst 4, 1) := by decide +kernel
theorem dX6_takesOther_94 : decode cX6_takesOther 94 = .ok (.invokevirtual 70, 3) := by decide +kernel
theorem dX6_takesOther_97 : decode cX6_takesOther 97 = .ok (.goto 4, 3) := by decide +kernel
theorem dX6_takesOther_100 : decode cX6_takesOther 100 = .ok (.iconst 0, 1) := by decide +kernel
theorem dX6_takesOther_101 : decode cX6_takesOther 101 = .ok (.iadd, 1) := by decide +kernel
theorem dX6_takesOther_102 : decode cX6_takesOther 102 = .ok (.iastore, 1) := by decide +kernel
theorem dX6_takesOther_103 : decode cX6_takesOther 103 = .ok (.aload_n 0, 1) := by decide +kernel
theorem dX6_takesOther_104 : decode cX6_takesOther 104 = .ok (.getfield 16, 3) := by decide +kernel
theorem dX6_takesOther_107 : decode cX6_takesOther 107 = .ok (.iload_n 1, 1) := by decide +kernel
theorem dX6_takesOther_108 : decode cX6_takesOther 108 = .ok (.iconst 0, 1) := by decide +kernel
theorem dX6_takesOther_109 : decode cX6_takesOther 109 = .ok (.iastore, 1) := by decide +kernel
theorem dX6_takesOther_110 : decode cX6_takesOther 110 = .ok (.iload_n 2, 1) := by decide +kernel
theorem dX6_takesOther_111 : decode cX6_takesOther 111 = .ok (.iconst 3, 1) := by decide +kernel
theorem dX6_takesOther_112 : decode cX6_takesOther 112 = .ok (.if_icmp .ne 15, 3) := by decide +kernel
theorem dX6_takesOther_115 : decode cX6_takesOther 115 = .ok (.aload_n 0, 1) := by decide +kernel
theorem dX6_takesOther_116 : decode cX6_takesOther 116 = .ok (.iconst 4, 1) := by decide +kernel
theorem dX6_takesOther_117 : decode cX6_takesOther 117 = .ok (.aload_n 0, 1) := by decide +kernel
theorem dX6_takesOther_118 : decode cX6_takesOther 118 = .ok (.iload_n 3, 1) := by decide +kernel
theorem dX6_takesOther_119 : decode cX6_takesOther 119 = .ok (.iconst 0, 1) := by decide +kernel
theorem dX6_takesOther_120 : decode cX6_takesOther 120 = .ok (.invokevirtual 70, 3) := by decide +kernel
theorem dX6_takesOther_123 : decode cX6_takesOther 123 = .ok (.iload_n 3, 1) := by decide +kernel
theorem dX6_takesOther_124 : decode cX6_takesOther 124 = .ok (.invokevirtual 74, 3) := by decide +kernel
theorem dX6_takesOther_127 : decode cX6_takesOther 127 = .ok (.iload 4, 2) := by decide +kernel
theorem dX6_takesOther_129 : decode cX6_takesOther 129 = .ok (.ireturn, 1) := by decide +kernel
theorem dX6_takesRecord_0 : decode cX6_takesRecord 0 = .ok (.aload_n 0, 1) := by decide +kernel
theorem dX6_takesRecord_1 : decode cX6_takesRecord 1 = .ok (.aload_n 0, 1) := by decide +kernel
theorem dX6_takesRecord_2 : decode cX6_takesRecord 2 = .ok (.getfield 28, 3) := by decide +kernel
theorem dX6_takesRecord_5 : decode cX6_takesRecord 5 = .ok (.iload_n 1, 1) := by decide +kernel
theorem dX6_takesRecord_6 : decode cX6_takesRecord 6 = .ok (.iaload, 1) := by decide +kernel
theorem dX6_takesRecord_7 : decode cX6_takesRecord 7 = .ok (.bipush 72, 2) := by decide +kernel
theorem dX6_takesRecord_9 : decode cX6_takesRecord 9 = .ok (.iload_n 1, 1) := by decide +kernel
theorem dX6_takesRecord_10 : decode cX6_takesRecord 10 = .ok (.iadd, 1) := by decide +kernel
theorem dX6_takesRecord_11 : decode cX6_takesRecord 11 = .ok (.aload_n 0, 1) := by decide +kernel
theorem dX6_takesRecord_12 : decode cX6_takesRecord 12 = .ok (.getfield 56, 3) := by decide +kernel
theorem dX6_takesRecord_15 : decode cX6_takesRecord 15 = .ok (.invokevirtual 81, 3) := by decide +kernel
theorem dX6_takesRecord_18 : decode cX6_takesRecord 18 = .ok (.ifCond .eq 5, 3) := by decide +kernel
theorem dX6_takesRecord_21 : decode cX6_takesRecord 21 = .ok (.iconst 0, 1) := by decide +kernel
theorem dX6_takesRecord_22 : decode cX6_takesRecord 22 = .ok (.ireturn, 1) := by decide +kernel
theorem dX6_takesRecord_23 : decode cX6_takesRecord 23 = .ok (.aload_n 0, 1) := by decide +kernel
theorem dX6_takesRecord_24 : decode cX6_takesRecord 24 = .ok (.getfield 31, 3) := by decide +kernel
theorem dX6_takesRecord_27 : decode cX6_takesRecord 27 = .ok (.aload_n 0, 1) := by decide +kernel
theorem dX6_takesRecord_28 : decode cX6_takesRecord 28 = .ok (.getfield 56, 3) := by decide +kernel
theorem dX6_takesRecord_31 : decode cX6_takesRecord 31 = .ok (.aload_n 0, 1) := by decide +kernel
theorem dX6_takesRecord_32 : decode cX6_takesRecord 32 = .ok (.getfield 28, 3) := by decide +kernel
theorem dX6_takesRecord_35 : decode cX6_takesRecord 35 = .ok (.iload_n 1, 1) := by decide +kernel
theorem dX6_takesRecord_36 : decode cX6_takesRecord 36 = .ok (.iaload, 1) := by decide +kernel
theorem dX6_takesRecord_37 : decode cX6_takesRecord 37 = .ok (.iastore, 1) := by decide +kernel
theorem dX6_takesRecord_38 : decode cX6_takesRecord 38 = .ok (.aload_n 0, 1) := by decide +kernel
theorem dX6_takesRecord_39 : decode cX6_takesRecord 39 = .ok (.getfield 34, 3) := by decide +kernel
theorem dX6_takesRecord_42 : decode cX6_takesRecord 42 = .ok (.aload_n 0, 1) := by decide +kernel
theorem dX6_takesRecord_43 : decode cX6_takesRecord 43 = .ok (.getfield 56, 3) := by decide +kernel
theorem dX6_takesRecord_46 : decode cX6_takesRecord 46 = .ok (.iconst 0, 1) := by decide +kernel
theorem dX6_takesRecord_47 : decode cX6_takesRecord 47 = .ok (.bastore, 1) := by decide +kernel
theorem dX6_takesRecord_48 : decode cX6_takesRecord 48 = .ok (.aload_n 0, 1) := by decide +kernel
theorem dX6_takesRecord_49 : decode cX6_takesRecord 49 = .ok (.bipush 72, 2) := by decide +kernel
theorem dX6_takesRecord_51 : decode cX6_takesRecord 51 = .ok (.iload_n 1, 1) := by decide +kernel
theorem dX6_takesRecord_52 : decode cX6_takesRecord 52 = .ok (.iadd, 1) := by decide +kernel
theorem dX6_takesRecord_53 : decode cX6_takesRecord 53 = .ok (.sipush 872, 3) := by decide +kernel
theorem dX6_takesRecord_56 : decode cX6_takesRecord 56 = .ok (.aload_n 0, 1) := by decide +kernel
theorem dX6_takesRecord_57 : decode cX6_takesRecord 57 = .ok (.getfield 56, 3) := by decide +kernel
theorem dX6_takesRecord_60 : decode cX6_takesRecord 60 = .ok (.iadd, 1) := by decide +kernel
theorem dX6_takesRecord_61 : decode cX6_takesRecord 61 = .ok (.invokevirtual 62, 3) := by decide +kernel
theorem dX6_takesRecord_64 : decode cX6_takesRecord 64 = .ok (.aload_n 0, 1) := by decide +kernel
theorem dX6_takesRecord_65 : decode cX6_takesRecord 65 = .ok (.dup, 1) := by decide +kernel
theorem dX6_takesRecord_66 : decode cX6_takesRecord 66 = .ok (.getfield 56, 3) := by decide +kernel
theorem dX6_takesRecord_69 : decode cX6_takesRecord 69 = .ok (.iconst 1, 1) := by decide +kernel
theorem dX6_takesRecord_70 : decode cX6_takesRecord 70 = .ok (.iadd, 1) := by decide +kernel
theorem dX6_takesRecord_71 : decode cX6_takesRecord 71 = .ok (.putfield 56, 3) := by decide +kernel
theorem dX6_takesRecord_74 : decode cX6_takesRecord 74 = .ok (.iconst 1, 1) := by decide +kernel
theorem dX6_takesRecord_75 : decode cX6_takesRecord 75 = .ok (.ireturn, 1) := by decide +kernel
theorem dX6_takesClearing_0 : decode cX6_takesClearing 0 = .ok (.aload_n 0, 1) := by decide +kernel
theorem dX6_takesClearing_1 : decode cX6_takesClearing 1 = .ok (.getfield 16, 3) := by decide +kernel
theorem dX6_takesClearing_4 : decode cX6_takesClearing 4 = .ok (.iload_n 1, 1) := by decide +kernel
theorem dX6_takesClearing_5 : decode cX6_takesClearing 5 = .ok (.iaload, 1) := by decide +kernel
theorem dX6_takesClearing_6 : decode cX6_takesClearing 6 = .ok (.ifCond .ne 16, 3) := by decide +kernel
theorem dX6_takesClearing_9 : decode cX6_takesClearing 9 = .ok (.aload_n 0, 1) := by decide +kernel
theorem dX6_takesClearing_10 : decode cX6_takesClearing 10 = .ok (.getfield 19, 3) := by decide +kernel
theorem dX6_takesClearing_13 : decode cX6_takesClearing 13 = .ok (.iload_n 1, 1) := by decide +kernel
theorem dX6_takesClearing_14 : decode cX6_takesClearing 14 = .ok (.iaload, 1) := by decide +kernel
theorem dX6_takesClearing_15 : decode cX6_takesClearing 15 = .ok (.ifCond .le 7, 3) := by decide +kernel
theorem dX6_takesClearing_18 : decode cX6_takesClearing 18 = .ok (.iconst 1, 1) := by decide +kernel
theorem dX6_takesClearing_19 : decode cX6_takesClearing 19 = .ok (.goto 4, 3) := by decide +kernel
theorem dX6_takesClearing_22 : decode cX6_takesClearing 22 = .ok (.iconst 0, 1) := by decide +kernel
theorem dX6_takesClearing_23 : decode cX6_takesClearing 23 = .ok (.istore_n 3, 1) := by decide +kernel
theorem dX6_takesClearing_24 : decode cX6_takesClearing 24 = .ok (.iconst 0, 1) := by decide +kernel
theorem dX6_takesClearing_25 : decode cX6_takesClearing 25 = .ok (.istore 4, 2) := by decide +kernel
theorem dX6_takesClearing_27 : decode cX6_takesClearing 27 = .ok (.iload 4, 2) := by decide +kernel
theorem dX6_takesClearing_29 : decode cX6_takesClearing 29 = .ok (.aload_n 0, 1) := by decide +kernel
theorem dX6_takesClearing_30 : decode cX6_takesClearing 30 = .ok (.getfield 19, 3) := by decide +kernel
theorem dX6_takesClearing_33 : decode cX6_takesClearing 33 = .ok (.iload_n 1, 1) := by decide +kernel
theorem dX6_takesClearing_34 : decode cX6_takesClearing 34 = .ok (.iaload, 1) := by decide +kernel
theorem dX6_takesClearing_35 : decode cX6_takesClearing 35 = .ok (.if_icmp .ge 37, 3) := by decide +kernel
theorem dX6_takesClearing_38 : decode cX6_takesClearing 38 = .ok (.iload_n 3, 1) := by decide +kernel
theorem dX6_takesClearing_39 : decode cX6_takesClearing 39 = .ok (.ifCond .eq 25, 3) := by decide +kernel
theorem dX6_takesClearing_42 : decode cX6_takesClearing 42 = .ok (.aload_n 0, 1) := by decide +kernel
theorem dX6_takesClearing_43 : decode cX6_takesClearing 43 = .ok (.iload_n 1, 1) := by decide +kernel
theorem dX6_takesClearing_44 : decode cX6_takesClearing 44 = .ok (.bipush 12, 2) := by decide +kernel
theorem dX6_takesClearing_46 : decode cX6_takesClearing 46 = .ok (.iconst 5, 1) := by decide +kernel
theorem dX6_takesClearing_47 : decode cX6_takesClearing 47 = .ok (.iload_n 1, 1) := by decide +kernel
theorem dX6_takesClearing_48 : decode cX6_takesClearing 48 = .ok (.imul, 1) := by decide +kernel
theorem dX6_takesClearing_49 : decode cX6_takesClearing 49 = .ok (.iadd, 1) := by decide +kernel
theorem dX6_takesClearing_50 : decode cX6_takesClearing 50 = .ok (.iload 4, 2) := by decide +kernel
theorem dX6_takesClearing_52 : decode cX6_takesClearing 52 = .ok (.iadd, 1) := by decide +kernel
theorem dX6_takesClearing_53 : decode cX6_takesClearing 53 = .ok (.iload_n 2, 1) := by decide +kernel
theorem dX6_takesClearing_54 : decode cX6_takesClearing 54 = .ok (.invokevirtual 81, 3) := by decide +kernel
theorem dX6_takesClearing_57 : decode cX6_takesClearing 57 = .ok (.ifCond .eq 7, 3) := by decide +kernel
theorem dX6_takesClearing_60 : decode cX6_takesClearing 60 = .ok (.iconst 1, 1) := by decide +kernel
theorem dX6_takesClearing_61 : decode cX6_takesClearing 61 = .ok (.goto 4, 3) := by decide +kernel
theorem dX6_takesClearing_64 : decode cX6_takesClearing 64 = .ok (.iconst 0, 1) := by decide +kernel
theorem dX6_takesClearing_65 : decode cX6_takesClearing 65 = .ok (.istore_n 3, 1) := by decide +kernel
theorem dX6_takesClearing_66 : decode cX6_takesClearing 66 = .ok (.iinc 4 1, 3) := by decide +kernel
theorem dX6_takesClearing_69 : decode cX6_takesClearing 69 = .ok (.goto (-42), 3) := by decide +kernel
theorem dX6_takesClearing_72 : decode cX6_takesClearing 72 = .ok (.aload_n 0, 1) := by decide +kernel
theorem dX6_takesClearing_73 : decode cX6_takesClearing 73 = .ok (.getfield 19, 3) := by decide +kernel
theorem dX6_takesClearing_76 : decode cX6_takesClearing 76 = .ok (.iload_n 1, 1) := by decide +kernel
theorem dX6_takesClearing_77 : decode cX6_takesClearing 77 = .ok (.iload_n 3, 1) := by decide +kernel
theorem dX6_takesClearing_78 : decode cX6_takesClearing 78 = .ok (.ifCond .eq 7, 3) := by decide +kernel
theorem dX6_takesClearing_81 : decode cX6_takesClearing 81 = .ok (.iconst 0, 1) := by decide +kernel
theorem dX6_takesClearing_82 : decode cX6_takesClearing 82 = .ok (.goto 9, 3) := by decide +kernel
theorem dX6_takesClearing_85 : decode cX6_takesClearing 85 = .ok (.aload_n 0, 1) := by decide +kernel
theorem dX6_takesClearing_86 : decode cX6_takesClearing 86 = .ok (.getfield 19, 3) := by decide +kernel
theorem dX6_takesClearing_89 : decode cX6_takesClearing 89 = .ok (.iload_n 1, 1) := by decide +kernel
theorem dX6_takesClearing_90 : decode cX6_takesClearing 90 = .ok (.iaload, 1) := by decide +kernel
theorem dX6_takesClearing_91 : decode cX6_takesClearing 91 = .ok (.iastore, 1) := by decide +kernel
theorem dX6_takesClearing_92 : decode cX6_takesClearing 92 = .ok (.iload_n 3, 1) := by decide +kernel
theorem dX6_takesClearing_93 : decode cX6_takesClearing 93 = .ok (.ireturn, 1) := by decide +kernel
theorem dX6_purse_0 : decode cX6_purse 0 = .ok (.aload_n 0, 1) := by decide +kernel
theorem dX6_purse_1 : decode cX6_purse 1 = .ok (.iload_n 1, 1) := by decide +kernel
theorem dX6_purse_2 : decode cX6_purse 2 = .ok (.iconst 0, 1) := by decide +kernel
theorem dX6_purse_3 : decode cX6_purse 3 = .ok (.ldc 84, 2) := by decide +kernel
theorem dX6_purse_5 : decode cX6_purse 5 = .ok (.invokestatic 48, 3) := by decide +kernel
theorem dX6_purse_8 : decode cX6_purse 8 = .ok (.ifCond .ne 7, 3) := by decide +kernel
theorem dX6_purse_11 : decode cX6_purse 11 = .ok (.iconst 1, 1) := by decide +kernel
theorem dX6_purse_12 : decode cX6_purse 12 = .ok (.goto 17, 3) := by decide +kernel
theorem dX6_purse_15 : decode cX6_purse 15 = .ok (.aload_n 0, 1) := by decide +kernel
theorem dX6_purse_16 : decode cX6_purse 16 = .ok (.getfield 45, 3) := by decide +kernel
theorem dX6_purse_19 : decode cX6_purse 19 = .ok (.bipush 12, 2) := by decide +kernel
theorem dX6_purse_21 : decode cX6_purse 21 = .ok (.if_icmp .ne 7, 3) := by decide +kernel
theorem dX6_purse_24 : decode cX6_purse 24 = .ok (.iconst 2, 1) := by decide +kernel
theorem dX6_purse_25 : decode cX6_purse 25 = .ok (.goto 4, 3) := by decide +kernel
theorem dX6_purse_28 : decode cX6_purse 28 = .ok (.iconst 0, 1) := by decide +kernel
theorem dX6_purse_29 : decode cX6_purse 29 = .ok (.putfield 41, 3) := by decide +kernel
theorem dX6_purse_32 : decode cX6_purse 32 = .ok (.aload_n 0, 1) := by decide +kernel
theorem dX6_purse_33 : decode cX6_purse 33 = .ok (.getfield 41, 3) := by decide +kernel
theorem dX6_purse_36 : decode cX6_purse 36 = .ok (.ifCond .le 5, 3) := by decide +kernel
theorem dX6_purse_39 : decode cX6_purse 39 = .ok (.iconst 0, 1) := by decide +kernel
theorem dX6_purse_40 : decode cX6_purse 40 = .ok (.ireturn, 1) := by decide +kernel
theorem dX6_purse_41 : decode cX6_purse 41 = .ok (.aload_n 0, 1) := by decide +kernel
theorem dX6_purse_42 : decode cX6_purse 42 = .ok (.getfield 7, 3) := by decide +kernel
theorem dX6_purse_45 : decode cX6_purse 45 = .ok (.aload_n 0, 1) := by decide +kernel
theorem dX6_purse_46 : decode cX6_purse 46 = .ok (.getfield 45, 3) := by decide +kernel
theorem dX6_purse_49 : decode cX6_purse 49 = .ok (.iload_n 1, 1) := by decide +kernel
theorem dX6_purse_50 : decode cX6_purse 50 = .ok (.iastore, 1) := by decide +kernel
theorem dX6_purse_51 : decode cX6_purse 51 = .ok (.aload_n 0, 1) := by decide +kernel
theorem dX6_purse_52 : decode cX6_purse 52 = .ok (.getfield 13, 3) := by decide +kernel
theorem dX6_purse_55 : decode cX6_purse 55 = .ok (.aload_n 0, 1) := by decide +kernel
theorem dX6_purse_56 : decode cX6_purse 56 = .ok (.getfield 45, 3) := by decide +kernel
theorem dX6_purse_59 : decode cX6_purse 59 = .ok (.iconst 1, 1) := by decide +kernel
theorem dX6_purse_60 : decode cX6_purse 60 = .ok (.iastore, 1) := by decide +kernel
theorem dX6_purse_61 : decode cX6_purse 61 = .ok (.aload_n 0, 1) := by decide +kernel
theorem dX6_purse_62 : decode cX6_purse 62 = .ok (.dup, 1) := by decide +kernel
theorem dX6_purse_63 : decode cX6_purse 63 = .ok (.getfield 45, 3) := by decide +kernel
theorem dX6_purse_66 : decode cX6_purse 66 = .ok (.iconst 1, 1) := by decide +kernel
theorem dX6_purse_67 : decode cX6_purse 67 = .ok (.iadd, 1) := by decide +kernel
theorem dX6_purse_68 : decode cX6_purse 68 = .ok (.putfield 45, 3) := by decide +kernel
theorem dX6_purse_71 : decode cX6_purse 71 = .ok (.aload_n 0, 1) := by decide +kernel
theorem dX6_purse_72 : decode cX6_purse 72 = .ok (.getfield 45, 3) := by decide +kernel
theorem dX6_purse_75 : decode cX6_purse 75 = .ok (.iconst 1, 1) := by decide +kernel
theorem dX6_purse_76 : decode cX6_purse 76 = .ok (.isub, 1) := by decide +kernel
theorem dX6_purse_77 : decode cX6_purse 77 = .ok (.ireturn, 1) := by decide +kernel
theorem dX6_begin_0 : decode cX6_begin 0 = .ok (.aload_n 0, 1) := by decide +kernel
theorem dX6_begin_1 : decode cX6_begin 1 = .ok (.aload_n 0, 1) := by decide +kernel
theorem dX6_begin_2 : decode cX6_begin 2 = .ok (.iload_n 1, 1) := by decide +kernel
theorem dX6_begin_3 : decode cX6_begin 3 = .ok (.invokevirtual 85, 3) := by decide +kernel
theorem dX6_begin_6 : decode cX6_begin 6 = .ok (.ifCond .eq 11, 3) := by decide +kernel
theorem dX6_begin_9 : decode cX6_begin 9 = .ok (.aload_n 0, 1) := by decide +kernel
theorem dX6_begin_10 : decode cX6_begin 10 = .ok (.iload_n 2, 1) := by decide +kernel
theorem dX6_begin_11 : decode cX6_begin 11 = .ok (.invokevirtual 85, 3) := by decide +kernel
theorem dX6_begin_14 : decode cX6_begin 14 = .ok (.ifCond .ne 7, 3) := by decide +kernel
theorem dX6_begin_17 : decode cX6_begin 17 = .ok (.iconst 1, 1) := by decide +kernel
theorem dX6_begin_18 : decode cX6_begin 18 = .ok (.goto 39, 3) := by decide +kernel
theorem dX6_begin_21 : decode cX6_begin 21 = .ok (.iload_n 1, 1) := by decide +kernel
theorem dX6_begin_22 : decode cX6_begin 22 = .ok (.iload_n 2, 1) := by decide +kernel
theorem dX6_begin_23 : decode cX6_begin 23 = .ok (.if_icmp .eq 13, 3) := by decide +kernel
theorem dX6_begin_26 : decode cX6_begin 26 = .ok (.iload_n 3, 1) := by decide +kernel
theorem dX6_begin_27 : decode cX6_begin 27 = .ok (.iconst 1, 1) := by decide +kernel
theorem dX6_begin_28 : decode cX6_begin 28 = .ok (.ldc 89, 2) := by decide +kernel
theorem dX6_begin_30 : decode cX6_begin 30 = .ok (.invokestatic 48, 3) := by decide +kernel
theorem dX6_begin_33 : decode cX6_begin 33 = .ok (.ifCond .ne 7, 3) := by decide +kernel
theorem dX6_begin_36 : decode cX6_begin 36 = .ok (.iconst 2, 1) := by decide +kernel
theorem dX6_begin_37 : decode cX6_begin 37 = .ok (.goto 20, 3) := by decide +kernel
theorem dX6_begin_40 : decode cX6_begin 40 = .ok (.aload_n 0, 1) := by decide +kernel
theorem dX6_begin_41 : decode cX6_begin 41 = .ok (.getfield 59, 3) := by decide +kernel
theorem dX6_begin_44 : decode cX6_begin 44 = .ok (.iconst 2, 1) := by decide +kernel
theorem dX6_begin_45 : decode cX6_begin 45 = .ok (.iadd, 1) := by decide +kernel
theorem dX6_begin_46 : decode cX6_begin 46 = .ok (.sipush 800, 3) := by decide +kernel
theorem dX6_begin_49 : decode cX6_begin 49 = .ok (.if_icmp .le 7, 3) := by decide +kernel
theorem dX6_begin_52 : decode cX6_begin 52 = .ok (.iconst 3, 1) := by decide +kernel
theorem dX6_begin_53 : decode cX6_begin 53 = .ok (.goto 4, 3) := by decide +kernel
theorem dX6_begin_56 : decode cX6_begin 56 = .ok (.iconst 0, 1) := by decide +kernel
theorem dX6_begin_57 : decode cX6_begin 57 = .ok (.putfield 41, 3) := by decide +kernel
theorem dX6_begin_60 : decode cX6_begin 60 = .ok (.aload_n 0, 1) := by decide +kernel
theorem dX6_begin_61 : decode cX6_begin 61 = .ok (.getfield 41, 3) := by decide +kernel
theorem dX6_begin_64 : decode cX6_begin 64 = .ok (.ifCond .le 5, 3) := by decide +kernel
theorem dX6_begin_67 : decode cX6_begin 67 = .ok (.iconst 0, 1) := by decide +kernel
theorem dX6_begin_68 : decode cX6_begin 68 = .ok (.ireturn, 1) := by decide +kernel
theorem dX6_begin_69 : decode cX6_begin 69 = .ok (.aload_n 0, 1) := by decide +kernel
theorem dX6_begin_70 : decode cX6_begin 70 = .ok (.bipush 72, 2) := by decide +kernel
theorem dX6_begin_72 : decode cX6_begin 72 = .ok (.aload_n 0, 1) := by decide +kernel
theorem dX6_begin_73 : decode cX6_begin 73 = .ok (.getfield 59, 3) := by decide +kernel
theorem dX6_begin_76 : decode cX6_begin 76 = .ok (.iadd, 1) := by decide +kernel
theorem dX6_begin_77 : decode cX6_begin 77 = .ok (.iload_n 1, 1) := by decide +kernel
theorem dX6_begin_78 : decode cX6_begin 78 = .ok (.iconst 0, 1) := by decide +kernel
theorem dX6_begin_79 : decode cX6_begin 79 = .ok (.iload_n 2, 1) := by decide +kernel
theorem dX6_begin_80 : decode cX6_begin 80 = .ok (.aload_n 0, 1) := by decide +kernel
theorem dX6_begin_81 : decode cX6_begin 81 = .ok (.getfield 13, 3) := by decide +kernel
theorem dX6_begin_84 : decode cX6_begin 84 = .ok (.iload_n 2, 1) := by decide +kernel
theorem dX6_begin_85 : decode cX6_begin 85 = .ok (.iaload, 1) := by decide +kernel
theorem dX6_begin_86 : decode cX6_begin 86 = .ok (.iload_n 3, 1) := by decide +kernel
theorem dX6_begin_87 : decode cX6_begin 87 = .ok (.invokevirtual 90, 3) := by decide +kernel
theorem dX6_begin_90 : decode cX6_begin 90 = .ok (.aload_n 0, 1) := by decide +kernel
theorem dX6_begin_91 : decode cX6_begin 91 = .ok (.iconst 0, 1) := by decide +kernel
theorem dX6_begin_92 : decode cX6_begin 92 = .ok (.iload_n 1, 1) := by decide +kernel
theorem dX6_begin_93 : decode cX6_begin 93 = .ok (.bipush 72, 2) := by decide +kernel
theorem dX6_begin_95 : decode cX6_begin 95 = .ok (.aload_n 0, 1) := by decide +kernel
theorem dX6_begin_96 : decode cX6_begin 96 = .ok (.getfield 59, 3) := by decide +kernel
theorem dX6_begin_99 : decode cX6_begin 99 = .ok (.iadd, 1) := by decide +kernel
theorem dX6_begin_100 : decode cX6_begin 100 = .ok (.invokevirtual 74, 3) := by decide +kernel
theorem dX6_begin_103 : decode cX6_begin 103 = .ok (.aload_n 0, 1) := by decide +kernel
theorem dX6_begin_104 : decode cX6_begin 104 = .ok (.bipush 72, 2) := by decide +kernel
theorem dX6_begin_106 : decode cX6_begin 106 = .ok (.aload_n 0, 1) := by decide +kernel
theorem dX6_begin_107 : decode cX6_begin 107 = .ok (.getfield 59, 3) := by decide +kernel
theorem dX6_begin_110 : decode cX6_begin 110 = .ok (.iadd, 1) := by decide +kernel
theorem dX6_begin_111 : decode cX6_begin 111 = .ok (.iload_n 1, 1) := by decide +kernel
theorem dX6_begin_112 : decode cX6_begin 112 = .ok (.aload_n 0, 1) := by decide +kernel
theorem dX6_begin_113 : decode cX6_begin 113 = .ok (.getfield 13, 3) := by decide +kernel
theorem dX6_begin_116 : decode cX6_begin 116 = .ok (.iload_n 1, 1) := by decide +kernel
theorem dX6_begin_117 : decode cX6_begin 117 = .ok (.iaload, 1) := by decide +kernel
theorem dX6_begin_118 : decode cX6_begin 118 = .ok (.iload_n 2, 1) := by decide +kernel
theorem dX6_begin_119 : decode cX6_begin 119 = .ok (.iconst 0, 1) := by decide +kernel
theorem dX6_begin_120 : decode cX6_begin 120 = .ok (.iload_n 3, 1) := by decide +kernel
theorem dX6_begin_121 : decode cX6_begin 121 = .ok (.invokevirtual 90, 3) := by decide +kernel
theorem dX6_begin_124 : decode cX6_begin 124 = .ok (.aload_n 0, 1) := by decide +kernel
theorem dX6_begin_125 : decode cX6_begin 125 = .ok (.iconst 1, 1) := by decide +kernel
theorem dX6_begin_126 : decode cX6_begin 126 = .ok (.iload_n 2, 1) := by decide +kernel
theorem dX6_begin_127 : decode cX6_begin 127 = .ok (.bipush 72, 2) := by decide +kernel
theorem dX6_begin_129 : decode cX6_begin 129 = .ok (.aload_n 0, 1) := by decide +kernel
theorem dX6_begin_130 : decode cX6_begin 130 = .ok (.getfield 59, 3) := by decide +kernel
theorem dX6_begin_133 : decode cX6_begin 133 = .ok (.iadd, 1) := by decide +kernel
theorem dX6_begin_134 : decode cX6_begin 134 = .ok (.invokevirtual 74, 3) := by decide +kernel
theorem dX6_begin_137 : decode cX6_begin 137 = .ok (.aload_n 0, 1) := by decide +kernel
theorem dX6_begin_138 : decode cX6_begin 138 = .ok (.getfield 59, 3) := by decide +kernel
theorem dX6_begin_141 : decode cX6_begin 141 = .ok (.iconst 2, 1) := by decide +kernel
theorem dX6_begin_142 : decode cX6_begin 142 = .ok (.isub, 1) := by decide +kernel
theorem dX6_begin_143 : decode cX6_begin 143 = .ok (.ireturn, 1) := by decide +kernel
theorem dX6_deliver_0 : decode cX6_deliver 0 = .ok (.aload_n 0, 1) := by decide +kernel
theorem dX6_deliver_1 : decode cX6_deliver 1 = .ok (.iload_n 1, 1) := by decide +kernel
theorem dX6_deliver_2 : decode cX6_deliver 2 = .ok (.iconst 0, 1) := by decide +kernel
theorem dX6_deliver_3 : decode cX6_deliver 3 = .ok (.aload_n 0, 1) := by decide +kernel
theorem dX6_deliver_4 : decode cX6_deliver 4 = .ok (.getfield 59, 3) := by decide +kernel
theorem dX6_deliver_7 : decode cX6_deliver 7 = .ok (.iconst 1, 1) := by decide +kernel
theorem dX6_deliver_8 : decode cX6_deliver 8 = .ok (.isub, 1) := by decide +kernel
theorem dX6_deliver_9 : decode cX6_deliver 9 = .ok (.invokestatic 48, 3) := by decide +kernel
theorem dX6_deliver_12 : decode cX6_deliver 12 = .ok (.ifCond .eq 7, 3) := by decide +kernel
theorem dX6_deliver_15 : decode cX6_deliver 15 = .ok (.iconst 0, 1) := by decide +kernel
theorem dX6_deliver_16 : decode cX6_deliver 16 = .ok (.goto 4, 3) := by decide +kernel
theorem dX6_deliver_19 : decode cX6_deliver 19 = .ok (.iconst 1, 1) := by decide +kernel
theorem dX6_deliver_20 : decode cX6_deliver 20 = .ok (.putfield 41, 3) := by decide +kernel
theorem dX6_deliver_23 : decode cX6_deliver 23 = .ok (.aload_n 0, 1) := by decide +kernel
theorem dX6_deliver_24 : decode cX6_deliver 24 = .ok (.getfield 41, 3) := by decide +kernel
theorem dX6_deliver_27 : decode cX6_deliver 27 = .ok (.ifCond .le 5, 3) := by decide +kernel
theorem dX6_deliver_30 : decode cX6_deliver 30 = .ok (.iconst 0, 1) := by decide +kernel
theorem dX6_deliver_31 : decode cX6_deliver 31 = .ok (.ireturn, 1) := by decide +kernel
theorem dX6_deliver_32 : decode cX6_deliver 32 = .ok (.aload_n 0, 1) := by decide +kernel
theorem dX6_deliver_33 : decode cX6_deliver 33 = .ok (.getfield 22, 3) := by decide +kernel
theorem dX6_deliver_36 : decode cX6_deliver 36 = .ok (.iload_n 1, 1) := by decide +kernel
theorem dX6_deliver_37 : decode cX6_deliver 37 = .ok (.iaload, 1) := by decide +kernel
theorem dX6_deliver_38 : decode cX6_deliver 38 = .ok (.istore_n 2, 1) := by decide +kernel
theorem dX6_deliver_39 : decode cX6_deliver 39 = .ok (.aload_n 0, 1) := by decide +kernel
theorem dX6_deliver_40 : decode cX6_deliver 40 = .ok (.getfield 25, 3) := by decide +kernel
theorem dX6_deliver_43 : decode cX6_deliver 43 = .ok (.iload_n 1, 1) := by decide +kernel
theorem dX6_deliver_44 : decode cX6_deliver 44 = .ok (.iaload, 1) := by decide +kernel
theorem dX6_deliver_45 : decode cX6_deliver 45 = .ok (.istore_n 3, 1) := by decide +kernel
theorem dX6_deliver_46 : decode cX6_deliver 46 = .ok (.bipush 72, 2) := by decide +kernel
theorem dX6_deliver_48 : decode cX6_deliver 48 = .ok (.iload_n 1, 1) := by decide +kernel
theorem dX6_deliver_49 : decode cX6_deliver 49 = .ok (.iadd, 1) := by decide +kernel
theorem dX6_deliver_50 : decode cX6_deliver 50 = .ok (.istore 4, 2) := by decide +kernel
theorem dX6_deliver_52 : decode cX6_deliver 52 = .ok (.iload_n 2, 1) := by decide +kernel
theorem dX6_deliver_53 : decode cX6_deliver 53 = .ok (.iconst 1, 1) := by decide +kernel
theorem dX6_deliver_54 : decode cX6_deliver 54 = .ok (.if_icmp .eq 35, 3) := by decide +kernel
theorem dX6_deliver_57 : decode cX6_deliver 57 = .ok (.iload_n 2, 1) := by decide +kernel
theorem dX6_deliver_58 : decode cX6_deliver 58 = .ok (.iconst 2, 1) := by decide +kernel
theorem dX6_deliver_59 : decode cX6_deliver 59 = .ok (.if_icmp .ne 14, 3) := by decide +kernel
theorem dX6_deliver_62 : decode cX6_deliver 62 = .ok (.aload_n 0, 1) := by decide +kernel
theorem dX6_deliver_63 : decode cX6_deliver 63 = .ok (.iload_n 3, 1) := by decide +kernel
theorem dX6_deliver_64 : decode cX6_deliver 64 = .ok (.iconst 1, 1) := by decide +kernel
theorem dX6_deliver_65 : decode cX6_deliver 65 = .ok (.iload 4, 2) := by decide +kernel
theorem dX6_deliver_67 : decode cX6_deliver 67 = .ok (.invokevirtual 78, 3) := by decide +kernel
theorem dX6_deliver_70 : decode cX6_deliver 70 = .ok (.ifCond .ne 19, 3) := by decide +kernel
theorem dX6_deliver_73 : decode cX6_deliver 73 = .ok (.iload_n 2, 1) := by decide +kernel
theorem dX6_deliver_74 : decode cX6_deliver 74 = .ok (.iconst 3, 1) := by decide +kernel
theorem dX6_deliver_75 : decode cX6_deliver 75 = .ok (.if_icmp .ne 18, 3) := by decide +kernel
theorem dX6_deliver_78 : decode cX6_deliver 78 = .ok (.aload_n 0, 1) := by decide +kernel
theorem dX6_deliver_79 : decode cX6_deliver 79 = .ok (.iload_n 3, 1) := by decide +kernel
theorem dX6_deliver_80 : decode cX6_deliver 80 = .ok (.iconst 2, 1) := by decide +kernel
theorem dX6_deliver_81 : decode cX6_deliver 81 = .ok (.iload 4, 2) := by decide +kernel
theorem dX6_deliver_83 : decode cX6_deliver 83 = .ok (.invokevirtual 78, 3) := by decide +kernel
theorem dX6_deliver_86 : decode cX6_deliver 86 = .ok (.ifCond .eq 7, 3) := by decide +kernel
theorem dX6_deliver_89 : decode cX6_deliver 89 = .ok (.iconst 1, 1) := by decide +kernel
theorem dX6_deliver_90 : decode cX6_deliver 90 = .ok (.goto 4, 3) := by decide +kernel
theorem dX6_deliver_93 : decode cX6_deliver 93 = .ok (.iconst 0, 1) := by decide +kernel
theorem dX6_deliver_94 : decode cX6_deliver 94 = .ok (.istore 5, 2) := by decide +kernel
theorem dX6_deliver_96 : decode cX6_deliver 96 = .ok (.aload_n 0, 1) := by decide +kernel
theorem dX6_deliver_97 : decode cX6_deliver 97 = .ok (.iload 5, 2) := by decide +kernel
theorem dX6_deliver_99 : decode cX6_deliver 99 = .ok (.ifCond .eq 17, 3) := by decide +kernel
theorem dX6_deliver_102 : decode cX6_deliver 102 = .ok (.aload_n 0, 1) := by decide +kernel
theorem dX6_deliver_103 : decode cX6_deliver 103 = .ok (.getfield 59, 3) := by decide +kernel
theorem dX6_deliver_106 : decode cX6_deliver 106 = .ok (.sipush 800, 3) := by decide +kernel
theorem dX6_deliver_109 : decode cX6_deliver 109 = .ok (.if_icmp .ne 7, 3) := by decide +kernel
theorem dX6_deliver_112 : decode cX6_deliver 112 = .ok (.iconst 2, 1) := by decide +kernel
theorem dX6_deliver_113 : decode cX6_deliver 113 = .ok (.goto 4, 3) := by decide +kernel
theorem dX6_deliver_116 : decode cX6_deliver 116 = .ok (.iconst 0, 1) := by decide +kernel
theorem dX6_deliver_117 : decode cX6_deliver 117 = .ok (.putfield 41, 3) := by decide +kernel
theorem dX6_deliver_120 : decode cX6_deliver 120 = .ok (.aload_n 0, 1) := by decide +kernel
theorem dX6_deliver_121 : decode cX6_deliver 121 = .ok (.getfield 41, 3) := by decide +kernel
theorem dX6_deliver_124 : decode cX6_deliver 124 = .ok (.ifCond .le 5, 3) := by decide +kernel
theorem dX6_deliver_127 : decode cX6_deliver 127 = .ok (.iconst 0, 1) := by decide +kernel
theorem dX6_deliver_128 : decode cX6_deliver 128 = .ok (.ireturn, 1) := by decide +kernel
theorem dX6_deliver_129 : decode cX6_deliver 129 = .ok (.iload_n 2, 1) := by decide +kernel
theorem dX6_deliver_130 : decode cX6_deliver 130 = .ok (.iconst 2, 1) := by decide +kernel
theorem dX6_deliver_131 : decode cX6_deliver 131 = .ok (.if_icmp .ge 20, 3) := by decide +kernel
theorem dX6_deliver_134 : decode cX6_deliver 134 = .ok (.aload_n 0, 1) := by decide +kernel
theorem dX6_deliver_135 : decode cX6_deliver 135 = .ok (.iload_n 3, 1) := by decide +kernel
theorem dX6_deliver_136 : decode cX6_deliver 136 = .ok (.iload 4, 2) := by decide +kernel
theorem dX6_deliver_138 : decode cX6_deliver 138 = .ok (.iload_n 2, 1) := by decide +kernel
theorem dX6_deliver_139 : decode cX6_deliver 139 = .ok (.ifCond .ne 7, 3) := by decide +kernel
theorem dX6_deliver_142 : decode cX6_deliver 142 = .ok (.iconst 1, 1) := by decide +kernel
theorem dX6_deliver_143 : decode cX6_deliver 143 = .ok (.goto 4, 3) := by decide +kernel
theorem dX6_deliver_146 : decode cX6_deliver 146 = .ok (.iconst 0, 1) := by decide +kernel
theorem dX6_deliver_147 : decode cX6_deliver 147 = .ok (.invokevirtual 94, 3) := by decide +kernel
theorem dX6_deliver_150 : decode cX6_deliver 150 = .ok (.ireturn, 1) := by decide +kernel
theorem dX6_deliver_151 : decode cX6_deliver 151 = .ok (.iload_n 2, 1) := by decide +kernel
theorem dX6_deliver_152 : decode cX6_deliver 152 = .ok (.iconst 5, 1) := by decide +kernel
theorem dX6_deliver_153 : decode cX6_deliver 153 = .ok (.if_icmp .ge 14, 3) := by decide +kernel
theorem dX6_deliver_156 : decode cX6_deliver 156 = .ok (.aload_n 0, 1) := by decide +kernel
theorem dX6_deliver_157 : decode cX6_deliver 157 = .ok (.iload_n 3, 1) := by decide +kernel
theorem dX6_deliver_158 : decode cX6_deliver 158 = .ok (.iload_n 2, 1) := by decide +kernel
theorem dX6_deliver_159 : decode cX6_deliver 159 = .ok (.iload 4, 2) := by decide +kernel
theorem dX6_deliver_161 : decode cX6_deliver 161 = .ok (.invokevirtual 98, 3) := by decide +kernel
theorem dX6_deliver_164 : decode cX6_deliver 164 = .ok (.goto 27, 3) := by decide +kernel
theorem dX6_deliver_167 : decode cX6_deliver 167 = .ok (.iload_n 2, 1) := by decide +kernel
theorem dX6_deliver_168 : decode cX6_deliver 168 = .ok (.iconst 5, 1) := by decide +kernel
theorem dX6_deliver_169 : decode cX6_deliver 169 = .ok (.if_icmp .ne 11, 3) := by decide +kernel
theorem dX6_deliver_172 : decode cX6_deliver 172 = .ok (.aload_n 0, 1) := by decide +kernel
theorem dX6_deliver_173 : decode cX6_deliver 173 = .ok (.iload_n 1, 1) := by decide +kernel
theorem dX6_deliver_174 : decode cX6_deliver 174 = .ok (.invokevirtual 101, 3) := by decide +kernel
theorem dX6_deliver_177 : decode cX6_deliver 177 = .ok (.goto 14, 3) := by decide +kernel
theorem dX6_deliver_180 : decode cX6_deliver 180 = .ok (.aload_n 0, 1) := by decide +kernel
theorem dX6_deliver_181 : decode cX6_deliver 181 = .ok (.iload_n 3, 1) := by decide +kernel
theorem dX6_deliver_182 : decode cX6_deliver 182 = .ok (.aload_n 0, 1) := by decide +kernel
theorem dX6_deliver_183 : decode cX6_deliver 183 = .ok (.getfield 28, 3) := by decide +kernel
theorem dX6_deliver_186 : decode cX6_deliver 186 = .ok (.iload_n 1, 1) := by decide +kernel
theorem dX6_deliver_187 : decode cX6_deliver 187 = .ok (.iaload, 1) := by decide +kernel
theorem dX6_deliver_188 : decode cX6_deliver 188 = .ok (.invokevirtual 104, 3) := by decide +kernel
theorem dX6_deliver_191 : decode cX6_deliver 191 = .ok (.ireturn, 1) := by decide +kernel
theorem dX6_abort_0 : decode cX6_abort 0 = .ok (.aload_n 0, 1) := by decide +kernel
theorem dX6_abort_1 : decode cX6_abort 1 = .ok (.aload_n 0, 1) := by decide +kernel
theorem dX6_abort_2 : decode cX6_abort 2 = .ok (.iload_n 1, 1) := by decide +kernel
theorem dX6_abort_3 : decode cX6_abort 3 = .ok (.invokevirtual 85, 3) := by decide +kernel
theorem dX6_abort_6 : decode cX6_abort 6 = .ok (.ifCond .eq 7, 3) := by decide +kernel
theorem dX6_abort_9 : decode cX6_abort 9 = .ok (.iconst 0, 1) := by decide +kernel
theorem dX6_abort_10 : decode cX6_abort 10 = .ok (.goto 4, 3) := by decide +kernel
theorem dX6_abort_13 : decode cX6_abort 13 = .ok (.iconst 1, 1) := by decide +kernel
theorem dX6_abort_14 : decode cX6_abort 14 = .ok (.putfield 41, 3) := by decide +kernel
theorem dX6_abort_17 : decode cX6_abort 17 = .ok (.aload_n 0, 1) := by decide +kernel
theorem dX6_abort_18 : decode cX6_abort 18 = .ok (.getfield 41, 3) := by decide +kernel
theorem dX6_abort_21 : decode cX6_abort 21 = .ok (.ifCond .le 5, 3) := by decide +kernel
theorem dX6_abort_24 : decode cX6_abort 24 = .ok (.iconst 0, 1) := by decide +kernel
theorem dX6_abort_25 : decode cX6_abort 25 = .ok (.ireturn, 1) := by decide +kernel
theorem dX6_abort_26 : decode cX6_abort 26 = .ok (.aload_n 0, 1) := by decide +kernel
theorem dX6_abort_27 : decode cX6_abort 27 = .ok (.getfield 16, 3) := by decide +kernel
theorem dX6_abort_30 : decode cX6_abort 30 = .ok (.iload_n 1, 1) := by decide +kernel
theorem dX6_abort_31 : decode cX6_abort 31 = .ok (.iaload, 1) := by decide +kernel
theorem dX6_abort_32 : decode cX6_abort 32 = .ok (.istore_n 2, 1) := by decide +kernel
theorem dX6_abort_33 : decode cX6_abort 33 = .ok (.aload_n 0, 1) := by decide +kernel
theorem dX6_abort_34 : decode cX6_abort 34 = .ok (.iload_n 1, 1) := by decide +kernel
theorem dX6_abort_35 : decode cX6_abort 35 = .ok (.invokevirtual 66, 3) := by decide +kernel
theorem dX6_abort_38 : decode cX6_abort 38 = .ok (.iload_n 2, 1) := by decide +kernel
theorem dX6_abort_39 : decode cX6_abort 39 = .ok (.ireturn, 1) := by decide +kernel
theorem dX6_readLog_0 : decode cX6_readLog 0 = .ok (.aload_n 0, 1) := by decide +kernel
theorem dX6_readLog_1 : decode cX6_readLog 1 = .ok (.aload_n 0, 1) := by decide +kernel
theorem dX6_readLog_2 : decode cX6_readLog 2 = .ok (.iload_n 1, 1) := by decide +kernel
theorem dX6_readLog_3 : decode cX6_readLog 3 = .ok (.invokevirtual 85, 3) := by decide +kernel
theorem dX6_readLog_6 : decode cX6_readLog 6 = .ok (.ifCond .ne 7, 3) := by decide +kernel
theorem dX6_readLog_9 : decode cX6_readLog 9 = .ok (.iconst 1, 1) := by decide +kernel
theorem dX6_readLog_10 : decode cX6_readLog 10 = .ok (.goto 38, 3) := by decide +kernel
theorem dX6_readLog_13 : decode cX6_readLog 13 = .ok (.aload_n 0, 1) := by decide +kernel
theorem dX6_readLog_14 : decode cX6_readLog 14 = .ok (.getfield 16, 3) := by decide +kernel
theorem dX6_readLog_17 : decode cX6_readLog 17 = .ok (.iload_n 1, 1) := by decide +kernel
theorem dX6_readLog_18 : decode cX6_readLog 18 = .ok (.iaload, 1) := by decide +kernel
theorem dX6_readLog_19 : decode cX6_readLog 19 = .ok (.ifCond .eq 7, 3) := by decide +kernel
theorem dX6_readLog_22 : decode cX6_readLog 22 = .ok (.iconst 2, 1) := by decide +kernel
theorem dX6_readLog_23 : decode cX6_readLog 23 = .ok (.goto 25, 3) := by decide +kernel
theorem dX6_readLog_26 : decode cX6_readLog 26 = .ok (.aload_n 0, 1) := by decide +kernel
theorem dX6_readLog_27 : decode cX6_readLog 27 = .ok (.getfield 59, 3) := by decide +kernel
theorem dX6_readLog_30 : decode cX6_readLog 30 = .ok (.aload_n 0, 1) := by decide +kernel
theorem dX6_readLog_31 : decode cX6_readLog 31 = .ok (.getfield 19, 3) := by decide +kernel
theorem dX6_readLog_34 : decode cX6_readLog 34 = .ok (.iload_n 1, 1) := by decide +kernel
theorem dX6_readLog_35 : decode cX6_readLog 35 = .ok (.iaload, 1) := by decide +kernel
theorem dX6_readLog_36 : decode cX6_readLog 36 = .ok (.iadd, 1) := by decide +kernel
theorem dX6_readLog_37 : decode cX6_readLog 37 = .ok (.sipush 800, 3) := by decide +kernel
theorem dX6_readLog_40 : decode cX6_readLog 40 = .ok (.if_icmp .le 7, 3) := by decide +kernel
theorem dX6_readLog_43 : decode cX6_readLog 43 = .ok (.iconst 3, 1) := by decide +kernel
theorem dX6_readLog_44 : decode cX6_readLog 44 = .ok (.goto 4, 3) := by decide +kernel
theorem dX6_readLog_47 : decode cX6_readLog 47 = .ok (.iconst 0, 1) := by decide +kernel
theorem dX6_readLog_48 : decode cX6_readLog 48 = .ok (.putfield 41, 3) := by decide +kernel
theorem dX6_readLog_51 : decode cX6_readLog 51 = .ok (.aload_n 0, 1) := by decide +kernel
theorem dX6_readLog_52 : decode cX6_readLog 52 = .ok (.getfield 41, 3) := by decide +kernel
theorem dX6_readLog_55 : decode cX6_readLog 55 = .ok (.ifCond .le 5, 3) := by decide +kernel
theorem dX6_readLog_58 : decode cX6_readLog 58 = .ok (.iconst 0, 1) := by decide +kernel
theorem dX6_readLog_59 : decode cX6_readLog 59 = .ok (.ireturn, 1) := by decide +kernel
theorem dX6_readLog_60 : decode cX6_readLog 60 = .ok (.iconst 0, 1) := by decide +kernel
theorem dX6_readLog_61 : decode cX6_readLog 61 = .ok (.istore_n 2, 1) := by decide +kernel
theorem dX6_readLog_62 : decode cX6_readLog 62 = .ok (.iload_n 2, 1) := by decide +kernel
theorem dX6_readLog_63 : decode cX6_readLog 63 = .ok (.aload_n 0, 1) := by decide +kernel
theorem dX6_readLog_64 : decode cX6_readLog 64 = .ok (.getfield 19, 3) := by decide +kernel
theorem dX6_readLog_67 : decode cX6_readLog 67 = .ok (.iload_n 1, 1) := by decide +kernel
theorem dX6_readLog_68 : decode cX6_readLog 68 = .ok (.iaload, 1) := by decide +kernel
theorem dX6_readLog_69 : decode cX6_readLog 69 = .ok (.if_icmp .ge 33, 3) := by decide +kernel
theorem dX6_readLog_72 : decode cX6_readLog 72 = .ok (.aload_n 0, 1) := by decide +kernel
theorem dX6_readLog_73 : decode cX6_readLog 73 = .ok (.getfield 28, 3) := by decide +kernel
theorem dX6_readLog_76 : decode cX6_readLog 76 = .ok (.aload_n 0, 1) := by decide +kernel
theorem dX6_readLog_77 : decode cX6_readLog 77 = .ok (.getfield 59, 3) := by decide +kernel
theorem dX6_readLog_80 : decode cX6_readLog 80 = .ok (.iload_n 1, 1) := by decide +kernel
theorem dX6_readLog_81 : decode cX6_readLog 81 = .ok (.iastore, 1) := by decide +kernel
theorem dX6_readLog_82 : decode cX6_readLog 82 = .ok (.aload_n 0, 1) := by decide +kernel
theorem dX6_readLog_83 : decode cX6_readLog 83 = .ok (.iconst 5, 1) := by decide +kernel
theorem dX6_readLog_84 : decode cX6_readLog 84 = .ok (.iconst (-1), 1) := by decide +kernel
theorem dX6_readLog_85 : decode cX6_readLog 85 = .ok (.bipush 12, 2) := by decide +kernel
theorem dX6_readLog_87 : decode cX6_readLog 87 = .ok (.iconst 5, 1) := by decide +kernel
theorem dX6_readLog_88 : decode cX6_readLog 88 = .ok (.iload_n 1, 1) := by decide +kernel
theorem dX6_readLog_89 : decode cX6_readLog 89 = .ok (.imul, 1) := by decide +kernel
theorem dX6_readLog_90 : decode cX6_readLog 90 = .ok (.iadd, 1) := by decide +kernel
theorem dX6_readLog_91 : decode cX6_readLog 91 = .ok (.iload_n 2, 1) := by decide +kernel
theorem dX6_readLog_92 : decode cX6_readLog 92 = .ok (.iadd, 1) := by decide +kernel
theorem dX6_readLog_93 : decode cX6_readLog 93 = .ok (.invokevirtual 74, 3) := by decide +kernel
theorem dX6_readLog_96 : decode cX6_readLog 96 = .ok (.iinc 2 1, 3) := by decide +kernel
theorem dX6_readLog_99 : decode cX6_readLog 99 = .ok (.goto (-37), 3) := by decide +kernel
theorem dX6_readLog_102 : decode cX6_readLog 102 = .ok (.aload_n 0, 1) := by decide +kernel
theorem dX6_readLog_103 : decode cX6_readLog 103 = .ok (.getfield 19, 3) := by decide +kernel
theorem dX6_readLog_106 : decode cX6_readLog 106 = .ok (.iload_n 1, 1) := by decide +kernel
theorem dX6_readLog_107 : decode cX6_readLog 107 = .ok (.iaload, 1) := by decide +kernel
theorem dX6_readLog_108 : decode cX6_readLog 108 = .ok (.ireturn, 1) := by decide +kernel
theorem dX6_authorise_0 : decode cX6_authorise 0 = .ok (.aload_n 0, 1) := by decide +kernel
theorem dX6_authorise_1 : decode cX6_authorise 1 = .ok (.aload_n 0, 1) := by decide +kernel
theorem dX6_authorise_2 : decode cX6_authorise 2 = .ok (.iload_n 1, 1) := by decide +kernel
theorem dX6_authorise_3 : decode cX6_authorise 3 = .ok (.invokevirtual 85, 3) := by decide +kernel
theorem dX6_authorise_6 : decode cX6_authorise 6 = .ok (.ifCond .eq 7, 3) := by decide +kernel
theorem dX6_authorise_9 : decode cX6_authorise 9 = .ok (.iconst 0, 1) := by decide +kernel
theorem dX6_authorise_10 : decode cX6_authorise 10 = .ok (.goto 4, 3) := by decide +kernel
theorem dX6_authorise_13 : decode cX6_authorise 13 = .ok (.iconst 1, 1) := by decide +kernel
theorem dX6_authorise_14 : decode cX6_authorise 14 = .ok (.putfield 41, 3) := by decide +kernel
theorem dX6_authorise_17 : decode cX6_authorise 17 = .ok (.aload_n 0, 1) := by decide +kernel
theorem dX6_authorise_18 : decode cX6_authorise 18 = .ok (.getfield 41, 3) := by decide +kernel
theorem dX6_authorise_21 : decode cX6_authorise 21 = .ok (.ifCond .le 5, 3) := by decide +kernel
theorem dX6_authorise_24 : decode cX6_authorise 24 = .ok (.iconst 0, 1) := by decide +kernel
theorem dX6_authorise_25 : decode cX6_authorise 25 = .ok (.ireturn, 1) := by decide +kernel
theorem dX6_authorise_26 : decode cX6_authorise 26 = .ok (.iconst 0, 1) := by decide +kernel
theorem dX6_authorise_27 : decode cX6_authorise 27 = .ok (.istore_n 2, 1) := by decide +kernel
theorem dX6_authorise_28 : decode cX6_authorise 28 = .ok (.iconst 0, 1) := by decide +kernel
theorem dX6_authorise_29 : decode cX6_authorise 29 = .ok (.istore_n 3, 1) := by decide +kernel
theorem dX6_authorise_30 : decode cX6_authorise 30 = .ok (.iload_n 3, 1) := by decide +kernel
theorem dX6_authorise_31 : decode cX6_authorise 31 = .ok (.aload_n 0, 1) := by decide +kernel
theorem dX6_authorise_32 : decode cX6_authorise 32 = .ok (.getfield 56, 3) := by decide +kernel
theorem dX6_authorise_35 : decode cX6_authorise 35 = .ok (.if_icmp .ge 29, 3) := by decide +kernel
theorem dX6_authorise_38 : decode cX6_authorise 38 = .ok (.iload_n 2, 1) := by decide +kernel
theorem dX6_authorise_39 : decode cX6_authorise 39 = .ok (.ifCond .ne 13, 3) := by decide +kernel
theorem dX6_authorise_42 : decode cX6_authorise 42 = .ok (.aload_n 0, 1) := by decide +kernel
theorem dX6_authorise_43 : decode cX6_authorise 43 = .ok (.getfield 31, 3) := by decide +kernel
theorem dX6_authorise_46 : decode cX6_authorise 46 = .ok (.iload_n 3, 1) := by decide +kernel
theorem dX6_authorise_47 : decode cX6_authorise 47 = .ok (.iaload, 1) := by decide +kernel
theorem dX6_authorise_48 : decode cX6_authorise 48 = .ok (.iload_n 1, 1) := by decide +kernel
theorem dX6_authorise_49 : decode cX6_authorise 49 = .ok (.if_icmp .ne 7, 3) := by decide +kernel
theorem dX6_authorise_52 : decode cX6_authorise 52 = .ok (.iconst 1, 1) := by decide +kernel
theorem dX6_authorise_53 : decode cX6_authorise 53 = .ok (.goto 4, 3) := by decide +kernel
theorem dX6_authorise_56 : decode cX6_authorise 56 = .ok (.iconst 0, 1) := by decide +kernel
theorem dX6_authorise_57 : decode cX6_authorise 57 = .ok (.istore_n 2, 1) := by decide +kernel
theorem dX6_authorise_58 : decode cX6_authorise 58 = .ok (.iinc 3 1, 3) := by decide +kernel
theorem dX6_authorise_61 : decode cX6_authorise 61 = .ok (.goto (-31), 3) := by decide +kernel
theorem dX6_authorise_64 : decode cX6_authorise 64 = .ok (.aload_n 0, 1) := by decide +kernel
theorem dX6_authorise_65 : decode cX6_authorise 65 = .ok (.iload_n 2, 1) := by decide +kernel
theorem dX6_authorise_66 : decode cX6_authorise 66 = .ok (.ifCond .ne 7, 3) := by decide +kernel
theorem dX6_authorise_69 : decode cX6_authorise 69 = .ok (.iconst 2, 1) := by decide +kernel
theorem dX6_authorise_70 : decode cX6_authorise 70 = .ok (.goto 18, 3) := by decide +kernel
theorem dX6_authorise_73 : decode cX6_authorise 73 = .ok (.aload_n 0, 1) := by decide +kernel
theorem dX6_authorise_74 : decode cX6_authorise 74 = .ok (.getfield 59, 3) := by decide +kernel
theorem dX6_authorise_77 : decode cX6_authorise 77 = .ok (.sipush 800, 3) := by decide +kernel
theorem dX6_authorise_80 : decode cX6_authorise 80 = .ok (.if_icmp .ne 7, 3) := by decide +kernel
theorem dX6_authorise_83 : decode cX6_authorise 83 = .ok (.iconst 3, 1) := by decide +kernel
theorem dX6_authorise_84 : decode cX6_authorise 84 = .ok (.goto 4, 3) := by decide +kernel
theorem dX6_authorise_87 : decode cX6_authorise 87 = .ok (.iconst 0, 1) := by decide +kernel
theorem dX6_authorise_88 : decode cX6_authorise 88 = .ok (.putfield 41, 3) := by decide +kernel
theorem dX6_authorise_91 : decode cX6_authorise 91 = .ok (.aload_n 0, 1) := by decide +kernel
theorem dX6_authorise_92 : decode cX6_authorise 92 = .ok (.getfield 41, 3) := by decide +kernel
theorem dX6_authorise_95 : decode cX6_authorise 95 = .ok (.ifCond .le 5, 3) := by decide +kernel
theorem dX6_authorise_98 : decode cX6_authorise 98 = .ok (.iconst 0, 1) := by decide +kernel
theorem dX6_authorise_99 : decode cX6_authorise 99 = .ok (.ireturn, 1) := by decide +kernel
theorem dX6_authorise_100 : decode cX6_authorise 100 = .ok (.aload_n 0, 1) := by decide +kernel
theorem dX6_authorise_101 : decode cX6_authorise 101 = .ok (.bipush 72, 2) := by decide +kernel
theorem dX6_authorise_103 : decode cX6_authorise 103 = .ok (.aload_n 0, 1) := by decide +kernel
theorem dX6_authorise_104 : decode cX6_authorise 104 = .ok (.getfield 59, 3) := by decide +kernel
theorem dX6_authorise_107 : decode cX6_authorise 107 = .ok (.iadd, 1) := by decide +kernel
theorem dX6_authorise_108 : decode cX6_authorise 108 = .ok (.iconst (-1), 1) := by decide +kernel
theorem dX6_authorise_109 : decode cX6_authorise 109 = .ok (.iconst (-1), 1) := by decide +kernel
theorem dX6_authorise_110 : decode cX6_authorise 110 = .ok (.iconst (-1), 1) := by decide +kernel
theorem dX6_authorise_111 : decode cX6_authorise 111 = .ok (.iconst (-1), 1) := by decide +kernel
theorem dX6_authorise_112 : decode cX6_authorise 112 = .ok (.iconst (-1), 1) := by decide +kernel
theorem dX6_authorise_113 : decode cX6_authorise 113 = .ok (.invokevirtual 90, 3) := by decide +kernel
theorem dX6_authorise_116 : decode cX6_authorise 116 = .ok (.aload_n 0, 1) := by decide +kernel
theorem dX6_authorise_117 : decode cX6_authorise 117 = .ok (.getfield 28, 3) := by decide +kernel
theorem dX6_authorise_120 : decode cX6_authorise 120 = .ok (.aload_n 0, 1) := by decide +kernel
theorem dX6_authorise_121 : decode cX6_authorise 121 = .ok (.getfield 59, 3) := by decide +kernel
theorem dX6_authorise_124 : decode cX6_authorise 124 = .ok (.aload_n 0, 1) := by decide +kernel
theorem dX6_authorise_125 : decode cX6_authorise 125 = .ok (.getfield 56, 3) := by decide +kernel
theorem dX6_authorise_128 : decode cX6_authorise 128 = .ok (.iastore, 1) := by decide +kernel
theorem dX6_authorise_129 : decode cX6_authorise 129 = .ok (.aload_n 0, 1) := by decide +kernel
theorem dX6_authorise_130 : decode cX6_authorise 130 = .ok (.bipush 6, 2) := by decide +kernel
theorem dX6_authorise_132 : decode cX6_authorise 132 = .ok (.iload_n 1, 1) := by decide +kernel
theorem dX6_authorise_133 : decode cX6_authorise 133 = .ok (.bipush 72, 2) := by decide +kernel
theorem dX6_authorise_135 : decode cX6_authorise 135 = .ok (.aload_n 0, 1) := by decide +kernel
theorem dX6_authorise_136 : decode cX6_authorise 136 = .ok (.getfield 59, 3) := by decide +kernel
theorem dX6_authorise_139 : decode cX6_authorise 139 = .ok (.iadd, 1) := by decide +kernel
theorem dX6_authorise_140 : decode cX6_authorise 140 = .ok (.invokevirtual 74, 3) := by decide +kernel
theorem dX6_authorise_143 : decode cX6_authorise 143 = .ok (.aload_n 0, 1) := by decide +kernel
theorem dX6_authorise_144 : decode cX6_authorise 144 = .ok (.getfield 59, 3) := by decide +kernel
theorem dX6_authorise_147 : decode cX6_authorise 147 = .ok (.iconst 1, 1) := by decide +kernel
theorem dX6_authorise_148 : decode cX6_authorise 148 = .ok (.isub, 1) := by decide +kernel
theorem dX6_authorise_149 : decode cX6_authorise 149 = .ok (.ireturn, 1) := by decide +kernel
theorem dX6_refund_0 : decode cX6_refund 0 = .ok (.aload_n 0, 1) := by decide +kernel
theorem dX6_refund_1 : decode cX6_refund 1 = .ok (.iload_n 1, 1) := by decide +kernel
theorem dX6_refund_2 : decode cX6_refund 2 = .ok (.iconst 0, 1) := by decide +kernel
theorem dX6_refund_3 : decode cX6_refund 3 = .ok (.aload_n 0, 1) := by decide +kernel
theorem dX6_refund_4 : decode cX6_refund 4 = .ok (.getfield 56, 3) := by decide +kernel
theorem dX6_refund_7 : decode cX6_refund 7 = .ok (.iconst 1, 1) := by decide +kernel
theorem dX6_refund_8 : decode cX6_refund 8 = .ok (.isub, 1) := by decide +kernel
theorem dX6_refund_9 : decode cX6_refund 9 = .ok (.invokestatic 48, 3) := by decide +kernel
theorem dX6_refund_12 : decode cX6_refund 12 = .ok (.ifCond .eq 7, 3) := by decide +kernel
theorem dX6_refund_15 : decode cX6_refund 15 = .ok (.iconst 0, 1) := by decide +kernel
theorem dX6_refund_16 : decode cX6_refund 16 = .ok (.goto 4, 3) := by decide +kernel
theorem dX6_refund_19 : decode cX6_refund 19 = .ok (.iconst 1, 1) := by decide +kernel
theorem dX6_refund_20 : decode cX6_refund 20 = .ok (.putfield 41, 3) := by decide +kernel
theorem dX6_refund_23 : decode cX6_refund 23 = .ok (.aload_n 0, 1) := by decide +kernel
theorem dX6_refund_24 : decode cX6_refund 24 = .ok (.getfield 41, 3) := by decide +kernel
theorem dX6_refund_27 : decode cX6_refund 27 = .ok (.ifCond .le 5, 3) := by decide +kernel
theorem dX6_refund_30 : decode cX6_refund 30 = .ok (.iconst 0, 1) := by decide +kernel
theorem dX6_refund_31 : decode cX6_refund 31 = .ok (.ireturn, 1) := by decide +kernel
theorem dX6_refund_32 : decode cX6_refund 32 = .ok (.sipush 872, 3) := by decide +kernel
theorem dX6_refund_35 : decode cX6_refund 35 = .ok (.iload_n 1, 1) := by decide +kernel
theorem dX6_refund_36 : decode cX6_refund 36 = .ok (.iadd, 1) := by decide +kernel
theorem dX6_refund_37 : decode cX6_refund 37 = .ok (.istore_n 2, 1) := by decide +kernel
theorem dX6_refund_38 : decode cX6_refund 38 = .ok (.aload_n 0, 1) := by decide +kernel
theorem dX6_refund_39 : decode cX6_refund 39 = .ok (.aload_n 0, 1) := by decide +kernel
theorem dX6_refund_40 : decode cX6_refund 40 = .ok (.iload_n 2, 1) := by decide +kernel
theorem dX6_refund_41 : decode cX6_refund 41 = .ok (.iconst 0, 1) := by decide +kernel
theorem dX6_refund_42 : decode cX6_refund 42 = .ok (.invokevirtual 70, 3) := by decide +kernel
theorem dX6_refund_45 : decode cX6_refund 45 = .ok (.iload_n 2, 1) := by decide +kernel
theorem dX6_refund_46 : decode cX6_refund 46 = .ok (.aload_n 0, 1) := by decide +kernel
theorem dX6_refund_47 : decode cX6_refund 47 = .ok (.getfield 56, 3) := by decide +kernel
theorem dX6_refund_50 : decode cX6_refund 50 = .ok (.invokevirtual 81, 3) := by decide +kernel
theorem dX6_refund_53 : decode cX6_refund 53 = .ok (.ifCond .eq 25, 3) := by decide +kernel
theorem dX6_refund_56 : decode cX6_refund 56 = .ok (.aload_n 0, 1) := by decide +kernel
theorem dX6_refund_57 : decode cX6_refund 57 = .ok (.aload_n 0, 1) := by decide +kernel
theorem dX6_refund_58 : decode cX6_refund 58 = .ok (.iload_n 2, 1) := by decide +kernel
theorem dX6_refund_59 : decode cX6_refund 59 = .ok (.iconst 2, 1) := by decide +kernel
theorem dX6_refund_60 : decode cX6_refund 60 = .ok (.invokevirtual 70, 3) := by decide +kernel
theorem dX6_refund_63 : decode cX6_refund 63 = .ok (.iload_n 2, 1) := by decide +kernel
theorem dX6_refund_64 : decode cX6_refund 64 = .ok (.aload_n 0, 1) := by decide +kernel
theorem dX6_refund_65 : decode cX6_refund 65 = .ok (.getfield 56, 3) := by decide +kernel
theorem dX6_refund_68 : decode cX6_refund 68 = .ok (.invokevirtual 81, 3) := by decide +kernel
theorem dX6_refund_71 : decode cX6_refund 71 = .ok (.ifCond .eq 7, 3) := by decide +kernel
theorem dX6_refund_74 : decode cX6_refund 74 = .ok (.iconst 1, 1) := by decide +kernel
theorem dX6_refund_75 : decode cX6_refund 75 = .ok (.goto 4, 3) := by decide +kernel
theorem dX6_refund_78 : decode cX6_refund 78 = .ok (.iconst 0, 1) := by decide +kernel
theorem dX6_refund_79 : decode cX6_refund 79 = .ok (.istore_n 3, 1) := by decide +kernel
theorem dX6_refund_80 : decode cX6_refund 80 = .ok (.aload_n 0, 1) := by decide +kernel
theorem dX6_refund_81 : decode cX6_refund 81 = .ok (.iload_n 3, 1) := by decide +kernel
theorem dX6_refund_82 : decode cX6_refund 82 = .ok (.ifCond .eq 15, 3) := by decide +kernel
theorem dX6_refund_85 : decode cX6_refund 85 = .ok (.aload_n 0, 1) := by decide +kernel
theorem dX6_refund_86 : decode cX6_refund 86 = .ok (.iload_n 2, 1) := by decide +kernel
theorem dX6_refund_87 : decode cX6_refund 87 = .ok (.invokevirtual 107, 3) := by decide +kernel
theorem dX6_refund_90 : decode cX6_refund 90 = .ok (.ifCond .ne 7, 3) := by decide +kernel
theorem dX6_refund_93 : decode cX6_refund 93 = .ok (.iconst 0, 1) := by decide +kernel
theorem dX6_refund_94 : decode cX6_refund 94 = .ok (.goto 4, 3) := by decide +kernel
theorem dX6_refund_97 : decode cX6_refund 97 = .ok (.iconst 2, 1) := by decide +kernel
theorem dX6_refund_98 : decode cX6_refund 98 = .ok (.putfield 41, 3) := by decide +kernel
theorem dX6_refund_101 : decode cX6_refund 101 = .ok (.aload_n 0, 1) := by decide +kernel
theorem dX6_refund_102 : decode cX6_refund 102 = .ok (.getfield 41, 3) := by decide +kernel
theorem dX6_refund_105 : decode cX6_refund 105 = .ok (.ifCond .le 5, 3) := by decide +kernel
theorem dX6_refund_108 : decode cX6_refund 108 = .ok (.iconst 0, 1) := by decide +kernel
theorem dX6_refund_109 : decode cX6_refund 109 = .ok (.ireturn, 1) := by decide +kernel
theorem dX6_refund_110 : decode cX6_refund 110 = .ok (.aload_n 0, 1) := by decide +kernel
theorem dX6_refund_111 : decode cX6_refund 111 = .ok (.getfield 34, 3) := by decide +kernel
theorem dX6_refund_114 : decode cX6_refund 114 = .ok (.iload_n 1, 1) := by decide +kernel
theorem dX6_refund_115 : decode cX6_refund 115 = .ok (.iconst 1, 1) := by decide +kernel
theorem dX6_refund_116 : decode cX6_refund 116 = .ok (.bastore, 1) := by decide +kernel
theorem dX6_refund_117 : decode cX6_refund 117 = .ok (.aload_n 0, 1) := by decide +kernel
theorem dX6_refund_118 : decode cX6_refund 118 = .ok (.getfield 7, 3) := by decide +kernel
theorem dX6_refund_121 : decode cX6_refund 121 = .ok (.aload_n 0, 1) := by decide +kernel
theorem dX6_refund_122 : decode cX6_refund 122 = .ok (.iload_n 2, 1) := by decide +kernel
theorem dX6_refund_123 : decode cX6_refund 123 = .ok (.iconst 0, 1) := by decide +kernel
theorem dX6_refund_124 : decode cX6_refund 124 = .ok (.invokevirtual 70, 3) := by decide +kernel
theorem dX6_refund_127 : decode cX6_refund 127 = .ok (.dup2, 1) := by decide +kernel
theorem dX6_refund_128 : decode cX6_refund 128 = .ok (.iaload, 1) := by decide +kernel
theorem dX6_refund_129 : decode cX6_refund 129 = .ok (.aload_n 0, 1) := by decide +kernel
theorem dX6_refund_130 : decode cX6_refund 130 = .ok (.iload_n 2, 1) := by decide +kernel
theorem dX6_refund_131 : decode cX6_refund 131 = .ok (.iconst 4, 1) := by decide +kernel
theorem dX6_refund_132 : decode cX6_refund 132 = .ok (.invokevirtual 70, 3) := by decide +kernel
theorem dX6_refund_135 : decode cX6_refund 135 = .ok (.iadd, 1) := by decide +kernel
theorem dX6_refund_136 : decode cX6_refund 136 = .ok (.iastore, 1) := by decide +kernel
theorem dX6_refund_137 : decode cX6_refund 137 = .ok (.aload_n 0, 1) := by decide +kernel
theorem dX6_refund_138 : decode cX6_refund 138 = .ok (.getfield 7, 3) := by decide +kernel
theorem dX6_refund_141 : decode cX6_refund 141 = .ok (.aload_n 0, 1) := by decide +kernel
theorem dX6_refund_142 : decode cX6_refund 142 = .ok (.iload_n 2, 1) := by decide +kernel
theorem dX6_refund_143 : decode cX6_refund 143 = .ok (.iconst 0, 1) := by decide +kernel
theorem dX6_refund_144 : decode cX6_refund 144 = .ok (.invokevirtual 70, 3) := by decide +kernel
theorem dX6_refund_147 : decode cX6_refund 147 = .ok (.iaload, 1) := by decide +kernel
theorem dX6_refund_148 : decode cX6_refund 148 = .ok (.ireturn, 1) := by decide +kernel
theorem dX6_told_0 : decode cX6_told 0 = .ok (.aload_n 0, 1) := by decide +kernel
theorem dX6_told_1 : decode cX6_told 1 = .ok (.aload_n 0, 1) := by decide +kernel
theorem dX6_told_2 : decode cX6_told 2 = .ok (.iload_n 1, 1) := by decide +kernel
theorem dX6_told_3 : decode cX6_told 3 = .ok (.invokevirtual 85, 3) := by decide +kernel
theorem dX6_told_6 : decode cX6_told 6 = .ok (.ifCond .ne 7, 3) := by decide +kernel
theorem dX6_told_9 : decode cX6_told 9 = .ok (.iconst 1, 1) := by decide +kernel
theorem dX6_told_10 : decode cX6_told 10 = .ok (.goto 17, 3) := by decide +kernel
theorem dX6_told_13 : decode cX6_told 13 = .ok (.iload_n 2, 1) := by decide +kernel
theorem dX6_told_14 : decode cX6_told 14 = .ok (.iconst 0, 1) := by decide +kernel
theorem dX6_told_15 : decode cX6_told 15 = .ok (.iconst 3, 1) := by decide +kernel
theorem dX6_told_16 : decode cX6_told 16 = .ok (.invokestatic 48, 3) := by decide +kernel
theorem dX6_told_19 : decode cX6_told 19 = .ok (.ifCond .eq 7, 3) := by decide +kernel
theorem dX6_told_22 : decode cX6_told 22 = .ok (.iconst 0, 1) := by decide +kernel
theorem dX6_told_23 : decode cX6_told 23 = .ok (.goto 4, 3) := by decide +kernel
theorem dX6_told_26 : decode cX6_told 26 = .ok (.iconst 2, 1) := by decide +kernel
theorem dX6_told_27 : decode cX6_told 27 = .ok (.putfield 41, 3) := by decide +kernel
theorem dX6_told_30 : decode cX6_told 30 = .ok (.aload_n 0, 1) := by decide +kernel
theorem dX6_told_31 : decode cX6_told 31 = .ok (.getfield 41, 3) := by decide +kernel
theorem dX6_told_34 : decode cX6_told 34 = .ok (.ifCond .le 5, 3) := by decide +kernel
theorem dX6_told_37 : decode cX6_told 37 = .ok (.iconst 0, 1) := by decide +kernel
theorem dX6_told_38 : decode cX6_told 38 = .ok (.ireturn, 1) := by decide +kernel
theorem dX6_told_39 : decode cX6_told 39 = .ok (.iload_n 2, 1) := by decide +kernel
theorem dX6_told_40 : decode cX6_told 40 = .ok (.ifCond .ne 12, 3) := by decide +kernel
theorem dX6_told_43 : decode cX6_told 43 = .ok (.aload_n 0, 1) := by decide +kernel
theorem dX6_told_44 : decode cX6_told 44 = .ok (.getfield 7, 3) := by decide +kernel
theorem dX6_told_47 : decode cX6_told 47 = .ok (.iload_n 1, 1) := by decide +kernel
theorem dX6_told_48 : decode cX6_told 48 = .ok (.iaload, 1) := by decide +kernel
theorem dX6_told_49 : decode cX6_told 49 = .ok (.goto 37, 3) := by decide +kernel
theorem dX6_told_52 : decode cX6_told 52 = .ok (.iload_n 2, 1) := by decide +kernel
theorem dX6_told_53 : decode cX6_told 53 = .ok (.iconst 1, 1) := by decide +kernel
theorem dX6_told_54 : decode cX6_told 54 = .ok (.if_icmp .ne 12, 3) := by decide +kernel
theorem dX6_told_57 : decode cX6_told 57 = .ok (.aload_n 0, 1) := by decide +kernel
theorem dX6_told_58 : decode cX6_told 58 = .ok (.getfield 13, 3) := by decide +kernel
theorem dX6_told_61 : decode cX6_told 61 = .ok (.iload_n 1, 1) := by decide +kernel
theorem dX6_told_62 : decode cX6_told 62 = .ok (.iaload, 1) := by decide +kernel
theorem dX6_told_63 : decode cX6_told 63 = .ok (.goto 23, 3) := by decide +kernel
theorem dX6_told_66 : decode cX6_told 66 = .ok (.iload_n 2, 1) := by decide +kernel
theorem dX6_told_67 : decode cX6_told 67 = .ok (.iconst 2, 1) := by decide +kernel
theorem dX6_told_68 : decode cX6_told 68 = .ok (.if_icmp .ne 12, 3) := by decide +kernel
theorem dX6_told_71 : decode cX6_told 71 = .ok (.aload_n 0, 1) := by decide +kernel
theorem dX6_told_72 : decode cX6_told 72 = .ok (.getfield 16, 3) := by decide +kernel
theorem dX6_told_75 : decode cX6_told 75 = .ok (.iload_n 1, 1) := by decide +kernel
theorem dX6_told_76 : decode cX6_told 76 = .ok (.iaload, 1) := by decide +kernel
theorem dX6_told_77 : decode cX6_told 77 = .ok (.goto 9, 3) := by decide +kernel
theorem dX6_told_80 : decode cX6_told 80 = .ok (.aload_n 0, 1) := by decide +kernel
theorem dX6_told_81 : decode cX6_told 81 = .ok (.getfield 19, 3) := by decide +kernel
theorem dX6_told_84 : decode cX6_told 84 = .ok (.iload_n 1, 1) := by decide +kernel
theorem dX6_told_85 : decode cX6_told 85 = .ok (.iaload, 1) := by decide +kernel
theorem dX6_told_86 : decode cX6_told 86 = .ok (.ireturn, 1) := by decide +kernel
theorem dX6_transfer_0 : decode cX6_transfer 0 = .ok (.aload_n 0, 1) := by decide +kernel
theorem dX6_transfer_1 : decode cX6_transfer 1 = .ok (.aload_n 0, 1) := by decide +kernel
theorem dX6_transfer_2 : decode cX6_transfer 2 = .ok (.iload_n 1, 1) := by decide +kernel
theorem dX6_transfer_3 : decode cX6_transfer 3 = .ok (.invokevirtual 85, 3) := by decide +kernel
theorem dX6_transfer_6 : decode cX6_transfer 6 = .ok (.ifCond .ne 7, 3) := by decide +kernel
theorem dX6_transfer_9 : decode cX6_transfer 9 = .ok (.iconst 1, 1) := by decide +kernel
theorem dX6_transfer_10 : decode cX6_transfer 10 = .ok (.goto 17, 3) := by decide +kernel
theorem dX6_transfer_13 : decode cX6_transfer 13 = .ok (.iload_n 2, 1) := by decide +kernel
theorem dX6_transfer_14 : decode cX6_transfer 14 = .ok (.iconst 0, 1) := by decide +kernel
theorem dX6_transfer_15 : decode cX6_transfer 15 = .ok (.iconst 4, 1) := by decide +kernel
theorem dX6_transfer_16 : decode cX6_transfer 16 = .ok (.invokestatic 48, 3) := by decide +kernel
theorem dX6_transfer_19 : decode cX6_transfer 19 = .ok (.ifCond .eq 7, 3) := by decide +kernel
theorem dX6_transfer_22 : decode cX6_transfer 22 = .ok (.iconst 0, 1) := by decide +kernel
theorem dX6_transfer_23 : decode cX6_transfer 23 = .ok (.goto 4, 3) := by decide +kernel
theorem dX6_transfer_26 : decode cX6_transfer 26 = .ok (.iconst 2, 1) := by decide +kernel
theorem dX6_transfer_27 : decode cX6_transfer 27 = .ok (.putfield 41, 3) := by decide +kernel
theorem dX6_transfer_30 : decode cX6_transfer 30 = .ok (.aload_n 0, 1) := by decide +kernel
theorem dX6_transfer_31 : decode cX6_transfer 31 = .ok (.getfield 41, 3) := by decide +kernel
theorem dX6_transfer_34 : decode cX6_transfer 34 = .ok (.ifCond .le 7, 3) := by decide +kernel
theorem dX6_transfer_37 : decode cX6_transfer 37 = .ok (.iconst 0, 1) := by decide +kernel
theorem dX6_transfer_38 : decode cX6_transfer 38 = .ok (.goto 22, 3) := by decide +kernel
theorem dX6_transfer_41 : decode cX6_transfer 41 = .ok (.aload_n 0, 1) := by decide +kernel
theorem dX6_transfer_42 : decode cX6_transfer 42 = .ok (.getfield 16, 3) := by decide +kernel
theorem dX6_transfer_45 : decode cX6_transfer 45 = .ok (.iload_n 1, 1) := by decide +kernel
theorem dX6_transfer_46 : decode cX6_transfer 46 = .ok (.iaload, 1) := by decide +kernel
theorem dX6_transfer_47 : decode cX6_transfer 47 = .ok (.ifCond .ne 7, 3) := by decide +kernel
theorem dX6_transfer_50 : decode cX6_transfer 50 = .ok (.iconst (-1), 1) := by decide +kernel
theorem dX6_transfer_51 : decode cX6_transfer 51 = .ok (.goto 9, 3) := by decide +kernel
theorem dX6_transfer_54 : decode cX6_transfer 54 = .ok (.aload_n 0, 1) := by decide +kernel
theorem dX6_transfer_55 : decode cX6_transfer 55 = .ok (.iload_n 1, 1) := by decide +kernel
theorem dX6_transfer_56 : decode cX6_transfer 56 = .ok (.iload_n 2, 1) := by decide +kernel
theorem dX6_transfer_57 : decode cX6_transfer 57 = .ok (.invokevirtual 70, 3) := by decide +kernel
theorem dX6_transfer_60 : decode cX6_transfer 60 = .ok (.ireturn, 1) := by decide +kernel
theorem dX6_log_0 : decode cX6_log 0 = .ok (.aload_n 0, 1) := by decide +kernel
theorem dX6_log_1 : decode cX6_log 1 = .ok (.aload_n 0, 1) := by decide +kernel
theorem dX6_log_2 : decode cX6_log 2 = .ok (.iload_n 1, 1) := by decide +kernel
theorem dX6_log_3 : decode cX6_log 3 = .ok (.invokevirtual 85, 3) := by decide +kernel
theorem dX6_log_6 : decode cX6_log 6 = .ok (.ifCond .ne 7, 3) := by decide +kernel
theorem dX6_log_9 : decode cX6_log 9 = .ok (.iconst 1, 1) := by decide +kernel
theorem dX6_log_10 : decode cX6_log 10 = .ok (.goto 37, 3) := by decide +kernel
theorem dX6_log_13 : decode cX6_log 13 = .ok (.iload_n 2, 1) := by decide +kernel
theorem dX6_log_14 : decode cX6_log 14 = .ok (.iconst 0, 1) := by decide +kernel
theorem dX6_log_15 : decode cX6_log 15 = .ok (.aload_n 0, 1) := by decide +kernel
theorem dX6_log_16 : decode cX6_log 16 = .ok (.getfield 19, 3) := by decide +kernel
theorem dX6_log_19 : decode cX6_log 19 = .ok (.iload_n 1, 1) := by decide +kernel
theorem dX6_log_20 : decode cX6_log 20 = .ok (.iaload, 1) := by decide +kernel
theorem dX6_log_21 : decode cX6_log 21 = .ok (.iconst 1, 1) := by decide +kernel
theorem dX6_log_22 : decode cX6_log 22 = .ok (.isub, 1) := by decide +kernel
theorem dX6_log_23 : decode cX6_log 23 = .ok (.invokestatic 48, 3) := by decide +kernel
theorem dX6_log_26 : decode cX6_log 26 = .ok (.ifCond .ne 7, 3) := by decide +kernel
theorem dX6_log_29 : decode cX6_log 29 = .ok (.iconst 1, 1) := by decide +kernel
theorem dX6_log_30 : decode cX6_log 30 = .ok (.goto 17, 3) := by decide +kernel
theorem dX6_log_33 : decode cX6_log 33 = .ok (.iload_n 3, 1) := by decide +kernel
theorem dX6_log_34 : decode cX6_log 34 = .ok (.iconst 0, 1) := by decide +kernel
theorem dX6_log_35 : decode cX6_log 35 = .ok (.iconst 4, 1) := by decide +kernel
theorem dX6_log_36 : decode cX6_log 36 = .ok (.invokestatic 48, 3) := by decide +kernel
theorem dX6_log_39 : decode cX6_log 39 = .ok (.ifCond .eq 7, 3) := by decide +kernel
theorem dX6_log_42 : decode cX6_log 42 = .ok (.iconst 0, 1) := by decide +kernel
theorem dX6_log_43 : decode cX6_log 43 = .ok (.goto 4, 3) := by decide +kernel
theorem dX6_log_46 : decode cX6_log 46 = .ok (.iconst 2, 1) := by decide +kernel
theorem dX6_log_47 : decode cX6_log 47 = .ok (.putfield 41, 3) := by decide +kernel
theorem dX6_log_50 : decode cX6_log 50 = .ok (.aload_n 0, 1) := by decide +kernel
theorem dX6_log_51 : decode cX6_log 51 = .ok (.getfield 41, 3) := by decide +kernel
theorem dX6_log_54 : decode cX6_log 54 = .ok (.ifCond .le 7, 3) := by decide +kernel
theorem dX6_log_57 : decode cX6_log 57 = .ok (.iconst 0, 1) := by decide +kernel
theorem dX6_log_58 : decode cX6_log 58 = .ok (.goto 16, 3) := by decide +kernel
theorem dX6_log_61 : decode cX6_log 61 = .ok (.aload_n 0, 1) := by decide +kernel
theorem dX6_log_62 : decode cX6_log 62 = .ok (.bipush 12, 2) := by decide +kernel
theorem dX6_log_64 : decode cX6_log 64 = .ok (.iconst 5, 1) := by decide +kernel
theorem dX6_log_65 : decode cX6_log 65 = .ok (.iload_n 1, 1) := by decide +kernel
theorem dX6_log_66 : decode cX6_log 66 = .ok (.imul, 1) := by decide +kernel
theorem dX6_log_67 : decode cX6_log 67 = .ok (.iadd, 1) := by decide +kernel
theorem dX6_log_68 : decode cX6_log 68 = .ok (.iload_n 2, 1) := by decide +kernel
theorem dX6_log_69 : decode cX6_log 69 = .ok (.iadd, 1) := by decide +kernel
theorem dX6_log_70 : decode cX6_log 70 = .ok (.iload_n 3, 1) := by decide +kernel
theorem dX6_log_71 : decode cX6_log 71 = .ok (.invokevirtual 70, 3) := by decide +kernel
theorem dX6_log_74 : decode cX6_log 74 = .ok (.ireturn, 1) := by decide +kernel
theorem dX6_messages_0 : decode cX6_messages 0 = .ok (.aload_n 0, 1) := by decide +kernel
theorem dX6_messages_1 : decode cX6_messages 1 = .ok (.iconst 0, 1) := by decide +kernel
theorem dX6_messages_2 : decode cX6_messages 2 = .ok (.putfield 41, 3) := by decide +kernel
theorem dX6_messages_5 : decode cX6_messages 5 = .ok (.aload_n 0, 1) := by decide +kernel
theorem dX6_messages_6 : decode cX6_messages 6 = .ok (.getfield 59, 3) := by decide +kernel
theorem dX6_messages_9 : decode cX6_messages 9 = .ok (.ireturn, 1) := by decide +kernel
theorem dX6_message_0 : decode cX6_message 0 = .ok (.aload_n 0, 1) := by decide +kernel
theorem dX6_message_1 : decode cX6_message 1 = .ok (.iload_n 1, 1) := by decide +kernel
theorem dX6_message_2 : decode cX6_message 2 = .ok (.iconst 0, 1) := by decide +kernel
theorem dX6_message_3 : decode cX6_message 3 = .ok (.aload_n 0, 1) := by decide +kernel
theorem dX6_message_4 : decode cX6_message 4 = .ok (.getfield 59, 3) := by decide +kernel
theorem dX6_message_7 : decode cX6_message 7 = .ok (.iconst 1, 1) := by decide +kernel
theorem dX6_message_8 : decode cX6_message 8 = .ok (.isub, 1) := by decide +kernel
theorem dX6_message_9 : decode cX6_message 9 = .ok (.invokestatic 48, 3) := by decide +kernel
theorem dX6_message_12 : decode cX6_message 12 = .ok (.ifCond .ne 7, 3) := by decide +kernel
theorem dX6_message_15 : decode cX6_message 15 = .ok (.iconst 1, 1) := by decide +kernel
theorem dX6_message_16 : decode cX6_message 16 = .ok (.goto 18, 3) := by decide +kernel
theorem dX6_message_19 : decode cX6_message 19 = .ok (.iload_n 2, 1) := by decide +kernel
theorem dX6_message_20 : decode cX6_message 20 = .ok (.iconst 0, 1) := by decide +kernel
theorem dX6_message_21 : decode cX6_message 21 = .ok (.bipush 6, 2) := by decide +kernel
theorem dX6_message_23 : decode cX6_message 23 = .ok (.invokestatic 48, 3) := by decide +kernel
theorem dX6_message_26 : decode cX6_message 26 = .ok (.ifCond .eq 7, 3) := by decide +kernel
theorem dX6_message_29 : decode cX6_message 29 = .ok (.iconst 0, 1) := by decide +kernel
theorem dX6_message_30 : decode cX6_message 30 = .ok (.goto 4, 3) := by decide +kernel
theorem dX6_message_33 : decode cX6_message 33 = .ok (.iconst 2, 1) := by decide +kernel
theorem dX6_message_34 : decode cX6_message 34 = .ok (.putfield 41, 3) := by decide +kernel
theorem dX6_message_37 : decode cX6_message 37 = .ok (.aload_n 0, 1) := by decide +kernel
theorem dX6_message_38 : decode cX6_message 38 = .ok (.getfield 41, 3) := by decide +kernel
theorem dX6_message_41 : decode cX6_message 41 = .ok (.ifCond .le 5, 3) := by decide +kernel
theorem dX6_message_44 : decode cX6_message 44 = .ok (.iconst 0, 1) := by decide +kernel
theorem dX6_message_45 : decode cX6_message 45 = .ok (.ireturn, 1) := by decide +kernel
theorem dX6_message_46 : decode cX6_message 46 = .ok (.iload_n 2, 1) := by decide +kernel
theorem dX6_message_47 : decode cX6_message 47 = .ok (.iconst 5, 1) := by decide +kernel
theorem dX6_message_48 : decode cX6_message 48 = .ok (.if_icmp .ge 15, 3) := by decide +kernel
theorem dX6_message_51 : decode cX6_message 51 = .ok (.aload_n 0, 1) := by decide +kernel
theorem dX6_message_52 : decode cX6_message 52 = .ok (.bipush 72, 2) := by decide +kernel
theorem dX6_message_54 : decode cX6_message 54 = .ok (.iload_n 1, 1) := by decide +kernel
theorem dX6_message_55 : decode cX6_message 55 = .ok (.iadd, 1) := by decide +kernel
theorem dX6_message_56 : decode cX6_message 56 = .ok (.iload_n 2, 1) := by decide +kernel
theorem dX6_message_57 : decode cX6_message 57 = .ok (.invokevirtual 70, 3) := by decide +kernel
theorem dX6_message_60 : decode cX6_message 60 = .ok (.goto 23, 3) := by decide +kernel
theorem dX6_message_63 : decode cX6_message 63 = .ok (.iload_n 2, 1) := by decide +kernel
theorem dX6_message_64 : decode cX6_message 64 = .ok (.iconst 5, 1) := by decide +kernel
theorem dX6_message_65 : decode cX6_message 65 = .ok (.if_icmp .ne 12, 3) := by decide +kernel
theorem dX6_message_68 : decode cX6_message 68 = .ok (.aload_n 0, 1) := by decide +kernel
theorem dX6_message_69 : decode cX6_message 69 = .ok (.getfield 22, 3) := by decide +kernel
theorem dX6_message_72 : decode cX6_message 72 = .ok (.iload_n 1, 1) := by decide +kernel
theorem dX6_message_73 : decode cX6_message 73 = .ok (.iaload, 1) := by decide +kernel
theorem dX6_message_74 : decode cX6_message 74 = .ok (.goto 9, 3) := by decide +kernel
theorem dX6_message_77 : decode cX6_message 77 = .ok (.aload_n 0, 1) := by decide +kernel
theorem dX6_message_78 : decode cX6_message 78 = .ok (.getfield 25, 3) := by decide +kernel
theorem dX6_message_81 : decode cX6_message 81 = .ok (.iload_n 1, 1) := by decide +kernel
theorem dX6_message_82 : decode cX6_message 82 = .ok (.iaload, 1) := by decide +kernel
theorem dX6_message_83 : decode cX6_message 83 = .ok (.ireturn, 1) := by decide +kernel
theorem dX6_entries_0 : decode cX6_entries 0 = .ok (.aload_n 0, 1) := by decide +kernel
theorem dX6_entries_1 : decode cX6_entries 1 = .ok (.iconst 0, 1) := by decide +kernel
theorem dX6_entries_2 : decode cX6_entries 2 = .ok (.putfield 41, 3) := by decide +kernel
theorem dX6_entries_5 : decode cX6_entries 5 = .ok (.aload_n 0, 1) := by decide +kernel
theorem dX6_entries_6 : decode cX6_entries 6 = .ok (.getfield 56, 3) := by decide +kernel
theorem dX6_entries_9 : decode cX6_entries 9 = .ok (.ireturn, 1) := by decide +kernel
theorem dX6_entry_0 : decode cX6_entry 0 = .ok (.aload_n 0, 1) := by decide +kernel
theorem dX6_entry_1 : decode cX6_entry 1 = .ok (.iload_n 1, 1) := by decide +kernel
theorem dX6_entry_2 : decode cX6_entry 2 = .ok (.iconst 0, 1) := by decide +kernel
theorem dX6_entry_3 : decode cX6_entry 3 = .ok (.aload_n 0, 1) := by decide +kernel
theorem dX6_entry_4 : decode cX6_entry 4 = .ok (.getfield 56, 3) := by decide +kernel
theorem dX6_entry_7 : decode cX6_entry 7 = .ok (.iconst 1, 1) := by decide +kernel
theorem dX6_entry_8 : decode cX6_entry 8 = .ok (.isub, 1) := by decide +kernel
theorem dX6_entry_9 : decode cX6_entry 9 = .ok (.invokestatic 48, 3) := by decide +kernel
theorem dX6_entry_12 : decode cX6_entry 12 = .ok (.ifCond .ne 7, 3) := by decide +kernel
theorem dX6_entry_15 : decode cX6_entry 15 = .ok (.iconst 1, 1) := by decide +kernel
theorem dX6_entry_16 : decode cX6_entry 16 = .ok (.goto 18, 3) := by decide +kernel
theorem dX6_entry_19 : decode cX6_entry 19 = .ok (.iload_n 2, 1) := by decide +kernel
theorem dX6_entry_20 : decode cX6_entry 20 = .ok (.iconst 0, 1) := by decide +kernel
theorem dX6_entry_21 : decode cX6_entry 21 = .ok (.bipush 6, 2) := by decide +kernel
theorem dX6_entry_23 : decode cX6_entry 23 = .ok (.invokestatic 48, 3) := by decide +kernel
theorem dX6_entry_26 : decode cX6_entry 26 = .ok (.ifCond .eq 7, 3) := by decide +kernel
theorem dX6_entry_29 : decode cX6_entry 29 = .ok (.iconst 0, 1) := by decide +kernel
theorem dX6_entry_30 : decode cX6_entry 30 = .ok (.goto 4, 3) := by decide +kernel
theorem dX6_entry_33 : decode cX6_entry 33 = .ok (.iconst 2, 1) := by decide +kernel
theorem dX6_entry_34 : decode cX6_entry 34 = .ok (.putfield 41, 3) := by decide +kernel
theorem dX6_entry_37 : decode cX6_entry 37 = .ok (.aload_n 0, 1) := by decide +kernel
theorem dX6_entry_38 : decode cX6_entry 38 = .ok (.getfield 41, 3) := by decide +kernel
theorem dX6_entry_41 : decode cX6_entry 41 = .ok (.ifCond .le 5, 3) := by decide +kernel
theorem dX6_entry_44 : decode cX6_entry 44 = .ok (.iconst 0, 1) := by decide +kernel
theorem dX6_entry_45 : decode cX6_entry 45 = .ok (.ireturn, 1) := by decide +kernel
theorem dX6_entry_46 : decode cX6_entry 46 = .ok (.iload_n 2, 1) := by decide +kernel
theorem dX6_entry_47 : decode cX6_entry 47 = .ok (.iconst 5, 1) := by decide +kernel
theorem dX6_entry_48 : decode cX6_entry 48 = .ok (.if_icmp .ge 16, 3) := by decide +kernel
theorem dX6_entry_51 : decode cX6_entry 51 = .ok (.aload_n 0, 1) := by decide +kernel
theorem dX6_entry_52 : decode cX6_entry 52 = .ok (.sipush 872, 3) := by decide +kernel
theorem dX6_entry_55 : decode cX6_entry 55 = .ok (.iload_n 1, 1) := by decide +kernel
theorem dX6_entry_56 : decode cX6_entry 56 = .ok (.iadd, 1) := by decide +kernel
theorem dX6_entry_57 : decode cX6_entry 57 = .ok (.iload_n 2, 1) := by decide +kernel
theorem dX6_entry_58 : decode cX6_entry 58 = .ok (.invokevirtual 70, 3) := by decide +kernel
theorem dX6_entry_61 : decode cX6_entry 61 = .ok (.goto 34, 3) := by decide +kernel
theorem dX6_entry_64 : decode cX6_entry 64 = .ok (.iload_n 2, 1) := by decide +kernel
theorem dX6_entry_65 : decode cX6_entry 65 = .ok (.iconst 5, 1) := by decide +kernel
theorem dX6_entry_66 : decode cX6_entry 66 = .ok (.if_icmp .ne 12, 3) := by decide +kernel
theorem dX6_entry_69 : decode cX6_entry 69 = .ok (.aload_n 0, 1) := by decide +kernel
theorem dX6_entry_70 : decode cX6_entry 70 = .ok (.getfield 31, 3) := by decide +kernel
theorem dX6_entry_73 : decode cX6_entry 73 = .ok (.iload_n 1, 1) := by decide +kernel
theorem dX6_entry_74 : decode cX6_entry 74 = .ok (.iaload, 1) := by decide +kernel
theorem dX6_entry_75 : decode cX6_entry 75 = .ok (.goto 20, 3) := by decide +kernel
theorem dX6_entry_78 : decode cX6_entry 78 = .ok (.aload_n 0, 1) := by decide +kernel
theorem dX6_entry_79 : decode cX6_entry 79 = .ok (.sipush 872, 3) := by decide +kernel
theorem dX6_entry_82 : decode cX6_entry 82 = .ok (.iload_n 1, 1) := by decide +kernel
theorem dX6_entry_83 : decode cX6_entry 83 = .ok (.iadd, 1) := by decide +kernel
theorem dX6_entry_84 : decode cX6_entry 84 = .ok (.invokevirtual 107, 3) := by decide +kernel
theorem dX6_entry_87 : decode cX6_entry 87 = .ok (.ifCond .eq 7, 3) := by decide +kernel
theorem dX6_entry_90 : decode cX6_entry 90 = .ok (.iconst 1, 1) := by decide +kernel
theorem dX6_entry_91 : decode cX6_entry 91 = .ok (.goto 4, 3) := by decide +kernel
theorem dX6_entry_94 : decode cX6_entry 94 = .ok (.iconst 0, 1) := by decide +kernel
theorem dX6_entry_95 : decode cX6_entry 95 = .ok (.ireturn, 1) := by decide +kernel
theorem dX6_balances_0 : decode cX6_balances 0 = .ok (.aload_n 0, 1) := by decide +kernel
theorem dX6_balances_1 : decode cX6_balances 1 = .ok (.iconst 0, 1) := by decide +kernel
theorem dX6_balances_2 : decode cX6_balances 2 = .ok (.putfield 41, 3) := by decide +kernel
theorem dX6_balances_5 : decode cX6_balances 5 = .ok (.lconst 0, 1) := by decide +kernel
theorem dX6_balances_6 : decode cX6_balances 6 = .ok (.lstore_n 1, 1) := by decide +kernel
theorem dX6_balances_7 : decode cX6_balances 7 = .ok (.iconst 0, 1) := by decide +kernel
theorem dX6_balances_8 : decode cX6_balances 8 = .ok (.istore_n 3, 1) := by decide +kernel
theorem dX6_balances_9 : decode cX6_balances 9 = .ok (.iload_n 3, 1) := by decide +kernel
theorem dX6_balances_10 : decode cX6_balances 10 = .ok (.aload_n 0, 1) := by decide +kernel
theorem dX6_balances_11 : decode cX6_balances 11 = .ok (.getfield 45, 3) := by decide +kernel
theorem dX6_balances_14 : decode cX6_balances 14 = .ok (.if_icmp .ge 19, 3) := by decide +kernel
theorem dX6_balances_17 : decode cX6_balances 17 = .ok (.lload_n 1, 1) := by decide +kernel
theorem dX6_balances_18 : decode cX6_balances 18 = .ok (.aload_n 0, 1) := by decide +kernel
theorem dX6_balances_19 : decode cX6_balances 19 = .ok (.getfield 7, 3) := by decide +kernel
theorem dX6_balances_22 : decode cX6_balances 22 = .ok (.iload_n 3, 1) := by decide +kernel
theorem dX6_balances_23 : decode cX6_balances 23 = .ok (.iaload, 1) := by decide +kernel
theorem dX6_balances_24 : decode cX6_balances 24 = .ok (.i2l, 1) := by decide +kernel
theorem dX6_balances_25 : decode cX6_balances 25 = .ok (.ladd, 1) := by decide +kernel
theorem dX6_balances_26 : decode cX6_balances 26 = .ok (.lstore_n 1, 1) := by decide +kernel
theorem dX6_balances_27 : decode cX6_balances 27 = .ok (.iinc 3 1, 3) := by decide +kernel
theorem dX6_balances_30 : decode cX6_balances 30 = .ok (.goto (-21), 3) := by decide +kernel
theorem dX6_balances_33 : decode cX6_balances 33 = .ok (.lload_n 1, 1) := by decide +kernel
theorem dX6_balances_34 : decode cX6_balances 34 = .ok (.lreturn, 1) := by decide +kernel
theorem dX6_holds_0 : decode cX6_holds 0 = .ok (.aload_n 0, 1) := by decide +kernel
theorem dX6_holds_1 : decode cX6_holds 1 = .ok (.getfield 16, 3) := by decide +kernel
theorem dX6_holds_4 : decode cX6_holds 4 = .ok (.iload_n 1, 1) := by decide +kernel
theorem dX6_holds_5 : decode cX6_holds 5 = .ok (.iaload, 1) := by decide +kernel
theorem dX6_holds_6 : decode cX6_holds 6 = .ok (.iconst 2, 1) := by decide +kernel
theorem dX6_holds_7 : decode cX6_holds 7 = .ok (.if_icmp .lt 12, 3) := by decide +kernel
theorem dX6_holds_10 : decode cX6_holds 10 = .ok (.aload_n 0, 1) := by decide +kernel
theorem dX6_holds_11 : decode cX6_holds 11 = .ok (.iload_n 1, 1) := by decide +kernel
theorem dX6_holds_12 : decode cX6_holds 12 = .ok (.iload_n 2, 1) := by decide +kernel
theorem dX6_holds_13 : decode cX6_holds 13 = .ok (.invokevirtual 52, 3) := by decide +kernel
theorem dX6_holds_16 : decode cX6_holds 16 = .ok (.ifCond .ne 25, 3) := by decide +kernel
theorem dX6_holds_19 : decode cX6_holds 19 = .ok (.aload_n 0, 1) := by decide +kernel
theorem dX6_holds_20 : decode cX6_holds 20 = .ok (.iload_n 1, 1) := by decide +kernel
theorem dX6_holds_21 : decode cX6_holds 21 = .ok (.iload_n 2, 1) := by decide +kernel
theorem dX6_holds_22 : decode cX6_holds 22 = .ok (.invokevirtual 110, 3) := by decide +kernel
theorem dX6_holds_25 : decode cX6_holds 25 = .ok (.ifCond .ne 16, 3) := by decide +kernel
theorem dX6_holds_28 : decode cX6_holds 28 = .ok (.aload_n 0, 1) := by decide +kernel
theorem dX6_holds_29 : decode cX6_holds 29 = .ok (.iload_n 1, 1) := by decide +kernel
theorem dX6_holds_30 : decode cX6_holds 30 = .ok (.iload_n 2, 1) := by decide +kernel
theorem dX6_holds_31 : decode cX6_holds 31 = .ok (.aload_n 0, 1) := by decide +kernel
theorem dX6_holds_32 : decode cX6_holds 32 = .ok (.getfield 56, 3) := by decide +kernel
theorem dX6_holds_35 : decode cX6_holds 35 = .ok (.invokevirtual 81, 3) := by decide +kernel
theorem dX6_holds_38 : decode cX6_holds 38 = .ok (.ifCond .eq 7, 3) := by decide +kernel
theorem dX6_holds_41 : decode cX6_holds 41 = .ok (.iconst 1, 1) := by decide +kernel
theorem dX6_holds_42 : decode cX6_holds 42 = .ok (.goto 4, 3) := by decide +kernel
theorem dX6_holds_45 : decode cX6_holds 45 = .ok (.iconst 0, 1) := by decide +kernel
theorem dX6_holds_46 : decode cX6_holds 46 = .ok (.ireturn, 1) := by decide +kernel
theorem dX6_amountOf_0 : decode cX6_amountOf 0 = .ok (.aload_n 0, 1) := by decide +kernel
theorem dX6_amountOf_1 : decode cX6_amountOf 1 = .ok (.iload_n 1, 1) := by decide +kernel
theorem dX6_amountOf_2 : decode cX6_amountOf 2 = .ok (.iconst 0, 1) := by decide +kernel
theorem dX6_amountOf_3 : decode cX6_amountOf 3 = .ok (.invokevirtual 70, 3) := by decide +kernel
theorem dX6_amountOf_6 : decode cX6_amountOf 6 = .ok (.iload_n 2, 1) := by decide +kernel
theorem dX6_amountOf_7 : decode cX6_amountOf 7 = .ok (.if_icmp .ne 29, 3) := by decide +kernel
theorem dX6_amountOf_10 : decode cX6_amountOf 10 = .ok (.aload_n 0, 1) := by decide +kernel
theorem dX6_amountOf_11 : decode cX6_amountOf 11 = .ok (.iload_n 1, 1) := by decide +kernel
theorem dX6_amountOf_12 : decode cX6_amountOf 12 = .ok (.invokevirtual 107, 3) := by decide +kernel
theorem dX6_amountOf_15 : decode cX6_amountOf 15 = .ok (.ifCond .ne 21, 3) := by decide +kernel
theorem dX6_amountOf_18 : decode cX6_amountOf 18 = .ok (.aload_n 0, 1) := by decide +kernel
theorem dX6_amountOf_19 : decode cX6_amountOf 19 = .ok (.aload_n 0, 1) := by decide +kernel
theorem dX6_amountOf_20 : decode cX6_amountOf 20 = .ok (.iload_n 1, 1) := by decide +kernel
theorem dX6_amountOf_21 : decode cX6_amountOf 21 = .ok (.iconst 2, 1) := by decide +kernel
theorem dX6_amountOf_22 : decode cX6_amountOf 22 = .ok (.invokevirtual 70, 3) := by decide +kernel
theorem dX6_amountOf_25 : decode cX6_amountOf 25 = .ok (.iload_n 1, 1) := by decide +kernel
theorem dX6_amountOf_26 : decode cX6_amountOf 26 = .ok (.invokevirtual 113, 3) := by decide +kernel
theorem dX6_amountOf_29 : decode cX6_amountOf 29 = .ok (.ifCond .eq 7, 3) := by decide +kernel
theorem dX6_amountOf_32 : decode cX6_amountOf 32 = .ok (.iconst 1, 1) := by decide +kernel
theorem dX6_amountOf_33 : decode cX6_amountOf 33 = .ok (.goto 4, 3) := by decide +kernel
theorem dX6_amountOf_36 : decode cX6_amountOf 36 = .ok (.iconst 0, 1) := by decide +kernel
theorem dX6_amountOf_37 : decode cX6_amountOf 37 = .ok (.istore_n 3, 1) := by decide +kernel
theorem dX6_amountOf_38 : decode cX6_amountOf 38 = .ok (.iload_n 3, 1) := by decide +kernel
theorem dX6_amountOf_39 : decode cX6_amountOf 39 = .ok (.ifCond .eq 13, 3) := by decide +kernel
theorem dX6_amountOf_42 : decode cX6_amountOf 42 = .ok (.aload_n 0, 1) := by decide +kernel
theorem dX6_amountOf_43 : decode cX6_amountOf 43 = .ok (.iload_n 1, 1) := by decide +kernel
theorem dX6_amountOf_44 : decode cX6_amountOf 44 = .ok (.iconst 4, 1) := by decide +kernel
theorem dX6_amountOf_45 : decode cX6_amountOf 45 = .ok (.invokevirtual 70, 3) := by decide +kernel
theorem dX6_amountOf_48 : decode cX6_amountOf 48 = .ok (.i2l, 1) := by decide +kernel
theorem dX6_amountOf_49 : decode cX6_amountOf 49 = .ok (.goto 4, 3) := by decide +kernel
theorem dX6_amountOf_52 : decode cX6_amountOf 52 = .ok (.lconst 0, 1) := by decide +kernel
theorem dX6_amountOf_53 : decode cX6_amountOf 53 = .ok (.lreturn, 1) := by decide +kernel
theorem dX6_pending_0 : decode cX6_pending 0 = .ok (.aload_n 0, 1) := by decide +kernel
theorem dX6_pending_1 : decode cX6_pending 1 = .ok (.iconst 0, 1) := by decide +kernel
theorem dX6_pending_2 : decode cX6_pending 2 = .ok (.putfield 41, 3) := by decide +kernel
theorem dX6_pending_5 : decode cX6_pending 5 = .ok (.lconst 0, 1) := by decide +kernel
theorem dX6_pending_6 : decode cX6_pending 6 = .ok (.lstore_n 1, 1) := by decide +kernel
theorem dX6_pending_7 : decode cX6_pending 7 = .ok (.iconst 0, 1) := by decide +kernel
theorem dX6_pending_8 : decode cX6_pending 8 = .ok (.istore_n 3, 1) := by decide +kernel
theorem dX6_pending_9 : decode cX6_pending 9 = .ok (.iload_n 3, 1) := by decide +kernel
theorem dX6_pending_10 : decode cX6_pending 10 = .ok (.aload_n 0, 1) := by decide +kernel
theorem dX6_pending_11 : decode cX6_pending 11 = .ok (.getfield 45, 3) := by decide +kernel
theorem dX6_pending_14 : decode cX6_pending 14 = .ok (.if_icmp .ge 69, 3) := by decide +kernel
theorem dX6_pending_17 : decode cX6_pending 17 = .ok (.lload_n 1, 1) := by decide +kernel
theorem dX6_pending_18 : decode cX6_pending 18 = .ok (.aload_n 0, 1) := by decide +kernel
theorem dX6_pending_19 : decode cX6_pending 19 = .ok (.getfield 16, 3) := by decide +kernel
theorem dX6_pending_22 : decode cX6_pending 22 = .ok (.iload_n 3, 1) := by decide +kernel
theorem dX6_pending_23 : decode cX6_pending 23 = .ok (.iaload, 1) := by decide +kernel
theorem dX6_pending_24 : decode cX6_pending 24 = .ok (.iconst 3, 1) := by decide +kernel
theorem dX6_pending_25 : decode cX6_pending 25 = .ok (.if_icmp .ne 12, 3) := by decide +kernel
theorem dX6_pending_28 : decode cX6_pending 28 = .ok (.aload_n 0, 1) := by decide +kernel
theorem dX6_pending_29 : decode cX6_pending 29 = .ok (.iload_n 3, 1) := by decide +kernel
theorem dX6_pending_30 : decode cX6_pending 30 = .ok (.iload_n 3, 1) := by decide +kernel
theorem dX6_pending_31 : decode cX6_pending 31 = .ok (.invokevirtual 116, 3) := by decide +kernel
theorem dX6_pending_34 : decode cX6_pending 34 = .ok (.goto 4, 3) := by decide +kernel
theorem dX6_pending_37 : decode cX6_pending 37 = .ok (.lconst 0, 1) := by decide +kernel
theorem dX6_pending_38 : decode cX6_pending 38 = .ok (.ladd, 1) := by decide +kernel
theorem dX6_pending_39 : decode cX6_pending 39 = .ok (.lstore_n 1, 1) := by decide +kernel
theorem dX6_pending_40 : decode cX6_pending 40 = .ok (.iconst 0, 1) := by decide +kernel
theorem dX6_pending_41 : decode cX6_pending 41 = .ok (.istore 4, 2) := by decide +kernel
theorem dX6_pending_43 : decode cX6_pending 43 = .ok (.iload 4, 2) := by decide +kernel
theorem dX6_pending_45 : decode cX6_pending 45 = .ok (.aload_n 0, 1) := by decide +kernel
theorem dX6_pending_46 : decode cX6_pending 46 = .ok (.getfield 19, 3) := by decide +kernel
theorem dX6_pending_49 : decode cX6_pending 49 = .ok (.iload_n 3, 1) := by decide +kernel
theorem dX6_pending_50 : decode cX6_pending 50 = .ok (.iaload, 1) := by decide +kernel
theorem dX6_pending_51 : decode cX6_pending 51 = .ok (.if_icmp .ge 26, 3) := by decide +kernel
theorem dX6_pending_54 : decode cX6_pending 54 = .ok (.lload_n 1, 1) := by decide +kernel
theorem dX6_pending_55 : decode cX6_pending 55 = .ok (.aload_n 0, 1) := by decide +kernel
theorem dX6_pending_56 : decode cX6_pending 56 = .ok (.bipush 12, 2) := by decide +kernel
theorem dX6_pending_58 : decode cX6_pending 58 = .ok (.iconst 5, 1) := by decide +kernel
theorem dX6_pending_59 : decode cX6_pending 59 = .ok (.iload_n 3, 1) := by decide +kernel
theorem dX6_pending_60 : decode cX6_pending 60 = .ok (.imul, 1) := by decide +kernel
theorem dX6_pending_61 : decode cX6_pending 61 = .ok (.iadd, 1) := by decide +kernel
theorem dX6_pending_62 : decode cX6_pending 62 = .ok (.iload 4, 2) := by decide +kernel
theorem dX6_pending_64 : decode cX6_pending 64 = .ok (.iadd, 1) := by decide +kernel
theorem dX6_pending_65 : decode cX6_pending 65 = .ok (.iload_n 3, 1) := by decide +kernel
theorem dX6_pending_66 : decode cX6_pending 66 = .ok (.invokevirtual 116, 3) := by decide +kernel
theorem dX6_pending_69 : decode cX6_pending 69 = .ok (.ladd, 1) := by decide +kernel
theorem dX6_pending_70 : decode cX6_pending 70 = .ok (.lstore_n 1, 1) := by decide +kernel
theorem dX6_pending_71 : decode cX6_pending 71 = .ok (.iinc 4 1, 3) := by decide +kernel
theorem dX6_pending_74 : decode cX6_pending 74 = .ok (.goto (-31), 3) := by decide +kernel
theorem dX6_pending_77 : decode cX6_pending 77 = .ok (.iinc 3 1, 3) := by decide +kernel
theorem dX6_pending_80 : decode cX6_pending 80 = .ok (.goto (-71), 3) := by decide +kernel
theorem dX6_pending_83 : decode cX6_pending 83 = .ok (.iconst 0, 1) := by decide +kernel
theorem dX6_pending_84 : decode cX6_pending 84 = .ok (.istore_n 3, 1) := by decide +kernel
theorem dX6_pending_85 : decode cX6_pending 85 = .ok (.iload_n 3, 1) := by decide +kernel
theorem dX6_pending_86 : decode cX6_pending 86 = .ok (.aload_n 0, 1) := by decide +kernel
theorem dX6_pending_87 : decode cX6_pending 87 = .ok (.getfield 56, 3) := by decide +kernel
theorem dX6_pending_90 : decode cX6_pending 90 = .ok (.if_icmp .ge 49, 3) := by decide +kernel
theorem dX6_pending_93 : decode cX6_pending 93 = .ok (.lload_n 1, 1) := by decide +kernel
theorem dX6_pending_94 : decode cX6_pending 94 = .ok (.aload_n 0, 1) := by decide +kernel
theorem dX6_pending_95 : decode cX6_pending 95 = .ok (.aload_n 0, 1) := by decide +kernel
theorem dX6_pending_96 : decode cX6_pending 96 = .ok (.getfield 31, 3) := by decide +kernel
theorem dX6_pending_99 : decode cX6_pending 99 = .ok (.iload_n 3, 1) := by decide +kernel
theorem dX6_pending_100 : decode cX6_pending 100 = .ok (.iaload, 1) := by decide +kernel
theorem dX6_pending_101 : decode cX6_pending 101 = .ok (.sipush 872, 3) := by decide +kernel
theorem dX6_pending_104 : decode cX6_pending 104 = .ok (.iload_n 3, 1) := by decide +kernel
theorem dX6_pending_105 : decode cX6_pending 105 = .ok (.iadd, 1) := by decide +kernel
theorem dX6_pending_106 : decode cX6_pending 106 = .ok (.invokevirtual 110, 3) := by decide +kernel
theorem dX6_pending_109 : decode cX6_pending 109 = .ok (.ifCond .eq 7, 3) := by decide +kernel
theorem dX6_pending_112 : decode cX6_pending 112 = .ok (.lconst 0, 1) := by decide +kernel
theorem dX6_pending_113 : decode cX6_pending 113 = .ok (.goto 18, 3) := by decide +kernel
theorem dX6_pending_116 : decode cX6_pending 116 = .ok (.aload_n 0, 1) := by decide +kernel
theorem dX6_pending_117 : decode cX6_pending 117 = .ok (.sipush 872, 3) := by decide +kernel
theorem dX6_pending_120 : decode cX6_pending 120 = .ok (.iload_n 3, 1) := by decide +kernel
theorem dX6_pending_121 : decode cX6_pending 121 = .ok (.iadd, 1) := by decide +kernel
theorem dX6_pending_122 : decode cX6_pending 122 = .ok (.aload_n 0, 1) := by decide +kernel
theorem dX6_pending_123 : decode cX6_pending 123 = .ok (.getfield 31, 3) := by decide +kernel
theorem dX6_pending_126 : decode cX6_pending 126 = .ok (.iload_n 3, 1) := by decide +kernel
theorem dX6_pending_127 : decode cX6_pending 127 = .ok (.iaload, 1) := by decide +kernel
theorem dX6_pending_128 : decode cX6_pending 128 = .ok (.invokevirtual 116, 3) := by decide +kernel
theorem dX6_pending_131 : decode cX6_pending 131 = .ok (.ladd, 1) := by decide +kernel
theorem dX6_pending_132 : decode cX6_pending 132 = .ok (.lstore_n 1, 1) := by decide +kernel
theorem dX6_pending_133 : decode cX6_pending 133 = .ok (.iinc 3 1, 3) := by decide +kernel
theorem dX6_pending_136 : decode cX6_pending 136 = .ok (.goto (-51), 3) := by decide +kernel
theorem dX6_pending_139 : decode cX6_pending 139 = .ok (.lload_n 1, 1) := by decide +kernel
theorem dX6_pending_140 : decode cX6_pending 140 = .ok (.lreturn, 1) := by decide +kernel
theorem dX6_purses_0 : decode cX6_purses 0 = .ok (.aload_n 0, 1) := by decide +kernel
theorem dX6_purses_1 : decode cX6_purses 1 = .ok (.iconst 0, 1) := by decide +kernel
theorem dX6_purses_2 : decode cX6_purses 2 = .ok (.putfield 41, 3) := by decide +kernel
theorem dX6_purses_5 : decode cX6_purses 5 = .ok (.aload_n 0, 1) := by decide +kernel
theorem dX6_purses_6 : decode cX6_purses 6 = .ok (.getfield 45, 3) := by decide +kernel
theorem dX6_purses_9 : decode cX6_purses 9 = .ok (.ireturn, 1) := by decide +kernel
end
section
set_option maxRecDepth 20000 in
theorem ggX6_isPurse_X6_in : GoodIn wsX6_isPurse wsX6_in := goodIn_r _ [5] (by decide +kernel) (by decide +kernel)
set_option maxRecDepth 20000 in
theorem gX6_isPurse_X6_in : GoodIn wsX6_isPurse (va_wsS RX6 48 yX6_in wsX6_in) := goodIn_app (goodIn_of _ (by decide +kernel)) ggX6_isPurse_X6_in
set_option maxRecDepth 20000 in
theorem ggX6_isInLog_X6_same : GoodIn wsX6_isInLog wsX6_same := goodIn_r _ [6, 7, 8, 9, 10, 11, 12, 13, 14, 15, 16, 17, 18, 19, 20, 21] (by decide +kernel) (by decide +kernel)
set_option maxRecDepth 20000 in
theorem gX6_isInLog_X6_same : GoodIn wsX6_isInLog (wsV RX6 52 RX6 yX6_same wsX6_same) := goodIn_app (goodIn_of _ (by decide +kernel)) ggX6_isInLog_X6_same
set_option maxRecDepth 20000 in
theorem ggX6_isKept_X6_same : GoodIn wsX6_isKept wsX6_same := goodIn_r _ [6, 7, 8, 9, 10, 11, 12, 13, 14, 15, 16, 17, 18, 19, 20, 21] (by decide +kernel) (by decide +kernel)
set_option maxRecDepth 20000 in
theorem gX6_isKept_X6_same : GoodIn wsX6_isKept (wsV RX6 52 RX6 yX6_same wsX6_same) := goodIn_app (goodIn_of _ (by decide +kernel)) ggX6_isKept_X6_same
set_option maxRecDepth 20000 in
theorem ggX6_isRefunded_X6_same : GoodIn wsX6_isRefunded wsX6_same := goodIn_r _ [7, 8, 9, 10, 11, 12, 13, 14, 15, 16, 17, 18, 19, 20, 21, 22] (by decide +kernel) (by decide +kernel)
set_option maxRecDepth 20000 in
theorem gX6_isRefunded_X6_same : GoodIn wsX6_isRefunded (wsV RX6 52 RX6 yX6_same wsX6_same) := goodIn_app (goodIn_of _ (by decide +kernel)) ggX6_isRefunded_X6_same
set_option maxRecDepth 20000 in
theorem ggX6_send_X6_copy : GoodIn wsX6_send wsX6_copy := goodIn_r _ [8, 9, 10, 11, 12, 13, 14, 15, 16, 17, 18, 19, 20, 21, 22, 23] (by decide +kernel) (by decide +kernel)
set_option maxRecDepth 20000 in
theorem gX6_send_X6_copy : GoodIn wsX6_send (wsV RX6 62 RX6 yX6_copy wsX6_copy) := goodIn_app (goodIn_of _ (by decide +kernel)) ggX6_send_X6_copy
set_option maxRecDepth 20000 in
theorem ggX6_endIt_X6_copy : GoodIn wsX6_endIt wsX6_copy := goodIn_r _ [8, 9, 10, 11, 12, 13, 14, 15, 16, 17, 18, 19, 20, 21, 22, 23] (by decide +kernel) (by decide +kernel)
set_option maxRecDepth 20000 in
theorem gX6_endIt_X6_copy : GoodIn wsX6_endIt (wsV RX6 62 RX6 yX6_copy wsX6_copy) := goodIn_app (goodIn_of _ (by decide +kernel)) ggX6_endIt_X6_copy
set_option maxRecDepth 20000 in
theorem ggX6_waits_X6_same : GoodIn wsX6_waits wsX6_same := goodIn_r _ [6, 7, 8, 9, 10, 11, 12, 13, 14, 15, 16, 17, 18, 19, 20, 21] (by decide +kernel) (by decide +kernel)
set_option maxRecDepth 20000 in
theorem gX6_waits_X6_same : GoodIn wsX6_waits (wsV RX6 52 RX6 yX6_same wsX6_same) := goodIn_app (goodIn_of _ (by decide +kernel)) ggX6_waits_X6_same
set_option maxRecDepth 20000 in
theorem ggX6_takesBegin_X6_endIt : GoodIn wsX6_takesBegin wsX6_endIt := goodIn_r _ [10, 5, 1, 4, 11, 12, 13, 9, 14, 3, 26, 27, 28, 29, 30, 31, 32, 33, 34, 35, 36, 37, 38, 39] (by decide +kernel) (by decide +kernel)
set_option maxRecDepth 20000 in
theorem gX6_takesBegin_X6_endIt : GoodIn wsX6_takesBegin (wsV RX6 66 RX6 yX6_endIt wsX6_endIt) := goodIn_app (goodIn_of _ (by decide +kernel)) ggX6_takesBegin_X6_endIt
set_option maxRecDepth 20000 in
theorem ggX6_takesBegin_X6_part : GoodIn wsX6_takesBegin wsX6_part := goodIn_r _ [18, 3, 26, 27, 28, 29, 30, 31, 32, 33, 34, 35, 36, 37, 38, 39] (by decide +kernel) (by decide +kernel)
set_option maxRecDepth 20000 in
theorem gX6_takesBegin_X6_part : GoodIn wsX6_takesBegin (wsV RX6 70 RX6 yX6_part wsX6_part) := goodIn_app (goodIn_of _ (by decide +kernel)) ggX6_takesBegin_X6_part
set_option maxRecDepth 20000 in
theorem ggX6_takesBegin_X6_copy : GoodIn wsX6_takesBegin wsX6_copy := goodIn_r _ [14, 3, 26, 27, 28, 29, 30, 31, 32, 33, 34, 35, 36, 37, 38, 39] (by decide +kernel) (by decide +kernel)
set_option maxRecDepth 20000 in
theorem gX6_takesBegin_X6_copy : GoodIn wsX6_takesBegin (wsV RX6 62 RX6 yX6_copy wsX6_copy) := goodIn_app (goodIn_of _ (by decide +kernel)) ggX6_takesBegin_X6_copy
set_option maxRecDepth 20000 in
theorem ggX6_takesBegin_X6_send : GoodIn wsX6_takesBegin wsX6_send := goodIn_r _ [22, 23, 24, 25, 11, 12, 13, 9, 14, 3, 26, 27, 28, 29, 30, 31, 32, 33, 34, 35, 36, 37, 38, 39] (by decide +kernel) (by decide +kernel)
set_option maxRecDepth 20000 in
theorem gX6_takesBegin_X6_send : GoodIn wsX6_takesBegin (wsV RX6 74 RX6 yX6_send wsX6_send) := goodIn_app (goodIn_of _ (by decide +kernel)) ggX6_takesBegin_X6_send
set_option maxRecDepth 20000 in
theorem ggX6_takesOther_X6_waits : GoodIn wsX6_takesOther wsX6_waits := goodIn_r _ [7, 2, 8, 9, 10, 6, 11, 12, 28, 29, 30, 31, 32, 33, 34, 35, 36, 37, 38, 39, 40, 41] (by decide +kernel) (by decide +kernel)
set_option maxRecDepth 20000 in
theorem gX6_takesOther_X6_waits : GoodIn wsX6_takesOther (wsV RX6 78 RX6 yX6_waits wsX6_waits) := goodIn_app (goodIn_of _ (by decide +kernel)) ggX6_takesOther_X6_waits
set_option maxRecDepth 20000 in
theorem ggX6_takesOther_X6_part : GoodIn wsX6_takesOther wsX6_part := goodIn_r _ [16, 12, 28, 29, 30, 31, 32, 33, 34, 35, 36, 37, 38, 39, 40, 41] (by decide +kernel) (by decide +kernel)
set_option maxRecDepth 20000 in
theorem gX6_takesOther_X6_part : GoodIn wsX6_takesOther (wsV RX6 70 RX6 yX6_part wsX6_part) := goodIn_app (goodIn_of _ (by decide +kernel)) ggX6_takesOther_X6_part
set_option maxRecDepth 20000 in
theorem ggX6_takesOther_X6_send : GoodIn wsX6_takesOther wsX6_send := goodIn_r _ [20, 21, 22, 23, 24, 25, 26, 6, 27, 12, 28, 29, 30, 31, 32, 33, 34, 35, 36, 37, 38, 39, 40, 41] (by decide +kernel) (by decide +kernel)
set_option maxRecDepth 20000 in
theorem gX6_takesOther_X6_send : GoodIn wsX6_takesOther (wsV RX6 74 RX6 yX6_send wsX6_send) := goodIn_app (goodIn_of _ (by decide +kernel)) ggX6_takesOther_X6_send
set_option maxRecDepth 20000 in
theorem ggX6_takesRecord_X6_isKept : GoodIn wsX6_takesRecord wsX6_isKept := goodIn_r _ [9, 3, 10, 11, 12, 8, 13, 14, 19, 20, 21, 22, 23, 24, 25, 26, 27, 28, 29, 30, 31, 32] (by decide +kernel) (by decide +kernel)
set_option maxRecDepth 20000 in
theorem gX6_takesRecord_X6_isKept : GoodIn wsX6_takesRecord (wsV RX6 81 RX6 yX6_isKept wsX6_isKept) := goodIn_app (goodIn_of _ (by decide +kernel)) ggX6_takesRecord_X6_isKept
set_option maxRecDepth 20000 in
theorem ggX6_takesRecord_X6_copy : GoodIn wsX6_takesRecord wsX6_copy := goodIn_r _ [18, 14, 19, 20, 21, 22, 23, 24, 25, 26, 27, 28, 29, 30, 31, 32] (by decide +kernel) (by decide +kernel)
set_option maxRecDepth 20000 in
theorem gX6_takesRecord_X6_copy : GoodIn wsX6_takesRecord (wsV RX6 62 RX6 yX6_copy wsX6_copy) := goodIn_app (goodIn_of _ (by decide +kernel)) ggX6_takesRecord_X6_copy
set_option maxRecDepth 20000 in
theorem ggX6_takesClearing_X6_isKept : GoodIn wsX6_takesClearing wsX6_isKept := goodIn_r _ [7, 8, 9, 10, 11, 6, 12, 13, 14, 15, 16, 17, 18, 19, 20, 21, 22, 23, 24, 25, 26, 27] (by decide +kernel) (by decide +kernel)
set_option maxRecDepth 20000 in
theorem gX6_takesClearing_X6_isKept : GoodIn wsX6_takesClearing (wsV RX6 81 RX6 yX6_isKept wsX6_isKept) := goodIn_app (goodIn_of _ (by decide +kernel)) ggX6_takesClearing_X6_isKept
set_option maxRecDepth 20000 in
theorem ggX6_purse_X6_in : GoodIn wsX6_purse wsX6_in := goodIn_r _ [9] (by decide +kernel) (by decide +kernel)
set_option maxRecDepth 20000 in
theorem gX6_purse_X6_in : GoodIn wsX6_purse (va_wsS RX6 48 yX6_in wsX6_in) := goodIn_app (goodIn_of _ (by decide +kernel)) ggX6_purse_X6_in
set_option maxRecDepth 20000 in
theorem ggX6_begin_X6_isPurse : GoodIn wsX6_begin wsX6_isPurse := goodIn_r _ [9, 10, 11, 12, 8, 13, 29, 30, 31, 32, 33, 34, 35, 36, 37, 38, 39, 40, 41, 42] (by decide +kernel) (by decide +kernel)
set_option maxRecDepth 20000 in
theorem gX6_begin_X6_isPurse : GoodIn wsX6_begin (wsV RX6 85 RX6 yX6_isPurse wsX6_isPurse) := goodIn_app (goodIn_of _ (by decide +kernel)) ggX6_begin_X6_isPurse
set_option maxRecDepth 20000 in
theorem ggX6_begin_X6_in : GoodIn wsX6_begin wsX6_in := goodIn_r _ [13] (by decide +kernel) (by decide +kernel)
set_option maxRecDepth 20000 in
theorem gX6_begin_X6_in : GoodIn wsX6_begin (va_wsS RX6 48 yX6_in wsX6_in) := goodIn_app (goodIn_of _ (by decide +kernel)) ggX6_begin_X6_in
set_option maxRecDepth 20000 in
theorem ggX6_begin_X6_lay : GoodIn wsX6_begin wsX6_lay := goodIn_r _ [17, 18, 29, 30, 31, 32, 33, 34, 35, 36, 37, 38, 39, 40, 41, 42] (by decide +kernel) (by decide +kernel)
set_option maxRecDepth 20000 in
theorem gX6_begin_X6_lay : GoodIn wsX6_begin (wsV RX6 90 RX6 yX6_lay wsX6_lay) := goodIn_app (goodIn_of _ (by decide +kernel)) ggX6_begin_X6_lay
set_option maxRecDepth 20000 in
theorem ggX6_begin_X6_send : GoodIn wsX6_begin wsX6_send := goodIn_r _ [22, 23, 2, 24, 25, 26, 27, 8, 28, 18, 29, 30, 31, 32, 33, 34, 35, 36, 37, 38, 39, 40, 41, 42] (by decide +kernel) (by decide +kernel)
set_option maxRecDepth 20000 in
theorem gX6_begin_X6_send : GoodIn wsX6_begin (wsV RX6 74 RX6 yX6_send wsX6_send) := goodIn_app (goodIn_of _ (by decide +kernel)) ggX6_begin_X6_send
set_option maxRecDepth 20000 in
theorem ggX6_deliver_X6_in : GoodIn wsX6_deliver wsX6_in := goodIn_r _ [9] (by decide +kernel) (by decide +kernel)
set_option maxRecDepth 20000 in
theorem gX6_deliver_X6_in : GoodIn wsX6_deliver (va_wsS RX6 48 yX6_in wsX6_in) := goodIn_app (goodIn_of _ (by decide +kernel)) ggX6_deliver_X6_in
set_option maxRecDepth 20000 in
theorem ggX6_deliver_X6_waits : GoodIn wsX6_deliver wsX6_waits := goodIn_r _ [13, 14, 15, 16, 17, 8, 18, 19, 62, 63, 64, 65, 66, 67, 68, 69, 70, 71, 72, 73, 74, 75] (by decide +kernel) (by decide +kernel)
set_option maxRecDepth 20000 in
theorem gX6_deliver_X6_waits : GoodIn wsX6_deliver (wsV RX6 78 RX6 yX6_waits wsX6_waits) := goodIn_app (goodIn_of _ (by decide +kernel)) ggX6_deliver_X6_waits
set_option maxRecDepth 20000 in
theorem ggX6_deliver_X6_takesBegin : GoodIn wsX6_deliver wsX6_takesBegin := goodIn_r _ [23, 24, 25, 19, 26, 14, 27, 28, 29, 8, 30, 31, 32, 33, 34, 35, 36, 37, 38, 39, 40, 41, 42, 3, 1, 4, 62, 63, 64, 65, 66, 67, 68, 69, 70, 71, 72, 73, 74, 75] (by decide +kernel) (by decide +kernel)
set_option maxRecDepth 20000 in
theorem gX6_deliver_X6_takesBegin : GoodIn wsX6_deliver (wsV RX6 94 RX6 yX6_takesBegin wsX6_takesBegin) := goodIn_app (goodIn_of _ (by decide +kernel)) ggX6_deliver_X6_takesBegin
set_option maxRecDepth 20000 in
theorem ggX6_deliver_X6_takesOther : GoodIn wsX6_deliver wsX6_takesOther := goodIn_r _ [46, 25, 14, 10, 11, 12, 8, 13, 15, 16, 17, 18, 19, 35, 36, 37, 38, 39, 40, 41, 42, 3, 1, 4, 31, 32, 33, 34, 62, 63, 64, 65, 66, 67, 68, 69, 70, 71, 72, 73, 74, 75] (by decide +kernel) (by decide +kernel)
set_option maxRecDepth 20000 in
theorem gX6_deliver_X6_takesOther : GoodIn wsX6_deliver (wsV RX6 98 RX6 yX6_takesOther wsX6_takesOther) := goodIn_app (goodIn_of _ (by decide +kernel)) ggX6_deliver_X6_takesOther
set_option maxRecDepth 20000 in
theorem ggX6_deliver_X6_takesRecord : GoodIn wsX6_deliver wsX6_takesRecord := goodIn_r _ [50, 5, 51, 52, 53, 54, 55, 56, 8, 57, 15, 16, 17, 18, 19, 31, 32, 33, 34, 62, 63, 64, 65, 66, 67, 68, 69, 70, 71, 72, 73, 74, 75] (by decide +kernel) (by decide +kernel)
set_option maxRecDepth 20000 in
theorem gX6_deliver_X6_takesRecord : GoodIn wsX6_deliver (wsV RX6 101 RX6 yX6_takesRecord wsX6_takesRecord) := goodIn_app (goodIn_of _ (by decide +kernel)) ggX6_deliver_X6_takesRecord
set_option maxRecDepth 20000 in
theorem ggX6_deliver_X6_takesClearing : GoodIn wsX6_deliver wsX6_takesClearing := goodIn_r _ [61, 14, 24, 54, 55, 56, 8, 57, 52, 15, 16, 17, 18, 19, 62, 63, 64, 65, 66, 67, 68, 69, 70, 71, 72, 73, 74, 75] (by decide +kernel) (by decide +kernel)
set_option maxRecDepth 20000 in
theorem gX6_deliver_X6_takesClearing : GoodIn wsX6_deliver (wsV RX6 104 RX6 yX6_takesClearing wsX6_takesClearing) := goodIn_app (goodIn_of _ (by decide +kernel)) ggX6_deliver_X6_takesClearing
set_option maxRecDepth 20000 in
theorem ggX6_abort_X6_isPurse : GoodIn wsX6_abort wsX6_isPurse := goodIn_r _ [7, 8, 9, 10, 6, 11, 23, 24, 25, 26, 27, 28, 29, 30, 31, 32, 33, 34, 35, 36] (by decide +kernel) (by decide +kernel)
set_option maxRecDepth 20000 in
theorem gX6_abort_X6_isPurse : GoodIn wsX6_abort (wsV RX6 85 RX6 yX6_isPurse wsX6_isPurse) := goodIn_app (goodIn_of _ (by decide +kernel)) ggX6_abort_X6_isPurse
set_option maxRecDepth 20000 in
theorem ggX6_abort_X6_endIt : GoodIn wsX6_abort wsX6_endIt := goodIn_r _ [15, 2, 16, 17, 18, 19, 20, 6, 21, 22, 23, 24, 25, 26, 27, 28, 29, 30, 31, 32, 33, 34, 35, 36] (by decide +kernel) (by decide +kernel)
set_option maxRecDepth 20000 in
theorem gX6_abort_X6_endIt : GoodIn wsX6_abort (wsV RX6 66 RX6 yX6_endIt wsX6_endIt) := goodIn_app (goodIn_of _ (by decide +kernel)) ggX6_abort_X6_endIt
set_option maxRecDepth 20000 in
theorem ggX6_readLog_X6_isPurse : GoodIn wsX6_readLog wsX6_isPurse := goodIn_r _ [10, 11, 12, 13, 9, 14, 26, 27, 28, 29, 30, 31, 32, 33, 34, 35, 36, 37, 38, 39] (by decide +kernel) (by decide +kernel)
set_option maxRecDepth 20000 in
theorem gX6_readLog_X6_isPurse : GoodIn wsX6_readLog (wsV RX6 85 RX6 yX6_isPurse wsX6_isPurse) := goodIn_app (goodIn_of _ (by decide +kernel)) ggX6_readLog_X6_isPurse
set_option maxRecDepth 20000 in
theorem ggX6_readLog_X6_send : GoodIn wsX6_readLog wsX6_send := goodIn_r _ [18, 19, 2, 20, 21, 22, 23, 9, 24, 25, 26, 27, 28, 29, 30, 31, 32, 33, 34, 35, 36, 37, 38, 39] (by decide +kernel) (by decide +kernel)
set_option maxRecDepth 20000 in
theorem gX6_readLog_X6_send : GoodIn wsX6_readLog (wsV RX6 74 RX6 yX6_send wsX6_send) := goodIn_app (goodIn_of _ (by decide +kernel)) ggX6_readLog_X6_send
set_option maxRecDepth 20000 in
theorem ggX6_authorise_X6_isPurse : GoodIn wsX6_authorise wsX6_isPurse := goodIn_r _ [10, 11, 12, 13, 9, 14, 30, 31, 32, 33, 34, 35, 36, 37, 38, 39, 40, 41, 42, 43] (by decide +kernel) (by decide +kernel)
set_option maxRecDepth 20000 in
theorem gX6_authorise_X6_isPurse : GoodIn wsX6_authorise (wsV RX6 85 RX6 yX6_isPurse wsX6_isPurse) := goodIn_app (goodIn_of _ (by decide +kernel)) ggX6_authorise_X6_isPurse
set_option maxRecDepth 20000 in
theorem ggX6_authorise_X6_lay : GoodIn wsX6_authorise wsX6_lay := goodIn_r _ [18, 19, 30, 31, 32, 33, 34, 35, 36, 37, 38, 39, 40, 41, 42, 43] (by decide +kernel) (by decide +kernel)
set_option maxRecDepth 20000 in
theorem gX6_authorise_X6_lay : GoodIn wsX6_authorise (wsV RX6 90 RX6 yX6_lay wsX6_lay) := goodIn_app (goodIn_of _ (by decide +kernel)) ggX6_authorise_X6_lay
set_option maxRecDepth 20000 in
theorem ggX6_authorise_X6_send : GoodIn wsX6_authorise wsX6_send := goodIn_r _ [23, 24, 4, 25, 26, 27, 28, 9, 29, 19, 30, 31, 32, 33, 34, 35, 36, 37, 38, 39, 40, 41, 42, 43] (by decide +kernel) (by decide +kernel)
set_option maxRecDepth 20000 in
theorem gX6_authorise_X6_send : GoodIn wsX6_authorise (wsV RX6 74 RX6 yX6_send wsX6_send) := goodIn_app (goodIn_of _ (by decide +kernel)) ggX6_authorise_X6_send
set_option maxRecDepth 20000 in
theorem ggX6_refund_X6_in : GoodIn wsX6_refund wsX6_in := goodIn_r _ [8] (by decide +kernel) (by decide +kernel)
set_option maxRecDepth 20000 in
theorem gX6_refund_X6_in : GoodIn wsX6_refund (va_wsS RX6 48 yX6_in wsX6_in) := goodIn_app (goodIn_of _ (by decide +kernel)) ggX6_refund_X6_in
set_option maxRecDepth 20000 in
theorem ggX6_refund_X6_part : GoodIn wsX6_refund wsX6_part := goodIn_r _ [12, 13, 27, 28, 29, 30, 31, 32, 33, 34, 35, 36, 37, 38, 39, 40] (by decide +kernel) (by decide +kernel)
set_option maxRecDepth 20000 in
theorem gX6_refund_X6_part : GoodIn wsX6_refund (wsV RX6 70 RX6 yX6_part wsX6_part) := goodIn_app (goodIn_of _ (by decide +kernel)) ggX6_refund_X6_part
set_option maxRecDepth 20000 in
theorem ggX6_refund_X6_isKept : GoodIn wsX6_refund wsX6_isKept := goodIn_r _ [17, 18, 19, 20, 21, 7, 22, 13, 27, 28, 29, 30, 31, 32, 33, 34, 35, 36, 37, 38, 39, 40] (by decide +kernel) (by decide +kernel)
set_option maxRecDepth 20000 in
theorem gX6_refund_X6_isKept : GoodIn wsX6_refund (wsV RX6 81 RX6 yX6_isKept wsX6_isKept) := goodIn_app (goodIn_of _ (by decide +kernel)) ggX6_refund_X6_isKept
set_option maxRecDepth 20000 in
theorem ggX6_refund_X6_isRefunded : GoodIn wsX6_refund wsX6_isRefunded := goodIn_r _ [26, 1, 3, 19, 20, 21, 7, 22, 13, 27, 28, 29, 30, 31, 32, 33, 34, 35, 36, 37, 38, 39, 40] (by decide +kernel) (by decide +kernel)
set_option maxRecDepth 20000 in
theorem gX6_refund_X6_isRefunded : GoodIn wsX6_refund (wsV RX6 107 RX6 yX6_isRefunded wsX6_isRefunded) := goodIn_app (goodIn_of _ (by decide +kernel)) ggX6_refund_X6_isRefunded
set_option maxRecDepth 20000 in
theorem ggX6_told_X6_isPurse : GoodIn wsX6_told wsX6_isPurse := goodIn_r _ [10, 11, 12, 13, 9, 14, 15, 16, 17, 18, 19, 20, 21, 22, 23, 24, 25, 26, 27, 28] (by decide +kernel) (by decide +kernel)
set_option maxRecDepth 20000 in
theorem gX6_told_X6_isPurse : GoodIn wsX6_told (wsV RX6 85 RX6 yX6_isPurse wsX6_isPurse) := goodIn_app (goodIn_of _ (by decide +kernel)) ggX6_told_X6_isPurse
set_option maxRecDepth 20000 in
theorem ggX6_told_X6_in : GoodIn wsX6_told wsX6_in := goodIn_r _ [14] (by decide +kernel) (by decide +kernel)
set_option maxRecDepth 20000 in
theorem gX6_told_X6_in : GoodIn wsX6_told (va_wsS RX6 48 yX6_in wsX6_in) := goodIn_app (goodIn_of _ (by decide +kernel)) ggX6_told_X6_in
set_option maxRecDepth 20000 in
theorem ggX6_transfer_X6_isPurse : GoodIn wsX6_transfer wsX6_isPurse := goodIn_r _ [7, 8, 9, 10, 6, 11, 17, 18, 19, 20, 21, 22, 23, 24, 25, 26, 27, 28, 29, 30] (by decide +kernel) (by decide +kernel)
set_option maxRecDepth 20000 in
theorem gX6_transfer_X6_isPurse : GoodIn wsX6_transfer (wsV RX6 85 RX6 yX6_isPurse wsX6_isPurse) := goodIn_app (goodIn_of _ (by decide +kernel)) ggX6_transfer_X6_isPurse
set_option maxRecDepth 20000 in
theorem ggX6_transfer_X6_in : GoodIn wsX6_transfer wsX6_in := goodIn_r _ [11] (by decide +kernel) (by decide +kernel)
set_option maxRecDepth 20000 in
theorem gX6_transfer_X6_in : GoodIn wsX6_transfer (va_wsS RX6 48 yX6_in wsX6_in) := goodIn_app (goodIn_of _ (by decide +kernel)) ggX6_transfer_X6_in
set_option maxRecDepth 20000 in
theorem ggX6_transfer_X6_part : GoodIn wsX6_transfer wsX6_part := goodIn_r _ [15, 16, 17, 18, 19, 20, 21, 22, 23, 24, 25, 26, 27, 28, 29, 30] (by decide +kernel) (by decide +kernel)
set_option maxRecDepth 20000 in
theorem gX6_transfer_X6_part : GoodIn wsX6_transfer (wsV RX6 70 RX6 yX6_part wsX6_part) := goodIn_app (goodIn_of _ (by decide +kernel)) ggX6_transfer_X6_part
set_option maxRecDepth 20000 in
theorem ggX6_log_X6_isPurse : GoodIn wsX6_log wsX6_isPurse := goodIn_r _ [7, 8, 9, 10, 6, 11, 17, 18, 19, 20, 21, 22, 23, 24, 25, 26, 27, 28, 29, 30] (by decide +kernel) (by decide +kernel)
set_option maxRecDepth 20000 in
theorem gX6_log_X6_isPurse : GoodIn wsX6_log (wsV RX6 85 RX6 yX6_isPurse wsX6_isPurse) := goodIn_app (goodIn_of _ (by decide +kernel)) ggX6_log_X6_isPurse
set_option maxRecDepth 20000 in
theorem ggX6_log_X6_in : GoodIn wsX6_log wsX6_in := goodIn_r _ [11] (by decide +kernel) (by decide +kernel)
set_option maxRecDepth 20000 in
theorem gX6_log_X6_in : GoodIn wsX6_log (va_wsS RX6 48 yX6_in wsX6_in) := goodIn_app (goodIn_of _ (by decide +kernel)) ggX6_log_X6_in
set_option maxRecDepth 20000 in
theorem ggX6_log_X6_part : GoodIn wsX6_log wsX6_part := goodIn_r _ [15, 16, 17, 18, 19, 20, 21, 22, 23, 24, 25, 26, 27, 28, 29, 30] (by decide +kernel) (by decide +kernel)
set_option maxRecDepth 20000 in
theorem gX6_log_X6_part : GoodIn wsX6_log (wsV RX6 70 RX6 yX6_part wsX6_part) := goodIn_app (goodIn_of _ (by decide +kernel)) ggX6_log_X6_part
set_option maxRecDepth 20000 in
theorem ggX6_message_X6_in : GoodIn wsX6_message wsX6_in := goodIn_r _ [8] (by decide +kernel) (by decide +kernel)
set_option maxRecDepth 20000 in
theorem gX6_message_X6_in : GoodIn wsX6_message (va_wsS RX6 48 yX6_in wsX6_in) := goodIn_app (goodIn_of _ (by decide +kernel)) ggX6_message_X6_in
set_option maxRecDepth 20000 in
theorem ggX6_message_X6_part : GoodIn wsX6_message wsX6_part := goodIn_r _ [12, 13, 14, 15, 16, 17, 18, 19, 20, 21, 22, 23, 24, 25, 26, 27] (by decide +kernel) (by decide +kernel)
set_option maxRecDepth 20000 in
theorem gX6_message_X6_part : GoodIn wsX6_message (wsV RX6 70 RX6 yX6_part wsX6_part) := goodIn_app (goodIn_of _ (by decide +kernel)) ggX6_message_X6_part
set_option maxRecDepth 20000 in
theorem ggX6_entry_X6_in : GoodIn wsX6_entry wsX6_in := goodIn_r _ [7] (by decide +kernel) (by decide +kernel)
set_option maxRecDepth 20000 in
theorem gX6_entry_X6_in : GoodIn wsX6_entry (va_wsS RX6 48 yX6_in wsX6_in) := goodIn_app (goodIn_of _ (by decide +kernel)) ggX6_entry_X6_in
set_option maxRecDepth 20000 in
theorem ggX6_entry_X6_part : GoodIn wsX6_entry wsX6_part := goodIn_r _ [11, 12, 22, 23, 24, 25, 26, 27, 28, 29, 30, 31, 32, 33, 34, 35] (by decide +kernel) (by decide +kernel)
set_option maxRecDepth 20000 in
theorem gX6_entry_X6_part : GoodIn wsX6_entry (wsV RX6 70 RX6 yX6_part wsX6_part) := goodIn_app (goodIn_of _ (by decide +kernel)) ggX6_entry_X6_part
set_option maxRecDepth 20000 in
theorem ggX6_entry_X6_isRefunded : GoodIn wsX6_entry wsX6_isRefunded := goodIn_r _ [16, 1, 17, 18, 19, 20, 6, 21, 12, 22, 23, 24, 25, 26, 27, 28, 29, 30, 31, 32, 33, 34, 35] (by decide +kernel) (by decide +kernel)
set_option maxRecDepth 20000 in
theorem gX6_entry_X6_isRefunded : GoodIn wsX6_entry (wsV RX6 107 RX6 yX6_isRefunded wsX6_isRefunded) := goodIn_app (goodIn_of _ (by decide +kernel)) ggX6_entry_X6_isRefunded
set_option maxRecDepth 20000 in
theorem ggX6_holds_X6_same : GoodIn wsX6_holds wsX6_same := goodIn_r _ [7, 8, 19, 20, 21, 22, 23, 24, 25, 26, 27, 28, 29, 30, 31, 32] (by decide +kernel) (by decide +kernel)
set_option maxRecDepth 20000 in
theorem gX6_holds_X6_same : GoodIn wsX6_holds (wsV RX6 52 RX6 yX6_same wsX6_same) := goodIn_app (goodIn_of _ (by decide +kernel)) ggX6_holds_X6_same
set_option maxRecDepth 20000 in
theorem ggX6_holds_X6_isInLog : GoodIn wsX6_holds wsX6_isInLog := goodIn_r _ [12, 13, 3, 4, 5, 6, 7, 8, 19, 20, 21, 22, 23, 24, 25, 26, 27, 28, 29, 30, 31, 32] (by decide +kernel) (by decide +kernel)
set_option maxRecDepth 20000 in
theorem gX6_holds_X6_isInLog : GoodIn wsX6_holds (wsV RX6 110 RX6 yX6_isInLog wsX6_isInLog) := goodIn_app (goodIn_of _ (by decide +kernel)) ggX6_holds_X6_isInLog
set_option maxRecDepth 20000 in
theorem ggX6_holds_X6_isKept : GoodIn wsX6_holds wsX6_isKept := goodIn_r _ [17, 18, 3, 4, 5, 6, 7, 8, 19, 20, 21, 22, 23, 24, 25, 26, 27, 28, 29, 30, 31, 32] (by decide +kernel) (by decide +kernel)
set_option maxRecDepth 20000 in
theorem gX6_holds_X6_isKept : GoodIn wsX6_holds (wsV RX6 81 RX6 yX6_isKept wsX6_isKept) := goodIn_app (goodIn_of _ (by decide +kernel)) ggX6_holds_X6_isKept
set_option maxRecDepth 20000 in
theorem ggX6_amountOf_X6_part : GoodIn wsX6_amountOf wsX6_part := goodIn_r _ [5, 6, 32, 33, 34, 35, 36, 37, 38, 39, 40, 41, 42, 43, 44, 45] (by decide +kernel) (by decide +kernel)
set_option maxRecDepth 20000 in
theorem gX6_amountOf_X6_part : GoodIn wsX6_amountOf (wsV RX6 70 RX6 yX6_part wsX6_part) := goodIn_app (goodIn_of _ (by decide +kernel)) ggX6_amountOf_X6_part
set_option maxRecDepth 20000 in
theorem ggX6_amountOf_X6_isRefunded : GoodIn wsX6_amountOf wsX6_isRefunded := goodIn_r _ [10, 11, 12, 13, 14, 15, 4, 16, 6, 32, 33, 34, 35, 36, 37, 38, 39, 40, 41, 42, 43, 44, 45] (by decide +kernel) (by decide +kernel)
set_option maxRecDepth 20000 in
theorem gX6_amountOf_X6_isRefunded : GoodIn wsX6_amountOf (wsV RX6 107 RX6 yX6_isRefunded wsX6_isRefunded) := goodIn_app (goodIn_of _ (by decide +kernel)) ggX6_amountOf_X6_isRefunded
set_option maxRecDepth 20000 in
theorem ggX6_amountOf_X6_holds : GoodIn wsX6_amountOf wsX6_holds := goodIn_r _ [20, 21, 11, 13, 14, 15, 4, 16, 6, 22, 23, 24, 25, 26, 27, 28, 29, 30, 31, 32, 33, 34, 35, 36, 37, 38, 39, 40, 41, 42, 43, 44, 45] (by decide +kernel) (by decide +kernel)
set_option maxRecDepth 20000 in
theorem gX6_amountOf_X6_holds : GoodIn wsX6_amountOf (wsV RX6 113 RX6 yX6_holds wsX6_holds) := goodIn_app (goodIn_of _ (by decide +kernel)) ggX6_amountOf_X6_holds
set_option maxRecDepth 20000 in
theorem ggX6_pending_X6_amountOf : GoodIn wsX6_pending wsX6_amountOf := goodIn_r _ [11, 12, 13, 14, 10, 15, 16, 17, 18, 19, 20, 5, 21, 22, 23, 24, 25, 26, 27, 28, 29, 3, 30, 31, 32, 33, 4, 34, 35, 36, 37, 6, 38, 39, 40, 41, 42, 43, 44, 45, 46, 47, 48, 49, 50, 51] (by decide +kernel) (by decide +kernel)
set_option maxRecDepth 20000 in
theorem gX6_pending_X6_amountOf : GoodIn wsX6_pending (wsV RX6 116 RX6 yX6_amountOf wsX6_amountOf) := goodIn_app (goodIn_of _ (by decide +kernel)) ggX6_pending_X6_amountOf
set_option maxRecDepth 20000 in
theorem ggX6_pending_X6_isInLog : GoodIn wsX6_pending wsX6_isInLog := goodIn_r _ [33, 4, 22, 23, 24, 10, 25, 16, 38, 39, 40, 41, 42, 43, 44, 45, 46, 47, 48, 49, 50, 51] (by decide +kernel) (by decide +kernel)
set_option maxRecDepth 20000 in
theorem gX6_pending_X6_isInLog : GoodIn wsX6_pending (wsV RX6 110 RX6 yX6_isInLog wsX6_isInLog) := goodIn_app (goodIn_of _ (by decide +kernel)) ggX6_pending_X6_isInLog
end
section
/-! THE POOL: all objects and arrays of class and reference in one record of functions. Kinds: 0 Archive, 1 Entry, 2 Message, 3 Purse, 4 Transfer, 5 PurseWorld, 6 the reference, 7 ArrayList, 8 int[], 9 boolean[], else Object[]. -/
section POOL
/-- addresses; kinds; lengths of arrays; int fields by number; reference fields by number; int rows; reference rows -/
abbrev PS : Type := List Nat × (Nat → Nat) × (Nat → Nat) × (Nat → Nat → Int32) × (Nat → Nat → Option Nat) × (Nat → Nat → Int32) × (Nat → Nat → Option Nat)
abbrev pL (S : PS) : List Nat := S.1
abbrev pK (S : PS) : Nat → Nat := S.2.1
abbrev pN (S : PS) : Nat → Nat := S.2.2.1
abbrev pI (S : PS) : Nat → Nat → Int32 := S.2.2.2.1
abbrev pO (S : PS) : Nat → Nat → Option Nat := S.2.2.2.2.1
abbrev pR (S : PS) : Nat → Nat → Int32 := S.2.2.2.2.2.1
abbrev pQ (S : PS) : Nat → Nat → Option Nat := S.2.2.2.2.2.2
def up2 {α : Type} (f : Nat → Nat → α) (i a : Nat) (v : α) : Nat → Nat → α := fun j b => if j = i ∧ b = a then v else f j b
def upA {α : Type} (f : Nat → Nat → α) (a : Nat) (v : α) : Nat → Nat → α := fun j b => if b = a then v else f j b
theorem up2_s {α : Type} (f : Nat → Nat → α) (i a : Nat) (v : α) : up2 f i a v i a = v := by simp [up2]
theorem up2_f {α : Type} (f : Nat → Nat → α) {i j : Nat} (a b : Nat) (v : α) (h : j ≠ i) : up2 f i a v j b = f j b := by simp [up2, h]
theorem up2_a {α : Type} (f : Nat → Nat → α) (i j : Nat) {a b : Nat} (v : α) (h : b ≠ a) : up2 f i a v j b = f j b := by simp [up2, h]
theorem upA_s {α : Type} (f : Nat → Nat → α) (i a : Nat) (v : α) : upA f a v i a = v := by simp [upA]
theorem upA_a {α : Type} (f : Nat → Nat → α) (i : Nat) {a b : Nat} (v : α) (h : b ≠ a) : upA f a v i b = f i b := by simp [upA, h]
abbrev sI (S : PS) (f a : Nat) (v : Int32) : PS := (pL S, pK S, pN S, up2 (pI S) f a v, pO S, pR S, pQ S)
abbrev sO (S : PS) (f a : Nat) (v : Option Nat) : PS := (pL S, pK S, pN S, pI S, up2 (pO S) f a v, pR S, pQ S)
abbrev sR (S : PS) (a j : Nat) (v : Int32) : PS := (pL S, pK S, pN S, pI S, pO S, up2 (pR S) a j v, pQ S)
abbrev sQ (S : PS) (a j : Nat) (v : Option Nat) : PS := (pL S, pK S, pN S, pI S, pO S, pR S, up2 (pQ S) a j v)
/-- a whole reference row anew -/
abbrev sQQ (S : PS) (a : Nat) (g : Nat → Option Nat) : PS := (pL S, pK S, pN S, pI S, pO S, pR S, va_up (pQ S) a g)
/-- a new thing at a, of kind k (and length n), all of it 0 or null -/
abbrev sN (S : PS) (a k n : Nat) : PS := (pL S ++ [a], va_up (pK S) a k, va_up (pN S) a n, upA (pI S) a 0, upA (pO S) a none, va_up (pR S) a (fun _ => 0), va_up (pQ S) a (fun _ => none))
/-- what stands at a -/
def pE (cI cZ cO : ClassId) (S : PS) (k a : Nat) : va_E := match k with
  | 0 => .inr (1, [va_rf (pO S 0 a)])
  | 1 => .inr (2, [.int (pI S 0 a), va_rf (pO S 1 a), .int (pI S 1 a)])
  | 2 => .inr (3, [.int (pI S 2 a), .int (pI S 3 a), va_rf (pO S 2 a), .int (pI S 4 a), .int (pI S 5 a)])
  | 3 => .inr (4, [.int (pI S 6 a), va_rf (pO S 3 a), va_rf (pO S 4 a), .int (pI S 7 a), .int (pI S 8 a), .int (pI S 9 a), va_rf (pO S 5 a)])
  | 4 => .inr (5, [.int (pI S 10 a), .int (pI S 11 a), .int (pI S 12 a), .int (pI S 13 a), .int (pI S 14 a)])
  | 5 => .inr (6, [va_rf (pO S 6 a), va_rf (pO S 7 a), va_rf (pO S 8 a), va_rf (pO S 9 a)])
  | 6 => .inr (7, [.int (pI S 15 a), .int (pI S 16 a), va_rf (pO S 10 a), va_rf (pO S 11 a), va_rf (pO S 12 a), va_rf (pO S 13 a), .int (pI S 17 a), va_rf (pO S 14 a), va_rf (pO S 15 a), va_rf (pO S 16 a), .int (pI S 18 a), va_rf (pO S 17 a), va_rf (pO S 18 a), va_rf (pO S 19 a)])
  | 7 => .inr (0, [.int (pI S 19 a), va_rf (pO S 20 a), .int (pI S 20 a)])
  | 8 => .inl (cI, pN S a, .inl (pR S a))
  | 9 => .inl (cZ, pN S a, .inl (pR S a))
  | _ => .inl (cO, pN S a, .inr (.inr (.inr (.inr (pQ S a)))))
def pF (cI cZ cO : ClassId) (S : PS) : Nat → va_E := fun a => pE cI cZ cO S (pK S a) a
theorem pE_congr {cI cZ cO : ClassId} {S S' : PS} {k b : Nat} (hI : ∀ f, pI S' f b = pI S f b) (hO : ∀ f, pO S' f b = pO S f b) (hN : pN S' b = pN S b) (hR : pR S' b = pR S b) (hQ : pQ S' b = pQ S b) : pE cI cZ cO S' k b = pE cI cZ cO S k b := by
  unfold pE
  split <;> simp only [hI, hO, hN, hR, hQ]
/-- a of kind k is in the pool -/
def isK (S : PS) (k a : Nat) : Prop := a ∈ pL S ∧ pK S a = k
/-- the int field f stands at place pos of the objects of kind k, class number ci -/
def fIok (k ci pos f : Nat) : Prop := ∀ (cI cZ cO : ClassId) (S : PS) (a : Nat), pK S a = k → ∃ fs : List Value, pF cI cZ cO S a = .inr (ci, fs) ∧ fs[pos]? = some (.int (pI S f a)) ∧ pos < fs.length ∧
  ∀ (v : Int32) (b : Nat), va_up (pF cI cZ cO S) a (.inr (ci, fs.set pos (.int v))) b = pF cI cZ cO (sI S f a v) b
def fOok (k ci pos f : Nat) : Prop := ∀ (cI cZ cO : ClassId) (S : PS) (a : Nat), pK S a = k → ∃ fs : List Value, pF cI cZ cO S a = .inr (ci, fs) ∧ fs[pos]? = some (va_rf (pO S f a)) ∧ pos < fs.length ∧
  ∀ (v : Option Nat) (b : Nat), va_up (pF cI cZ cO S) a (.inr (ci, fs.set pos (va_rf v))) b = pF cI cZ cO (sO S f a v) b
theorem up2_row {α : Type} (f : Nat → Nat → α) {i a b : Nat} (v : α) (h : b ≠ i) : up2 f i a v b = f b := by funext j; simp [up2, h]
theorem pF_sI {cI cZ cO : ClassId} {S : PS} {f a b : Nat} {v : Int32} (h : b ≠ a) : pF cI cZ cO (sI S f a v) b = pF cI cZ cO S b :=
  pE_congr (fun g => up2_a _ _ _ _ h) (fun _ => rfl) rfl rfl rfl
theorem pF_sO {cI cZ cO : ClassId} {S : PS} {f a b : Nat} {v : Option Nat} (h : b ≠ a) : pF cI cZ cO (sO S f a v) b = pF cI cZ cO S b :=
  pE_congr (fun _ => rfl) (fun g => up2_a _ _ _ _ h) rfl rfl rfl
theorem fI_mk {k ci pos f : Nat} (fs : (cI cZ cO : ClassId) → PS → Nat → List Value) (h1 : ∀ cI cZ cO S a, pE cI cZ cO S k a = .inr (ci, fs cI cZ cO S a)) (h2 : ∀ cI cZ cO S a, (fs cI cZ cO S a)[pos]? = some (.int (pI S f a)))
    (h3 : ∀ cI cZ cO S a, pos < (fs cI cZ cO S a).length) (h4 : ∀ cI cZ cO S a v, fs cI cZ cO (sI S f a v) a = (fs cI cZ cO S a).set pos (.int v)) : fIok k ci pos f := by
  intro cI cZ cO S a h
  refine ⟨fs cI cZ cO S a, by unfold pF; rw [h]; exact h1 .., h2 .., h3 .., fun v b => ?_⟩
  by_cases hb : b = a
  · subst hb
    rw [va_up_self]
    show _ = pE cI cZ cO (sI S f b v) (pK S b) b
    rw [h, h1, h4]
  · rw [va_up_ne _ _ hb, pF_sI hb]
theorem fO_mk {k ci pos f : Nat} (fs : (cI cZ cO : ClassId) → PS → Nat → List Value) (h1 : ∀ cI cZ cO S a, pE cI cZ cO S k a = .inr (ci, fs cI cZ cO S a)) (h2 : ∀ cI cZ cO S a, (fs cI cZ cO S a)[pos]? = some (va_rf (pO S f a)))
    (h3 : ∀ cI cZ cO S a, pos < (fs cI cZ cO S a).length) (h4 : ∀ cI cZ cO S a v, fs cI cZ cO (sO S f a v) a = (fs cI cZ cO S a).set pos (va_rf v)) : fOok k ci pos f := by
  intro cI cZ cO S a h
  refine ⟨fs cI cZ cO S a, by unfold pF; rw [h]; exact h1 .., h2 .., h3 .., fun v b => ?_⟩
  by_cases hb : b = a
  · subst hb
    rw [va_up_self]
    show _ = pE cI cZ cO (sO S f b v) (pK S b) b
    rw [h, h1, h4]
  · rw [va_up_ne _ _ hb, pF_sO hb]
def es0 (_ _ _ : ClassId) (S : PS) (a : Nat) : List Value := [va_rf (pO S 0 a)]
def es1 (_ _ _ : ClassId) (S : PS) (a : Nat) : List Value := [.int (pI S 0 a), va_rf (pO S 1 a), .int (pI S 1 a)]
def es2 (_ _ _ : ClassId) (S : PS) (a : Nat) : List Value := [.int (pI S 2 a), .int (pI S 3 a), va_rf (pO S 2 a), .int (pI S 4 a), .int (pI S 5 a)]
def es3 (_ _ _ : ClassId) (S : PS) (a : Nat) : List Value := [.int (pI S 6 a), va_rf (pO S 3 a), va_rf (pO S 4 a), .int (pI S 7 a), .int (pI S 8 a), .int (pI S 9 a), va_rf (pO S 5 a)]
def es4 (_ _ _ : ClassId) (S : PS) (a : Nat) : List Value := [.int (pI S 10 a), .int (pI S 11 a), .int (pI S 12 a), .int (pI S 13 a), .int (pI S 14 a)]
def es5 (_ _ _ : ClassId) (S : PS) (a : Nat) : List Value := [va_rf (pO S 6 a), va_rf (pO S 7 a), va_rf (pO S 8 a), va_rf (pO S 9 a)]
def es6 (_ _ _ : ClassId) (S : PS) (a : Nat) : List Value := [.int (pI S 15 a), .int (pI S 16 a), va_rf (pO S 10 a), va_rf (pO S 11 a), va_rf (pO S 12 a), va_rf (pO S 13 a), .int (pI S 17 a), va_rf (pO S 14 a), va_rf (pO S 15 a), va_rf (pO S 16 a), .int (pI S 18 a), va_rf (pO S 17 a), va_rf (pO S 18 a), va_rf (pO S 19 a)]
def es7 (_ _ _ : ClassId) (S : PS) (a : Nat) : List Value := [.int (pI S 19 a), va_rf (pO S 20 a), .int (pI S 20 a)]
theorem fO0 : fOok 0 1 0 0 := fO_mk es0 (fun _ _ _ _ _ => rfl) (fun _ _ _ _ _ => rfl) (fun _ _ _ _ _ => by simp [es0]) (fun _ _ _ _ _ _ => by simp [es0, up2, pI, pO, sI, sO])
theorem fI0 : fIok 1 2 0 0 := fI_mk es1 (fun _ _ _ _ _ => rfl) (fun _ _ _ _ _ => rfl) (fun _ _ _ _ _ => by simp [es1]) (fun _ _ _ _ _ _ => by simp [es1, up2, pI, pO, sI, sO])
theorem fO1 : fOok 1 2 1 1 := fO_mk es1 (fun _ _ _ _ _ => rfl) (fun _ _ _ _ _ => rfl) (fun _ _ _ _ _ => by simp [es1]) (fun _ _ _ _ _ _ => by simp [es1, up2, pI, pO, sI, sO])
theorem fI1 : fIok 1 2 2 1 := fI_mk es1 (fun _ _ _ _ _ => rfl) (fun _ _ _ _ _ => rfl) (fun _ _ _ _ _ => by simp [es1]) (fun _ _ _ _ _ _ => by simp [es1, up2, pI, pO, sI, sO])
theorem fI2 : fIok 2 3 0 2 := fI_mk es2 (fun _ _ _ _ _ => rfl) (fun _ _ _ _ _ => rfl) (fun _ _ _ _ _ => by simp [es2]) (fun _ _ _ _ _ _ => by simp [es2, up2, pI, pO, sI, sO])
theorem fI3 : fIok 2 3 1 3 := fI_mk es2 (fun _ _ _ _ _ => rfl) (fun _ _ _ _ _ => rfl) (fun _ _ _ _ _ => by simp [es2]) (fun _ _ _ _ _ _ => by simp [es2, up2, pI, pO, sI, sO])
theorem fO2 : fOok 2 3 2 2 := fO_mk es2 (fun _ _ _ _ _ => rfl) (fun _ _ _ _ _ => rfl) (fun _ _ _ _ _ => by simp [es2]) (fun _ _ _ _ _ _ => by simp [es2, up2, pI, pO, sI, sO])
theorem fI4 : fIok 2 3 3 4 := fI_mk es2 (fun _ _ _ _ _ => rfl) (fun _ _ _ _ _ => rfl) (fun _ _ _ _ _ => by simp [es2]) (fun _ _ _ _ _ _ => by simp [es2, up2, pI, pO, sI, sO])
theorem fI5 : fIok 2 3 4 5 := fI_mk es2 (fun _ _ _ _ _ => rfl) (fun _ _ _ _ _ => rfl) (fun _ _ _ _ _ => by simp [es2]) (fun _ _ _ _ _ _ => by simp [es2, up2, pI, pO, sI, sO])
theorem fI6 : fIok 3 4 0 6 := fI_mk es3 (fun _ _ _ _ _ => rfl) (fun _ _ _ _ _ => rfl) (fun _ _ _ _ _ => by simp [es3]) (fun _ _ _ _ _ _ => by simp [es3, up2, pI, pO, sI, sO])
theorem fO3 : fOok 3 4 1 3 := fO_mk es3 (fun _ _ _ _ _ => rfl) (fun _ _ _ _ _ => rfl) (fun _ _ _ _ _ => by simp [es3]) (fun _ _ _ _ _ _ => by simp [es3, up2, pI, pO, sI, sO])
theorem fO4 : fOok 3 4 2 4 := fO_mk es3 (fun _ _ _ _ _ => rfl) (fun _ _ _ _ _ => rfl) (fun _ _ _ _ _ => by simp [es3]) (fun _ _ _ _ _ _ => by simp [es3, up2, pI, pO, sI, sO])
theorem fI7 : fIok 3 4 3 7 := fI_mk es3 (fun _ _ _ _ _ => rfl) (fun _ _ _ _ _ => rfl) (fun _ _ _ _ _ => by simp [es3]) (fun _ _ _ _ _ _ => by simp [es3, up2, pI, pO, sI, sO])
theorem fI8 : fIok 3 4 4 8 := fI_mk es3 (fun _ _ _ _ _ => rfl) (fun _ _ _ _ _ => rfl) (fun _ _ _ _ _ => by simp [es3]) (fun _ _ _ _ _ _ => by simp [es3, up2, pI, pO, sI, sO])
theorem fI9 : fIok 3 4 5 9 := fI_mk es3 (fun _ _ _ _ _ => rfl) (fun _ _ _ _ _ => rfl) (fun _ _ _ _ _ => by simp [es3]) (fun _ _ _ _ _ _ => by simp [es3, up2, pI, pO, sI, sO])
theorem fO5 : fOok 3 4 6 5 := fO_mk es3 (fun _ _ _ _ _ => rfl) (fun _ _ _ _ _ => rfl) (fun _ _ _ _ _ => by simp [es3]) (fun _ _ _ _ _ _ => by simp [es3, up2, pI, pO, sI, sO])
theorem fI10 : fIok 4 5 0 10 := fI_mk es4 (fun _ _ _ _ _ => rfl) (fun _ _ _ _ _ => rfl) (fun _ _ _ _ _ => by simp [es4]) (fun _ _ _ _ _ _ => by simp [es4, up2, pI, pO, sI, sO])
theorem fI11 : fIok 4 5 1 11 := fI_mk es4 (fun _ _ _ _ _ => rfl) (fun _ _ _ _ _ => rfl) (fun _ _ _ _ _ => by simp [es4]) (fun _ _ _ _ _ _ => by simp [es4, up2, pI, pO, sI, sO])
theorem fI12 : fIok 4 5 2 12 := fI_mk es4 (fun _ _ _ _ _ => rfl) (fun _ _ _ _ _ => rfl) (fun _ _ _ _ _ => by simp [es4]) (fun _ _ _ _ _ _ => by simp [es4, up2, pI, pO, sI, sO])
theorem fI13 : fIok 4 5 3 13 := fI_mk es4 (fun _ _ _ _ _ => rfl) (fun _ _ _ _ _ => rfl) (fun _ _ _ _ _ => by simp [es4]) (fun _ _ _ _ _ _ => by simp [es4, up2, pI, pO, sI, sO])
theorem fI14 : fIok 4 5 4 14 := fI_mk es4 (fun _ _ _ _ _ => rfl) (fun _ _ _ _ _ => rfl) (fun _ _ _ _ _ => by simp [es4]) (fun _ _ _ _ _ _ => by simp [es4, up2, pI, pO, sI, sO])
theorem fO6 : fOok 5 6 0 6 := fO_mk es5 (fun _ _ _ _ _ => rfl) (fun _ _ _ _ _ => rfl) (fun _ _ _ _ _ => by simp [es5]) (fun _ _ _ _ _ _ => by simp [es5, up2, pI, pO, sI, sO])
theorem fO7 : fOok 5 6 1 7 := fO_mk es5 (fun _ _ _ _ _ => rfl) (fun _ _ _ _ _ => rfl) (fun _ _ _ _ _ => by simp [es5]) (fun _ _ _ _ _ _ => by simp [es5, up2, pI, pO, sI, sO])
theorem fO8 : fOok 5 6 2 8 := fO_mk es5 (fun _ _ _ _ _ => rfl) (fun _ _ _ _ _ => rfl) (fun _ _ _ _ _ => by simp [es5]) (fun _ _ _ _ _ _ => by simp [es5, up2, pI, pO, sI, sO])
theorem fO9 : fOok 5 6 3 9 := fO_mk es5 (fun _ _ _ _ _ => rfl) (fun _ _ _ _ _ => rfl) (fun _ _ _ _ _ => by simp [es5]) (fun _ _ _ _ _ _ => by simp [es5, up2, pI, pO, sI, sO])
theorem fI15 : fIok 6 7 0 15 := fI_mk es6 (fun _ _ _ _ _ => rfl) (fun _ _ _ _ _ => rfl) (fun _ _ _ _ _ => by simp [es6]) (fun _ _ _ _ _ _ => by simp [es6, up2, pI, pO, sI, sO])
theorem fI16 : fIok 6 7 1 16 := fI_mk es6 (fun _ _ _ _ _ => rfl) (fun _ _ _ _ _ => rfl) (fun _ _ _ _ _ => by simp [es6]) (fun _ _ _ _ _ _ => by simp [es6, up2, pI, pO, sI, sO])
theorem fO10 : fOok 6 7 2 10 := fO_mk es6 (fun _ _ _ _ _ => rfl) (fun _ _ _ _ _ => rfl) (fun _ _ _ _ _ => by simp [es6]) (fun _ _ _ _ _ _ => by simp [es6, up2, pI, pO, sI, sO])
theorem fO11 : fOok 6 7 3 11 := fO_mk es6 (fun _ _ _ _ _ => rfl) (fun _ _ _ _ _ => rfl) (fun _ _ _ _ _ => by simp [es6]) (fun _ _ _ _ _ _ => by simp [es6, up2, pI, pO, sI, sO])
theorem fO12 : fOok 6 7 4 12 := fO_mk es6 (fun _ _ _ _ _ => rfl) (fun _ _ _ _ _ => rfl) (fun _ _ _ _ _ => by simp [es6]) (fun _ _ _ _ _ _ => by simp [es6, up2, pI, pO, sI, sO])
theorem fO13 : fOok 6 7 5 13 := fO_mk es6 (fun _ _ _ _ _ => rfl) (fun _ _ _ _ _ => rfl) (fun _ _ _ _ _ => by simp [es6]) (fun _ _ _ _ _ _ => by simp [es6, up2, pI, pO, sI, sO])
theorem fI17 : fIok 6 7 6 17 := fI_mk es6 (fun _ _ _ _ _ => rfl) (fun _ _ _ _ _ => rfl) (fun _ _ _ _ _ => by simp [es6]) (fun _ _ _ _ _ _ => by simp [es6, up2, pI, pO, sI, sO])
theorem fO14 : fOok 6 7 7 14 := fO_mk es6 (fun _ _ _ _ _ => rfl) (fun _ _ _ _ _ => rfl) (fun _ _ _ _ _ => by simp [es6]) (fun _ _ _ _ _ _ => by simp [es6, up2, pI, pO, sI, sO])
theorem fO15 : fOok 6 7 8 15 := fO_mk es6 (fun _ _ _ _ _ => rfl) (fun _ _ _ _ _ => rfl) (fun _ _ _ _ _ => by simp [es6]) (fun _ _ _ _ _ _ => by simp [es6, up2, pI, pO, sI, sO])
theorem fO16 : fOok 6 7 9 16 := fO_mk es6 (fun _ _ _ _ _ => rfl) (fun _ _ _ _ _ => rfl) (fun _ _ _ _ _ => by simp [es6]) (fun _ _ _ _ _ _ => by simp [es6, up2, pI, pO, sI, sO])
theorem fI18 : fIok 6 7 10 18 := fI_mk es6 (fun _ _ _ _ _ => rfl) (fun _ _ _ _ _ => rfl) (fun _ _ _ _ _ => by simp [es6]) (fun _ _ _ _ _ _ => by simp [es6, up2, pI, pO, sI, sO])
theorem fO17 : fOok 6 7 11 17 := fO_mk es6 (fun _ _ _ _ _ => rfl) (fun _ _ _ _ _ => rfl) (fun _ _ _ _ _ => by simp [es6]) (fun _ _ _ _ _ _ => by simp [es6, up2, pI, pO, sI, sO])
theorem fO18 : fOok 6 7 12 18 := fO_mk es6 (fun _ _ _ _ _ => rfl) (fun _ _ _ _ _ => rfl) (fun _ _ _ _ _ => by simp [es6]) (fun _ _ _ _ _ _ => by simp [es6, up2, pI, pO, sI, sO])
theorem fO19 : fOok 6 7 13 19 := fO_mk es6 (fun _ _ _ _ _ => rfl) (fun _ _ _ _ _ => rfl) (fun _ _ _ _ _ => by simp [es6]) (fun _ _ _ _ _ _ => by simp [es6, up2, pI, pO, sI, sO])
theorem fI19 : fIok 7 0 0 19 := fI_mk es7 (fun _ _ _ _ _ => rfl) (fun _ _ _ _ _ => rfl) (fun _ _ _ _ _ => by simp [es7]) (fun _ _ _ _ _ _ => by simp [es7, up2, pI, pO, sI, sO])
theorem fO20 : fOok 7 0 1 20 := fO_mk es7 (fun _ _ _ _ _ => rfl) (fun _ _ _ _ _ => rfl) (fun _ _ _ _ _ => by simp [es7]) (fun _ _ _ _ _ _ => by simp [es7, up2, pI, pO, sI, sO])
theorem fI20 : fIok 7 0 2 20 := fI_mk es7 (fun _ _ _ _ _ => rfl) (fun _ _ _ _ _ => rfl) (fun _ _ _ _ _ => by simp [es7]) (fun _ _ _ _ _ _ => by simp [es7, up2, pI, pO, sI, sO])
end POOL
end
section
/-! THE LAYER: a walk over the pool S, the locals lo and the stack st alone; the heap, the frames' array and the written places ride behind. -/
section LAYER
/-- the locals that are known -/
def zl (ls : Array Slot) (nL : Nat) (lo : List (Option Value)) : Prop := ls.size = nL ∧ lv_wf ls ∧ ∀ (i : Nat) (v : Value), lo[i]? = some (some v) → ls[i]? = some (.val v)
def zlist (lo : List (Option Value)) : List (Nat × Value) := (List.range lo.length).filterMap fun i => match lo[i]? with
  | some (some v) => some (i, v)
  | _ => none
theorem zlist_mem {lo : List (Option Value)} {i : Nat} {v : Value} (h : lo[i]? = some (some v)) : (i, v) ∈ zlist lo := by
  refine List.mem_filterMap.mpr ⟨i, List.mem_range.mpr (List.getElem?_eq_some_iff.mp h).1, ?_⟩
  simp [h]
theorem zlist_of {lo : List (Option Value)} {q : Nat × Value} (h : q ∈ zlist lo) : lo[q.1]? = some (some q.2) := by
  obtain ⟨i, -, hi⟩ := List.mem_filterMap.mp h
  split at hi
  · next v hv => cases hi; exact hv
  · cases hi
theorem zl_has {ls : Array Slot} {nL : Nat} {lo : List (Option Value)} (h : zl ls nL lo) : lv_has ls nL (zlist lo) := ⟨h.1, h.2.1, fun q hq => h.2.2 q.1 q.2 (zlist_of hq)⟩
/-- no long ends at place i -/
def zok (lo : List (Option Value)) (i : Nat) : Bool := match i with
  | 0 => true
  | k + 1 => match lo[k]? with
    | some (some v) => v.category == 1
    | _ => true
theorem zok_spec {lo : List (Option Value)} {i k : Nat} {v : Value} (h : zok lo i = true) (hk : k + 1 = i) (hv : lo[k]? = some (some v)) : ¬ v.category = 2 := by
  subst hk
  simp only [zok, hv, beq_iff_eq] at h
  omega
theorem zl_1 {ls' : Array Slot} {nL i : Nat} {lo : List (Option Value)} {v : Value} (hz : zok lo i = true) (h : lv_has ls' nL ((i, v) :: (zlist lo).filter (fun q => !(q.1 == i) && !(q.1 + 1 == i && q.2.category == 2)))) : zl ls' nL (lo.set i (some v)) := by
  refine ⟨h.1, h.2.1, fun j w hw => ?_⟩
  by_cases hj : j = i
  · subst hj
    have hlt : j < (lo.set j (some v)).length := (List.getElem?_eq_some_iff.mp hw).1
    rw [List.length_set] at hlt
    rw [List.getElem?_set_self hlt] at hw
    cases hw
    exact h.2.2 (j, v) List.mem_cons_self
  · rw [List.getElem?_set_ne (fun q => hj q.symm)] at hw
    refine h.2.2 (j, w) (List.mem_cons_of_mem _ (List.mem_filter.mpr ⟨zlist_mem hw, ?_⟩))
    simp only [Bool.and_eq_true, Bool.not_eq_true', beq_eq_false_iff_ne, ne_eq, Bool.and_eq_false_iff]
    refine ⟨hj, ?_⟩
    by_cases h1 : j + 1 = i
    · exact Or.inr (zok_spec hz h1 hw)
    · exact Or.inl h1
theorem zl_2 {ls' : Array Slot} {nL i : Nat} {lo : List (Option Value)} {v : Value} (hz : zok lo i = true) (h : lv_has ls' nL ((i, v) :: (zlist lo).filter (fun q => !(q.1 == i) && (!(q.1 == i + 1) && !(q.1 + 1 == i && q.2.category == 2))))) : zl ls' nL ((lo.set i (some v)).set (i + 1) none) := by
  refine ⟨h.1, h.2.1, fun j w hw => ?_⟩
  by_cases hj1 : j = i + 1
  · subst hj1
    have hlt := (List.getElem?_eq_some_iff.mp hw).1
    rw [List.length_set] at hlt
    rw [List.getElem?_set_self hlt] at hw
    cases hw
  · rw [List.getElem?_set_ne (fun q => hj1 q.symm)] at hw
    by_cases hj : j = i
    · subst hj
      have hlt : j < (lo.set j (some v)).length := (List.getElem?_eq_some_iff.mp hw).1
      rw [List.length_set] at hlt
      rw [List.getElem?_set_self hlt] at hw
      cases hw
      exact h.2.2 (j, v) List.mem_cons_self
    · rw [List.getElem?_set_ne (fun q => hj q.symm)] at hw
      refine h.2.2 (j, w) (List.mem_cons_of_mem _ (List.mem_filter.mpr ⟨zlist_mem hw, ?_⟩))
      simp only [Bool.and_eq_true, Bool.not_eq_true', beq_eq_false_iff_ne, ne_eq, Bool.and_eq_false_iff]
      refine ⟨hj, hj1, ?_⟩
      by_cases h1 : j + 1 = i
      · exact Or.inr (zok_spec hz h1 hw)
      · exact Or.inl h1
theorem zargs_mem : ∀ (vs : List Value) (k i : Nat) (v : Value), vs.all (fun v => v.category == 1) = true → vs[i]? = some v → (k + i, v) ∈ lv_args k vs
  | [], _, i, v, _, h => by simp at h
  | w :: vs, k, 0, v, _, h => by
    simp only [List.getElem?_cons_zero, Option.some.injEq] at h
    subst h
    exact List.mem_cons_self
  | w :: vs, k, i + 1, v, ha, h => by
    simp only [List.all_cons, Bool.and_eq_true, beq_iff_eq] at ha
    have h1 : ¬ w.category = 2 := by omega
    have := zargs_mem vs (k + 1) i v ha.2 (by simpa using h)
    unfold lv_args
    rw [if_neg h1]
    refine List.mem_cons_of_mem _ ?_
    rwa [show k + (i + 1) = k + 1 + i by omega]
theorem zl_entry {vs : List Value} {n : Nat} {ls : Array Slot} (ha : vs.all (fun v => v.category == 1) = true) (h : lv_has ls n (lv_args 0 vs)) : zl ls n (vs.map some ++ List.replicate (n - vs.length) none) := by
  refine ⟨h.1, h.2.1, fun i v hv => ?_⟩
  have hi : vs[i]? = some v := by
    by_cases hl : i < vs.length
    · rw [List.getElem?_append_left (by simpa using hl), List.getElem?_map] at hv
      cases hx : vs[i]? with
      | none => simp [hx] at hv
      | some w => simp only [hx, Option.map_some, Option.some.injEq] at hv; rw [hv]
    · rw [List.getElem?_append_right (by simpa using Nat.not_lt.mp hl)] at hv
      have := List.mem_of_getElem? hv
      rw [List.mem_replicate] at this
      cases this.2
  have := h.2.2 _ (zargs_mem vs 0 i v ha hi)
  simpa using this
/-- the world of a pool -/
abbrev zw (cI cZ cO : ClassId) (S : PS) : va_W := va_pl (pL S) (pF cI cZ cO S)
abbrev zTy (cI cZ cO : ClassId) : List (ClassId × FieldType) := [(cI, .int), (cZ, .boolean), (cO, .object "java/lang/Object")]
/-- the texts of the exceptions, by their entries in PurseWorld's pool -/
def zStr : List (Nat × String) := [(38, "no such balance"), (49, "too many purses"), (65, "a purse cannot pay itself"), (68, "no such amount"), (131, "the purse is not idle"), (148, "the archive has nothing of the purse"), (167, "one side has not told"), (173, "already refunded"), (185, "a purse tells 0 to 3"), (196, "no such transfer in the log"), (214, "no such purse"), (216, "no such message"), (218, "no such entry"), (226, "there is no such part"), (228, "too many messages")]
def zEx : List String := ["java/lang/IllegalArgumentException", "java/lang/UnsupportedOperationException", "java/lang/IndexOutOfBoundsException", "java/lang/IllegalStateException"]
/-- the classes whose objects stand in lists -/
def zOb : List String := [RX1, RX2, RX3, RX4]
/-- the constructors above the four exceptions -/
def zDe : List String := ["java/lang/RuntimeException", "java/lang/Exception", "java/lang/Throwable"]
/-- thrown, but not of the class that an earlier row of a table names -/
def zNc : List (String × String) := [("java/lang/UnsupportedOperationException", "java/lang/IllegalArgumentException"), ("java/lang/UnsupportedOperationException", "java/lang/IndexOutOfBoundsException"), ("java/lang/UnsupportedOperationException", "java/lang/IllegalStateException"), ("java/lang/IllegalArgumentException", "java/lang/IndexOutOfBoundsException"), ("java/lang/IllegalStateException", "java/lang/IndexOutOfBoundsException")]
/-- what of the start stays: ArrayList's empty array (G 0), the class object of Object[] (G 1), Throwable's two statics, the texts (G (10 + entry)) -/
def zG (G : Nat → Nat) (A : Nat → Prop) (U : State) (H : Heap) : Prop :=
  va_Z "java/util/ArrayList" "DEFAULTCAPACITY_EMPTY_ELEMENTDATA" "[Ljava/lang/Object;" (.ref (G 0)) A U H ∧ va_T (.object "java/lang/Object") (G 0) 0 (fun _ => .null) A U H ∧ va_Mi "[Ljava/lang/Object;" (G 1) U ∧
  vx_Zq Jvm.Bundle.tN "UNASSIGNED_STACK" Jvm.Bundle.steD A U H ∧ vx_Zq Jvm.Bundle.tN "SUPPRESSED_SENTINEL" Jvm.Bundle.listD A U H ∧ (∀ q ∈ zStr, vk_R RX5 q.1 q.2 (G (10 + q.1)) U) ∧ (∀ E ∈ zEx, va_Nw (.castable E E) U) ∧ (∀ C ∈ zOb, va_Nw (.castable C "java/lang/Object") U) ∧ (∀ q ∈ zNc, va_Nc q.1 q.2 U) ∧ (∀ Y ∈ zDe, va_Nw (.declares (Jvm.Bundle.initS Y)) U)
theorem zG.at {G : Nat → Nat} {A B : Nat → Prop} {u U : State} {H H1 : Heap} (h : zG G A u H) (hq : ∀ a : Nat, a < H.size → ¬ A a → H1[a]? = H[a]?) (hAB : ∀ q, B q → A q) (hW : u.WarmedH U.vm) : zG G B U H1 := by
  obtain ⟨h1, h2, h3, h4, h5, h6, h7, h8, h9, h10⟩ := h
  have hvm := hW.alike
  exact ⟨va_Z.moved hvm ((h1.kept hq).narrow hAB), va_T.moved hvm ((h2.kept hq).narrow hAB), h3.moved hvm, vx_Zq.moved hvm ((h4.kept hq).narrow hAB), vx_Zq.moved hvm ((h5.kept hq).narrow hAB), fun q hq => vk_R.warm hW (h6 q hq), fun E hE => va_Nw.warmC hW (h7 E hE), fun C hC => va_Nw.warmC hW (h8 C hC), fun q hq => (h9 q hq).moved hvm, fun Y hY => va_Nw.warmD hW (h10 Y hY)⟩
/-- what a body has at hand all the time -/
def ZC (p : Program) (s : State) (c : Code) (cc : ByteArray) (nL : Nat) (D : va_G) (cI cZ cO : ClassId) (A : Nat → Prop) (G : Nat → Nat) : Prop :=
  p.tables.exec = Jvm.exec ∧ c.code = cc ∧ c.maxLocals = nL ∧ va_K D vwCl (zTy cI cZ cO) s ∧ (∀ q, s.heap.size ≤ q → A q) ∧ zG G A s s.heap
/-- the machine, with pool S behind the cells X, at pc, locals lo, stack st, comes to Q -/
def ZW (p : Program) (l : Launch) (e : Env) (R : Room) (s : State) (m : MethodId) (args : Array Value) (below : List Frame) (meth : Method) (c : Code) (D : va_G) (cI cZ cO : ClassId) (A : Nat → Prop) (Q : State → Prop) (X : va_W) (nL : Nat) (S : PS) (cells slots pc : Nat) (lo : List (Option Value)) (st : List Value) : Prop :=
  ∀ (H : Heap) (locs : List Loc) (ls : Array Slot), va_P D vwCl (X ++ zw cI cZ cO S) H → va_D A (X ++ zw cI cZ cO S) → va_S A s.heap H locs → zl ls nL lo → W p l e R s m args below meth c H locs cells slots Q (F0 m pc ls st)
variable {p : Program} {l : Launch} {e : Env} {R : Room} {s : State} {m : MethodId} {args : Array Value} {below : List Frame} {meth : Method} {c : Code} {D : va_G} {cI cZ cO : ClassId} {A : Nat → Prop} {Q : State → Prop} {X : va_W} {nL : Nat} {S : PS} {cells slots pc : Nat} {lo : List (Option Value)} {st : List Value} {cc : ByteArray} {G : Nat → Nat}
theorem z_iconst (h0 : ZC p s c cc nL D cI cZ cO A G) {n : Int} {v : Int32} (hd : decode cc pc = .ok (.iconst n, 1)) (hv : Int32.ofInt n = v) (kk : ZW p l e R s m args below meth c D cI cZ cO A Q X nL S cells slots (pc + 1) lo (.int v :: st)) : ZW p l e R s m args below meth c D cI cZ cO A Q X nL S cells slots (pc) lo (st) := fun H locs ls hP hD hS hl9 => lv_iconst h0.1 h0.2.1 hd hv (kk H locs ls hP hD hS hl9)
theorem z_bipush (h0 : ZC p s c cc nL D cI cZ cO A G) {n : Int} {v : Int32} (hd : decode cc pc = .ok (.bipush n, 2)) (hv : (Int8.ofInt n).toInt32 = v) (kk : ZW p l e R s m args below meth c D cI cZ cO A Q X nL S cells slots (pc + 2) lo (.int v :: st)) : ZW p l e R s m args below meth c D cI cZ cO A Q X nL S cells slots (pc) lo (st) := fun H locs ls hP hD hS hl9 => lv_bipush h0.1 h0.2.1 hd hv (kk H locs ls hP hD hS hl9)
theorem z_sipush (h0 : ZC p s c cc nL D cI cZ cO A G) {n : Int} {v : Int32} (hd : decode cc pc = .ok (.sipush n, 3)) (hv : (Int16.ofInt n).toInt32 = v) (kk : ZW p l e R s m args below meth c D cI cZ cO A Q X nL S cells slots (pc + 3) lo (.int v :: st)) : ZW p l e R s m args below meth c D cI cZ cO A Q X nL S cells slots (pc) lo (st) := fun H locs ls hP hD hS hl9 => lv_sipush h0.1 h0.2.1 hd hv (kk H locs ls hP hD hS hl9)
theorem z_lconst (h0 : ZC p s c cc nL D cI cZ cO A G) {n : Fin 2} {v : Int64} (hd : decode cc pc = .ok (.lconst n, 1)) (hv : Int64.ofNat (n : Nat) = v) (kk : ZW p l e R s m args below meth c D cI cZ cO A Q X nL S cells slots (pc + 1) lo (.long v :: st)) : ZW p l e R s m args below meth c D cI cZ cO A Q X nL S cells slots (pc) lo (st) := fun H locs ls hP hD hS hl9 => lv_lconst h0.1 h0.2.1 hd hv (kk H locs ls hP hD hS hl9)
theorem z_iload_n (h0 : ZC p s c cc nL D cI cZ cO A G) {k : Fin 4} {x : Int32} (hd : decode cc pc = .ok (.iload_n k, 1)) (hl : lo[(k : Nat)]? = some (some (.int x))) (kk : ZW p l e R s m args below meth c D cI cZ cO A Q X nL S cells slots (pc + 1) lo (.int x :: st)) : ZW p l e R s m args below meth c D cI cZ cO A Q X nL S cells slots (pc) lo (st) := fun H locs ls hP hD hS hl9 => lv_iload_n h0.1 h0.2.1 hd rfl (hl9.2.2 _ _ hl) (kk H locs ls hP hD hS hl9)
theorem z_iload (h0 : ZC p s c cc nL D cI cZ cO A G) {k : Nat} {x : Int32} (hd : decode cc pc = .ok (.iload k, 2)) (hl : lo[k]? = some (some (.int x))) (kk : ZW p l e R s m args below meth c D cI cZ cO A Q X nL S cells slots (pc + 2) lo (.int x :: st)) : ZW p l e R s m args below meth c D cI cZ cO A Q X nL S cells slots (pc) lo (st) := fun H locs ls hP hD hS hl9 => lv_iload h0.1 h0.2.1 hd (hl9.2.2 _ _ hl) (kk H locs ls hP hD hS hl9)
theorem z_lload_n (h0 : ZC p s c cc nL D cI cZ cO A G) {k : Fin 4} {x : Int64} (hd : decode cc pc = .ok (.lload_n k, 1)) (hl : lo[(k : Nat)]? = some (some (.long x))) (kk : ZW p l e R s m args below meth c D cI cZ cO A Q X nL S cells slots (pc + 1) lo (.long x :: st)) : ZW p l e R s m args below meth c D cI cZ cO A Q X nL S cells slots (pc) lo (st) := fun H locs ls hP hD hS hl9 => lv_lload_n h0.1 h0.2.1 hd rfl (hl9.2.2 _ _ hl) (kk H locs ls hP hD hS hl9)
theorem z_lload (h0 : ZC p s c cc nL D cI cZ cO A G) {k : Nat} {x : Int64} (hd : decode cc pc = .ok (.lload k, 2)) (hl : lo[k]? = some (some (.long x))) (kk : ZW p l e R s m args below meth c D cI cZ cO A Q X nL S cells slots (pc + 2) lo (.long x :: st)) : ZW p l e R s m args below meth c D cI cZ cO A Q X nL S cells slots (pc) lo (st) := fun H locs ls hP hD hS hl9 => lv_lload h0.1 h0.2.1 hd (hl9.2.2 _ _ hl) (kk H locs ls hP hD hS hl9)
theorem z_aload_n (h0 : ZC p s c cc nL D cI cZ cO A G) {k : Fin 4} {x : Nat} (hd : decode cc pc = .ok (.aload_n k, 1)) (hl : lo[(k : Nat)]? = some (some (.ref x))) (kk : ZW p l e R s m args below meth c D cI cZ cO A Q X nL S cells slots (pc + 1) lo (.ref x :: st)) : ZW p l e R s m args below meth c D cI cZ cO A Q X nL S cells slots (pc) lo (st) := fun H locs ls hP hD hS hl9 => lv_aload_n h0.1 h0.2.1 hd rfl (hl9.2.2 _ _ hl) (kk H locs ls hP hD hS hl9)
theorem z_aload (h0 : ZC p s c cc nL D cI cZ cO A G) {k : Nat} {x : Nat} (hd : decode cc pc = .ok (.aload k, 2)) (hl : lo[k]? = some (some (.ref x))) (kk : ZW p l e R s m args below meth c D cI cZ cO A Q X nL S cells slots (pc + 2) lo (.ref x :: st)) : ZW p l e R s m args below meth c D cI cZ cO A Q X nL S cells slots (pc) lo (st) := fun H locs ls hP hD hS hl9 => lv_aload h0.1 h0.2.1 hd (hl9.2.2 _ _ hl) (kk H locs ls hP hD hS hl9)
theorem z_istore_n (h0 : ZC p s c cc nL D cI cZ cO A G) {k : Fin 4} {x : Int32} {lo' : List (Option Value)} (hd : decode cc pc = .ok (.istore_n k, 1)) (hn : (k : Nat) < nL) (hz : zok lo (k : Nat) = true) (hlo : lo.set (k : Nat) (some (.int x)) = lo') (kk : ZW p l e R s m args below meth c D cI cZ cO A Q X nL S cells slots (pc + 1) lo' (st)) : ZW p l e R s m args below meth c D cI cZ cO A Q X nL S cells slots (pc) lo (.int x :: st) := fun H locs ls hP hD hS hl9 => lv_istore_n h0.1 h0.2.1 hd rfl (zl_has hl9) hn rfl (fun ls' h9 => kk H locs ls' hP hD hS (hlo ▸ zl_1 hz h9))
theorem z_istore (h0 : ZC p s c cc nL D cI cZ cO A G) {k : Nat} {x : Int32} {lo' : List (Option Value)} (hd : decode cc pc = .ok (.istore k, 2)) (hn : k < nL) (hz : zok lo k = true) (hlo : lo.set k (some (.int x)) = lo') (kk : ZW p l e R s m args below meth c D cI cZ cO A Q X nL S cells slots (pc + 2) lo' (st)) : ZW p l e R s m args below meth c D cI cZ cO A Q X nL S cells slots (pc) lo (.int x :: st) := fun H locs ls hP hD hS hl9 => lv_istore h0.1 h0.2.1 hd (zl_has hl9) hn rfl (fun ls' h9 => kk H locs ls' hP hD hS (hlo ▸ zl_1 hz h9))
theorem z_astore_n (h0 : ZC p s c cc nL D cI cZ cO A G) {k : Fin 4} {x : Nat} {lo' : List (Option Value)} (hd : decode cc pc = .ok (.astore_n k, 1)) (hn : (k : Nat) < nL) (hz : zok lo (k : Nat) = true) (hlo : lo.set (k : Nat) (some (.ref x)) = lo') (kk : ZW p l e R s m args below meth c D cI cZ cO A Q X nL S cells slots (pc + 1) lo' (st)) : ZW p l e R s m args below meth c D cI cZ cO A Q X nL S cells slots (pc) lo (.ref x :: st) := fun H locs ls hP hD hS hl9 => lv_astore_n h0.1 h0.2.1 hd rfl (zl_has hl9) hn rfl (fun ls' h9 => kk H locs ls' hP hD hS (hlo ▸ zl_1 hz h9))
theorem z_astore (h0 : ZC p s c cc nL D cI cZ cO A G) {k : Nat} {x : Nat} {lo' : List (Option Value)} (hd : decode cc pc = .ok (.astore k, 2)) (hn : k < nL) (hz : zok lo k = true) (hlo : lo.set k (some (.ref x)) = lo') (kk : ZW p l e R s m args below meth c D cI cZ cO A Q X nL S cells slots (pc + 2) lo' (st)) : ZW p l e R s m args below meth c D cI cZ cO A Q X nL S cells slots (pc) lo (.ref x :: st) := fun H locs ls hP hD hS hl9 => lv_astore h0.1 h0.2.1 hd (zl_has hl9) hn rfl (fun ls' h9 => kk H locs ls' hP hD hS (hlo ▸ zl_1 hz h9))
theorem z_lstore_n (h0 : ZC p s c cc nL D cI cZ cO A G) {k : Fin 4} {x : Int64} {lo' : List (Option Value)} (hd : decode cc pc = .ok (.lstore_n k, 1)) (hn : (k : Nat) + 1 < nL) (hz : zok lo (k : Nat) = true) (hlo : (lo.set (k : Nat) (some (.long x))).set ((k : Nat) + 1) none = lo') (kk : ZW p l e R s m args below meth c D cI cZ cO A Q X nL S cells slots (pc + 1) lo' (st)) : ZW p l e R s m args below meth c D cI cZ cO A Q X nL S cells slots (pc) lo (.long x :: st) := fun H locs ls hP hD hS hl9 => lv_lstore_n h0.1 h0.2.1 hd rfl (zl_has hl9) hn rfl (fun ls' h9 => kk H locs ls' hP hD hS (hlo ▸ zl_2 hz h9))
theorem z_iinc (h0 : ZC p s c cc nL D cI cZ cO A G) {k : Nat} {n : Int} {x v : Int32} {lo' : List (Option Value)} (hd : decode cc pc = .ok (.iinc k n, 3)) (hl : lo[k]? = some (some (.int x))) (hv : x + Int32.ofInt n = v) (hn : k < nL) (hz : zok lo k = true) (hlo : lo.set k (some (.int v)) = lo') (kk : ZW p l e R s m args below meth c D cI cZ cO A Q X nL S cells slots (pc + 3) lo' (st)) : ZW p l e R s m args below meth c D cI cZ cO A Q X nL S cells slots (pc) lo (st) := by
  intro H locs ls hP hD hS hl9
  obtain ⟨i, hi⟩ := List.getElem?_of_mem (zlist_mem hl)
  exact lv_iinc h0.1 h0.2.1 hd (zl_has hl9) hi hv hn rfl (fun ls' h9 => kk H locs ls' hP hD hS (hlo ▸ zl_1 hz h9))
theorem z_iadd (h0 : ZC p s c cc nL D cI cZ cO A G) {x y : Int32} (hd : decode cc pc = .ok (.iadd, 1)) (kk : ZW p l e R s m args below meth c D cI cZ cO A Q X nL S cells slots (pc + 1) lo (.int (x + y) :: st)) : ZW p l e R s m args below meth c D cI cZ cO A Q X nL S cells slots (pc) lo (.int y :: .int x :: st) := fun H locs ls hP hD hS hl9 => lv_iadd h0.1 h0.2.1 hd (kk H locs ls hP hD hS hl9)
theorem z_isub (h0 : ZC p s c cc nL D cI cZ cO A G) {x y : Int32} (hd : decode cc pc = .ok (.isub, 1)) (kk : ZW p l e R s m args below meth c D cI cZ cO A Q X nL S cells slots (pc + 1) lo (.int (x - y) :: st)) : ZW p l e R s m args below meth c D cI cZ cO A Q X nL S cells slots (pc) lo (.int y :: .int x :: st) := fun H locs ls hP hD hS hl9 => lv_isub h0.1 h0.2.1 hd (kk H locs ls hP hD hS hl9)
theorem z_imul (h0 : ZC p s c cc nL D cI cZ cO A G) {x y : Int32} (hd : decode cc pc = .ok (.imul, 1)) (kk : ZW p l e R s m args below meth c D cI cZ cO A Q X nL S cells slots (pc + 1) lo (.int (x * y) :: st)) : ZW p l e R s m args below meth c D cI cZ cO A Q X nL S cells slots (pc) lo (.int y :: .int x :: st) := fun H locs ls hP hD hS hl9 => lv_imul h0.1 h0.2.1 hd (kk H locs ls hP hD hS hl9)
theorem z_iand (h0 : ZC p s c cc nL D cI cZ cO A G) {x y : Int32} (hd : decode cc pc = .ok (.iand, 1)) (kk : ZW p l e R s m args below meth c D cI cZ cO A Q X nL S cells slots (pc + 1) lo (.int (x &&& y) :: st)) : ZW p l e R s m args below meth c D cI cZ cO A Q X nL S cells slots (pc) lo (.int y :: .int x :: st) := fun H locs ls hP hD hS hl9 => lv_iand h0.1 h0.2.1 hd (kk H locs ls hP hD hS hl9)
theorem z_ladd (h0 : ZC p s c cc nL D cI cZ cO A G) {x y : Int64} (hd : decode cc pc = .ok (.ladd, 1)) (kk : ZW p l e R s m args below meth c D cI cZ cO A Q X nL S cells slots (pc + 1) lo (.long (x + y) :: st)) : ZW p l e R s m args below meth c D cI cZ cO A Q X nL S cells slots (pc) lo (.long y :: .long x :: st) := fun H locs ls hP hD hS hl9 => lv_ladd h0.1 h0.2.1 hd (kk H locs ls hP hD hS hl9)
theorem z_i2l (h0 : ZC p s c cc nL D cI cZ cO A G) {x : Int32} (hd : decode cc pc = .ok (.i2l, 1)) (kk : ZW p l e R s m args below meth c D cI cZ cO A Q X nL S cells slots (pc + 1) lo (.long x.toInt64 :: st)) : ZW p l e R s m args below meth c D cI cZ cO A Q X nL S cells slots (pc) lo (.int x :: st) := fun H locs ls hP hD hS hl9 => lv_i2l h0.1 h0.2.1 hd rfl (kk H locs ls hP hD hS hl9)
theorem z_lcmp (h0 : ZC p s c cc nL D cI cZ cO A G) {x y : Int64} (hd : decode cc pc = .ok (.lcmp, 1)) (kk : ZW p l e R s m args below meth c D cI cZ cO A Q X nL S cells slots (pc + 1) lo (.int (lg_cmp x y) :: st)) : ZW p l e R s m args below meth c D cI cZ cO A Q X nL S cells slots (pc) lo (.long y :: .long x :: st) := fun H locs ls hP hD hS hl9 => W.lcmp h0.1 h0.2.1 hd (kk H locs ls hP hD hS hl9)
theorem z_dup (h0 : ZC p s c cc nL D cI cZ cO A G) {va : Value} (hd : decode cc pc = .ok (.dup, 1)) (hva : va.category = 1) (kk : ZW p l e R s m args below meth c D cI cZ cO A Q X nL S cells slots (pc + 1) lo (va :: va :: st)) : ZW p l e R s m args below meth c D cI cZ cO A Q X nL S cells slots (pc) lo (va :: st) := fun H locs ls hP hD hS hl9 => lv_dup h0.1 h0.2.1 hd hva (kk H locs ls hP hD hS hl9)
theorem z_pop (h0 : ZC p s c cc nL D cI cZ cO A G) {va : Value} (hd : decode cc pc = .ok (.pop, 1)) (hva : va.category = 1) (kk : ZW p l e R s m args below meth c D cI cZ cO A Q X nL S cells slots (pc + 1) lo (st)) : ZW p l e R s m args below meth c D cI cZ cO A Q X nL S cells slots (pc) lo (va :: st) := fun H locs ls hP hD hS hl9 => lv_pop h0.1 h0.2.1 hd hva (kk H locs ls hP hD hS hl9)
theorem z_dup_x1 (h0 : ZC p s c cc nL D cI cZ cO A G) {va vb : Value} (hd : decode cc pc = .ok (.dup_x1, 1)) (hva : va.category = 1) (hvb : vb.category = 1) (kk : ZW p l e R s m args below meth c D cI cZ cO A Q X nL S cells slots (pc + 1) lo (va :: vb :: va :: st)) : ZW p l e R s m args below meth c D cI cZ cO A Q X nL S cells slots (pc) lo (va :: vb :: st) := fun H locs ls hP hD hS hl9 => lv_dup_x1 h0.1 h0.2.1 hd hva hvb (kk H locs ls hP hD hS hl9)
theorem z_dup2 (h0 : ZC p s c cc nL D cI cZ cO A G) {va vb : Value} (hd : decode cc pc = .ok (.dup2, 1)) (hva : va.category = 1) (hvb : vb.category = 1) (kk : ZW p l e R s m args below meth c D cI cZ cO A Q X nL S cells slots (pc + 1) lo (va :: vb :: va :: vb :: st)) : ZW p l e R s m args below meth c D cI cZ cO A Q X nL S cells slots (pc) lo (va :: vb :: st) := fun H locs ls hP hD hS hl9 => lv_dup2_11 h0.1 h0.2.1 hd hva hvb (kk H locs ls hP hD hS hl9)
theorem z_if_eq (h0 : ZC p s c cc nL D cI cZ cO A G) {x : Int32} {off : Int} {tgt : Nat} (hd : decode cc pc = .ok (.ifCond .eq off, 3)) (ht : (pc : Int) + off = (tgt : Int)) (kt : x = 0 → ZW p l e R s m args below meth c D cI cZ cO A Q X nL S cells slots (tgt) lo (st)) (kf : ¬ x = 0 → ZW p l e R s m args below meth c D cI cZ cO A Q X nL S cells slots (pc + 3) lo (st)) : ZW p l e R s m args below meth c D cI cZ cO A Q X nL S cells slots (pc) lo (.int x :: st) := fun H locs ls hP hD hS hl9 => lv_if_eq h0.1 h0.2.1 hd ht (fun q => kt q H locs ls hP hD hS hl9) (fun q => kf q H locs ls hP hD hS hl9)
theorem z_if_ne (h0 : ZC p s c cc nL D cI cZ cO A G) {x : Int32} {off : Int} {tgt : Nat} (hd : decode cc pc = .ok (.ifCond .ne off, 3)) (ht : (pc : Int) + off = (tgt : Int)) (kt : ¬ x = 0 → ZW p l e R s m args below meth c D cI cZ cO A Q X nL S cells slots (tgt) lo (st)) (kf : x = 0 → ZW p l e R s m args below meth c D cI cZ cO A Q X nL S cells slots (pc + 3) lo (st)) : ZW p l e R s m args below meth c D cI cZ cO A Q X nL S cells slots (pc) lo (.int x :: st) := fun H locs ls hP hD hS hl9 => lv_if_ne h0.1 h0.2.1 hd ht (fun q => kt q H locs ls hP hD hS hl9) (fun q => kf q H locs ls hP hD hS hl9)
theorem z_if_lt (h0 : ZC p s c cc nL D cI cZ cO A G) {x : Int32} {off : Int} {tgt : Nat} (hd : decode cc pc = .ok (.ifCond .lt off, 3)) (ht : (pc : Int) + off = (tgt : Int)) (kt : x < 0 → ZW p l e R s m args below meth c D cI cZ cO A Q X nL S cells slots (tgt) lo (st)) (kf : ¬ x < 0 → ZW p l e R s m args below meth c D cI cZ cO A Q X nL S cells slots (pc + 3) lo (st)) : ZW p l e R s m args below meth c D cI cZ cO A Q X nL S cells slots (pc) lo (.int x :: st) := fun H locs ls hP hD hS hl9 => lv_if_lt h0.1 h0.2.1 hd ht (fun q => kt q H locs ls hP hD hS hl9) (fun q => kf q H locs ls hP hD hS hl9)
theorem z_if_ge (h0 : ZC p s c cc nL D cI cZ cO A G) {x : Int32} {off : Int} {tgt : Nat} (hd : decode cc pc = .ok (.ifCond .ge off, 3)) (ht : (pc : Int) + off = (tgt : Int)) (kt : 0 ≤ x → ZW p l e R s m args below meth c D cI cZ cO A Q X nL S cells slots (tgt) lo (st)) (kf : ¬ 0 ≤ x → ZW p l e R s m args below meth c D cI cZ cO A Q X nL S cells slots (pc + 3) lo (st)) : ZW p l e R s m args below meth c D cI cZ cO A Q X nL S cells slots (pc) lo (.int x :: st) := fun H locs ls hP hD hS hl9 => lv_if_ge h0.1 h0.2.1 hd ht (fun q => kt q H locs ls hP hD hS hl9) (fun q => kf q H locs ls hP hD hS hl9)
theorem z_if_gt (h0 : ZC p s c cc nL D cI cZ cO A G) {x : Int32} {off : Int} {tgt : Nat} (hd : decode cc pc = .ok (.ifCond .gt off, 3)) (ht : (pc : Int) + off = (tgt : Int)) (kt : 0 < x → ZW p l e R s m args below meth c D cI cZ cO A Q X nL S cells slots (tgt) lo (st)) (kf : ¬ 0 < x → ZW p l e R s m args below meth c D cI cZ cO A Q X nL S cells slots (pc + 3) lo (st)) : ZW p l e R s m args below meth c D cI cZ cO A Q X nL S cells slots (pc) lo (.int x :: st) := fun H locs ls hP hD hS hl9 => lv_if_gt h0.1 h0.2.1 hd ht (fun q => kt q H locs ls hP hD hS hl9) (fun q => kf q H locs ls hP hD hS hl9)
theorem z_if_le (h0 : ZC p s c cc nL D cI cZ cO A G) {x : Int32} {off : Int} {tgt : Nat} (hd : decode cc pc = .ok (.ifCond .le off, 3)) (ht : (pc : Int) + off = (tgt : Int)) (kt : x ≤ 0 → ZW p l e R s m args below meth c D cI cZ cO A Q X nL S cells slots (tgt) lo (st)) (kf : ¬ x ≤ 0 → ZW p l e R s m args below meth c D cI cZ cO A Q X nL S cells slots (pc + 3) lo (st)) : ZW p l e R s m args below meth c D cI cZ cO A Q X nL S cells slots (pc) lo (.int x :: st) := fun H locs ls hP hD hS hl9 => lv_if_le h0.1 h0.2.1 hd ht (fun q => kt q H locs ls hP hD hS hl9) (fun q => kf q H locs ls hP hD hS hl9)
theorem z_icmp_eq (h0 : ZC p s c cc nL D cI cZ cO A G) {x y : Int32} {off : Int} {tgt : Nat} (hd : decode cc pc = .ok (.if_icmp .eq off, 3)) (ht : (pc : Int) + off = (tgt : Int)) (kt : x = y → ZW p l e R s m args below meth c D cI cZ cO A Q X nL S cells slots (tgt) lo (st)) (kf : ¬ x = y → ZW p l e R s m args below meth c D cI cZ cO A Q X nL S cells slots (pc + 3) lo (st)) : ZW p l e R s m args below meth c D cI cZ cO A Q X nL S cells slots (pc) lo (.int y :: .int x :: st) := fun H locs ls hP hD hS hl9 => lv_icmp_eq h0.1 h0.2.1 hd ht (fun q => kt q H locs ls hP hD hS hl9) (fun q => kf q H locs ls hP hD hS hl9)
theorem z_icmp_ne (h0 : ZC p s c cc nL D cI cZ cO A G) {x y : Int32} {off : Int} {tgt : Nat} (hd : decode cc pc = .ok (.if_icmp .ne off, 3)) (ht : (pc : Int) + off = (tgt : Int)) (kt : ¬ x = y → ZW p l e R s m args below meth c D cI cZ cO A Q X nL S cells slots (tgt) lo (st)) (kf : x = y → ZW p l e R s m args below meth c D cI cZ cO A Q X nL S cells slots (pc + 3) lo (st)) : ZW p l e R s m args below meth c D cI cZ cO A Q X nL S cells slots (pc) lo (.int y :: .int x :: st) := fun H locs ls hP hD hS hl9 => lv_icmp_ne h0.1 h0.2.1 hd ht (fun q => kt q H locs ls hP hD hS hl9) (fun q => kf q H locs ls hP hD hS hl9)
theorem z_icmp_lt (h0 : ZC p s c cc nL D cI cZ cO A G) {x y : Int32} {off : Int} {tgt : Nat} (hd : decode cc pc = .ok (.if_icmp .lt off, 3)) (ht : (pc : Int) + off = (tgt : Int)) (kt : x < y → ZW p l e R s m args below meth c D cI cZ cO A Q X nL S cells slots (tgt) lo (st)) (kf : ¬ x < y → ZW p l e R s m args below meth c D cI cZ cO A Q X nL S cells slots (pc + 3) lo (st)) : ZW p l e R s m args below meth c D cI cZ cO A Q X nL S cells slots (pc) lo (.int y :: .int x :: st) := fun H locs ls hP hD hS hl9 => lv_icmp_lt h0.1 h0.2.1 hd ht (fun q => kt q H locs ls hP hD hS hl9) (fun q => kf q H locs ls hP hD hS hl9)
theorem z_icmp_ge (h0 : ZC p s c cc nL D cI cZ cO A G) {x y : Int32} {off : Int} {tgt : Nat} (hd : decode cc pc = .ok (.if_icmp .ge off, 3)) (ht : (pc : Int) + off = (tgt : Int)) (kt : y ≤ x → ZW p l e R s m args below meth c D cI cZ cO A Q X nL S cells slots (tgt) lo (st)) (kf : ¬ y ≤ x → ZW p l e R s m args below meth c D cI cZ cO A Q X nL S cells slots (pc + 3) lo (st)) : ZW p l e R s m args below meth c D cI cZ cO A Q X nL S cells slots (pc) lo (.int y :: .int x :: st) := fun H locs ls hP hD hS hl9 => lv_icmp_ge h0.1 h0.2.1 hd ht (fun q => kt q H locs ls hP hD hS hl9) (fun q => kf q H locs ls hP hD hS hl9)
theorem z_icmp_gt (h0 : ZC p s c cc nL D cI cZ cO A G) {x y : Int32} {off : Int} {tgt : Nat} (hd : decode cc pc = .ok (.if_icmp .gt off, 3)) (ht : (pc : Int) + off = (tgt : Int)) (kt : y < x → ZW p l e R s m args below meth c D cI cZ cO A Q X nL S cells slots (tgt) lo (st)) (kf : ¬ y < x → ZW p l e R s m args below meth c D cI cZ cO A Q X nL S cells slots (pc + 3) lo (st)) : ZW p l e R s m args below meth c D cI cZ cO A Q X nL S cells slots (pc) lo (.int y :: .int x :: st) := fun H locs ls hP hD hS hl9 => lv_icmp_gt h0.1 h0.2.1 hd ht (fun q => kt q H locs ls hP hD hS hl9) (fun q => kf q H locs ls hP hD hS hl9)
theorem z_icmp_le (h0 : ZC p s c cc nL D cI cZ cO A G) {x y : Int32} {off : Int} {tgt : Nat} (hd : decode cc pc = .ok (.if_icmp .le off, 3)) (ht : (pc : Int) + off = (tgt : Int)) (kt : x ≤ y → ZW p l e R s m args below meth c D cI cZ cO A Q X nL S cells slots (tgt) lo (st)) (kf : ¬ x ≤ y → ZW p l e R s m args below meth c D cI cZ cO A Q X nL S cells slots (pc + 3) lo (st)) : ZW p l e R s m args below meth c D cI cZ cO A Q X nL S cells slots (pc) lo (.int y :: .int x :: st) := fun H locs ls hP hD hS hl9 => lv_icmp_le h0.1 h0.2.1 hd ht (fun q => kt q H locs ls hP hD hS hl9) (fun q => kf q H locs ls hP hD hS hl9)
theorem z_goto (h0 : ZC p s c cc nL D cI cZ cO A G) {off : Int} {tgt : Nat} (hd : decode cc pc = .ok (.goto off, 3)) (ht : (pc : Int) + off = (tgt : Int)) (kk : ZW p l e R s m args below meth c D cI cZ cO A Q X nL S cells slots (tgt) lo (st)) : ZW p l e R s m args below meth c D cI cZ cO A Q X nL S cells slots (pc) lo (st) := fun H locs ls hP hD hS hl9 => lv_goto h0.1 h0.2.1 hd ht (kk H locs ls hP hD hS hl9)
theorem z_ldc (h0 : ZC p s c cc nL D cI cZ cO A G) {own : String} {index : Nat} {v : Int32} (hown : s.vm.findClass own = some m.cls) (hc : (Jvm.Cond.constant own index v).before args s = true) (hd : decode cc pc = .ok (.ldc index, 2)) (kk : ZW p l e R s m args below meth c D cI cZ cO A Q X nL S cells slots (pc + 2) lo (.int v :: st)) : ZW p l e R s m args below meth c D cI cZ cO A Q X nL S cells slots (pc) lo (st) := fun H locs ls hP hD hS hl9 => lv_ldc h0.1 h0.2.1 hown hc hd (kk H locs ls hP hD hS hl9)
theorem z_lookup (h0 : ZC p s c cc nL D cI cZ cO A G) {dflt : Int} {ps : Array (Int × Int)} {len : Nat} {x : Int32} {off : Int} {tgt : Nat} (hd : decode cc pc = .ok (.lookupswitch dflt ps, len)) (hp : (ps.toList.zip (ps.toList.drop 1)).all (fun (a, next) => a.1 < next.1) = true) (ho : Op.lookupswitch.offset ps.toList dflt x.toInt = off) (ht : (pc : Int) + off = (tgt : Int)) (kk : ZW p l e R s m args below meth c D cI cZ cO A Q X nL S cells slots (tgt) lo (st)) : ZW p l e R s m args below meth c D cI cZ cO A Q X nL S cells slots (pc) lo (.int x :: st) := fun H locs ls hP hD hS hl9 => lv_lookup h0.1 h0.2.1 hd hp ho ht (kk H locs ls hP hD hS hl9)
theorem z_tableOut (h0 : ZC p s c cc nL D cI cZ cO A G) {dflt lw hi : Int} {offs : Array Int} {len : Nat} {x : Int32} {tgt : Nat} (hd : decode cc pc = .ok (.tableswitch dflt lw hi offs, len)) (h : x.toInt < lw ∨ hi < x.toInt) (ht : (pc : Int) + dflt = (tgt : Int)) (kk : ZW p l e R s m args below meth c D cI cZ cO A Q X nL S cells slots (tgt) lo (st)) : ZW p l e R s m args below meth c D cI cZ cO A Q X nL S cells slots (pc) lo (.int x :: st) := fun H locs ls hP hD hS hl9 => lv_tableOut h0.1 h0.2.1 hd h ht (kk H locs ls hP hD hS hl9)
theorem z_tableIn (h0 : ZC p s c cc nL D cI cZ cO A G) {dflt lw hi : Int} {offs : Array Int} {len : Nat} {x : Int32} {off : Int} {tgt : Nat} (hd : decode cc pc = .ok (.tableswitch dflt lw hi offs, len)) (h1 : ¬ x.toInt < lw) (h2 : ¬ hi < x.toInt) (ho : offs[(x.toInt - lw).toNat]? = some off) (ht : (pc : Int) + off = (tgt : Int)) (kk : ZW p l e R s m args below meth c D cI cZ cO A Q X nL S cells slots (tgt) lo (st)) : ZW p l e R s m args below meth c D cI cZ cO A Q X nL S cells slots (pc) lo (.int x :: st) := fun H locs ls hP hD hS hl9 => lv_tableIn h0.1 h0.2.1 hd h1 h2 ho ht (kk H locs ls hP hD hS hl9)
theorem z_null (h0 : ZC p s c cc nL D cI cZ cO A G) (hd : decode cc pc = .ok (.aconst_null, 1)) (kk : ZW p l e R s m args below meth c D cI cZ cO A Q X nL S cells slots (pc + 1) lo (.null :: st)) : ZW p l e R s m args below meth c D cI cZ cO A Q X nL S cells slots (pc) lo (st) := fun H locs ls hP hD hS hl9 => lv_null h0.1 h0.2.1 hd (kk H locs ls hP hD hS hl9)
/-- a field's link, for reading -/
def zLk (s : State) (m : MethodId) (args : Array Value) (own : String) (index ci pos : Nat) : Prop := ∃ (C : String) (T : u_T) (N : Nat) (ref : String) (Ts : List Cond), vwCl[ci]? = some (C, T, N) ∧ pos < N ∧ (∀ w ∈ Ts, w.before args s = true) ∧ (∀ w ∈ u_ws C T N, w ∈ Ts) ∧ s.vm.findClass own = some m.cls ∧
  (Cond.fieldLink own index ref (T pos).2.1 (T pos).2.2.1).before args s = true ∧ (∀ x, s.fieldFound? (T pos).1 (T pos).2.1 (T pos).2.2.1 = some x → s.fieldFound? ref (T pos).2.1 (T pos).2.2.1 = some x)
/-- .. and for writing -/
def zLp (s : State) (m : MethodId) (args : Array Value) (meth : Method) (own : String) (index ci pos : Nat) (ty : FieldType) : Prop := ∃ (C : String) (T : u_T) (N : Nat) (ref : String) (Ts : List Cond) (ty0 : Nat → FieldType), vwCl[ci]? = some (C, T, N) ∧ pos < N ∧ (∀ w ∈ Ts, w.before args s = true) ∧ (∀ w ∈ u_ws C T N, w ∈ Ts) ∧ s.vm.findClass own = some m.cls ∧
  (Cond.fieldLink own index ref (T pos).2.1 (T pos).2.2.1).before args s = true ∧ (∀ x, s.fieldFound? (T pos).1 (T pos).2.1 (T pos).2.2.1 = some x → s.fieldFound? ref (T pos).2.1 (T pos).2.2.1 = some x) ∧
  (∀ k, k < N → parseFieldDescriptor (T k).2.2.1 = some (ty0 k)) ∧ (∀ a, a < N → ∀ b, b < N → a ≠ b → (T a).2.1 ≠ (T b).2.1) ∧ parseFieldDescriptor (T pos).2.2.1 = some ty ∧ ((T pos).2.2.2 = false ∨ ((T pos).2.2.2 = true ∧ meth.name = "<init>" ∧ (T pos).1 = own))
theorem z_getI (h0 : ZC p s c cc nL D cI cZ cO A G) {k ci pos f index : Nat} {own : String} (hf : fIok k ci pos f) (hk : zLk s m args own index ci pos) (hd : decode cc pc = .ok (.getfield index, 3)) {a : Nat} (ha : isK S k a) (kk : ZW p l e R s m args below meth c D cI cZ cO A Q X nL S cells slots (pc + 3) lo (.int (pI S f a) :: st)) : ZW p l e R s m args below meth c D cI cZ cO A Q X nL S cells slots (pc) lo (.ref a :: st) := by
  intro H locs ls hP hD hS hl9
  obtain ⟨C, T, N, ref, Ts, hc, hp, hts, hin, hown, hlink, hsame⟩ := hk
  obtain ⟨fs, e1, e2, -, -⟩ := hf cI cZ cO S a ha.2
  obtain ⟨q0, hq⟩ := va_pl_get (X := X) (f := pF cI cZ cO S) ha.1
  rw [e1] at hq
  exact va_get h0.1 h0.2.1 hts hin hown h0.2.2.2.1 hP q0 hq hc pos hp hlink hsame e2 hd (kk H locs ls hP hD hS hl9)
theorem z_getO (h0 : ZC p s c cc nL D cI cZ cO A G) {k ci pos f index : Nat} {own : String} (hf : fOok k ci pos f) (hk : zLk s m args own index ci pos) (hd : decode cc pc = .ok (.getfield index, 3)) {a b : Nat} (ha : isK S k a) (hb : pO S f a = some b) (kk : ZW p l e R s m args below meth c D cI cZ cO A Q X nL S cells slots (pc + 3) lo (.ref b :: st)) : ZW p l e R s m args below meth c D cI cZ cO A Q X nL S cells slots (pc) lo (.ref a :: st) := by
  intro H locs ls hP hD hS hl9
  obtain ⟨C, T, N, ref, Ts, hc, hp, hts, hin, hown, hlink, hsame⟩ := hk
  obtain ⟨fs, e1, e2, -, -⟩ := hf cI cZ cO S a ha.2
  obtain ⟨q0, hq⟩ := va_pl_get (X := X) (f := pF cI cZ cO S) ha.1
  rw [e1] at hq
  rw [hb] at e2
  exact va_get h0.1 h0.2.1 hts hin hown h0.2.2.2.1 hP q0 hq hc pos hp hlink hsame e2 hd (kk H locs ls hP hD hS hl9)
theorem z_putI (h0 : ZC p s c cc nL D cI cZ cO A G) {k ci pos f index : Nat} {own : String} {ty : FieldType} (hf : fIok k ci pos f) (hk : zLp s m args meth own index ci pos ty) (hd : decode cc pc = .ok (.putfield index, 3)) {a : Nat} {v : Int32} (ha : isK S k a) (hn : narrow ty (.int v) = .int v) (hfit : fits ty (.int v) = true) (kk : ZW p l e R s m args below meth c D cI cZ cO A Q X nL (sI S f a v) cells slots (pc + 3) lo (st)) : ZW p l e R s m args below meth c D cI cZ cO A Q X nL S cells slots (pc) lo (.int v :: .ref a :: st) := by
  intro H locs ls hP hD hS hl9
  obtain ⟨C, T, N, ref, Ts, ty0, hc, hp, hts, hin, hown, hlink, hsame, hty, hnm, hpd, hfin⟩ := hk
  obtain ⟨fs, e1, e2, e3, e4⟩ := hf cI cZ cO S a ha.2
  obtain ⟨q0, hq⟩ := va_pl_get (X := X) (f := pF cI cZ cO S) ha.1
  have heq : (X ++ zw cI cZ cO S).set q0 (a, .inr (ci, fs.set pos (.int v))) = X ++ zw cI cZ cO (sI S f a v) := by
    rw [va_pl_set hD ha.1 hq]
    exact congrArg (fun w => X ++ w) (va_pl_congr (e4 v))
  rw [e1] at hq
  rcases hfin with hfin | ⟨hfin, hin2, hdecl⟩
  · exact va_put h0.1 h0.2.1 hts hin ty0 hty hnm hown h0.2.2.2.1 hP hD hS q0 hq hc pos hp hlink hsame hfin hpd hn hfit e3 hd (fun H1 locs1 g1 g2 g3 => kk H1 locs1 ls (heq ▸ g1) (heq ▸ g2) g3 hl9)
  · exact va_putF h0.1 h0.2.1 hts hin ty0 hty hnm hown h0.2.2.2.1 hP hD hS q0 hq hc pos hp hlink hsame hfin hin2 hdecl hpd hn hfit e3 hd (fun H1 locs1 g1 g2 g3 => kk H1 locs1 ls (heq ▸ g1) (heq ▸ g2) g3 hl9)
theorem z_putO (h0 : ZC p s c cc nL D cI cZ cO A G) {k ci pos f index : Nat} {own : String} {ty : FieldType} (hf : fOok k ci pos f) (hk : zLp s m args meth own index ci pos ty) (hd : decode cc pc = .ok (.putfield index, 3)) {a b : Nat} (ha : isK S k a) (hn : narrow ty (.ref b) = .ref b) (hfit : fits ty (.ref b) = true) (kk : ZW p l e R s m args below meth c D cI cZ cO A Q X nL (sO S f a (some b)) cells slots (pc + 3) lo (st)) : ZW p l e R s m args below meth c D cI cZ cO A Q X nL S cells slots (pc) lo (.ref b :: .ref a :: st) := by
  intro H locs ls hP hD hS hl9
  obtain ⟨C, T, N, ref, Ts, ty0, hc, hp, hts, hin, hown, hlink, hsame, hty, hnm, hpd, hfin⟩ := hk
  obtain ⟨fs, e1, e2, e3, e4⟩ := hf cI cZ cO S a ha.2
  obtain ⟨q0, hq⟩ := va_pl_get (X := X) (f := pF cI cZ cO S) ha.1
  have heq : (X ++ zw cI cZ cO S).set q0 (a, .inr (ci, fs.set pos (.ref b))) = X ++ zw cI cZ cO (sO S f a (some b)) := by
    rw [va_pl_set hD ha.1 hq]
    exact congrArg (fun w => X ++ w) (va_pl_congr (e4 (some b)))
  rw [e1] at hq
  rcases hfin with hfin | ⟨hfin, hin2, hdecl⟩
  · exact va_put h0.1 h0.2.1 hts hin ty0 hty hnm hown h0.2.2.2.1 hP hD hS q0 hq hc pos hp hlink hsame hfin hpd hn hfit e3 hd (fun H1 locs1 g1 g2 g3 => kk H1 locs1 ls (heq ▸ g1) (heq ▸ g2) g3 hl9)
  · exact va_putF h0.1 h0.2.1 hts hin ty0 hty hnm hown h0.2.2.2.1 hP hD hS q0 hq hc pos hp hlink hsame hfin hin2 hdecl hpd hn hfit e3 hd (fun H1 locs1 g1 g2 g3 => kk H1 locs1 ls (heq ▸ g1) (heq ▸ g2) g3 hl9)
theorem zi_clamp {i : Int32} {j : Nat} (h : i.toInt = (j : Int)) : i.toNatClampNeg = j := by
  have : (i.toNatClampNeg : Int) = i.toInt := by
    show ((i.toInt.toNat : Nat) : Int) = _
    rw [Int.toNat_of_nonneg (by omega)]
  omega
theorem zi_in {i : Int32} {j n : Nat} (h : i.toInt = (j : Int)) (hj : j < n) : vp_in i n := vp_in_iff.mpr ⟨by omega, by omega⟩
theorem pF_8 {S : PS} {a : Nat} (h : pK S a = 8) : pF cI cZ cO S a = .inl (cI, pN S a, .inl (pR S a)) := by unfold pF; rw [h]; rfl
theorem pF_9 {S : PS} {a : Nat} (h : pK S a = 9) : pF cI cZ cO S a = .inl (cZ, pN S a, .inl (pR S a)) := by unfold pF; rw [h]; rfl
theorem pF_10 {S : PS} {a : Nat} (h : pK S a = 10) : pF cI cZ cO S a = .inl (cO, pN S a, .inr (.inr (.inr (.inr (pQ S a))))) := by unfold pF; rw [h]; rfl
theorem up2_upd {f : Nat → Nat → Int32} {a j : Nat} {v : Int32} : up2 f a j v a = upd (f a) j v := by funext b; simp [up2, upd]
theorem up2_va {α : Type} {f : Nat → Nat → α} {a j : Nat} {v : α} : up2 f a j v a = va_up (f a) j v := by funext b; simp [up2, va_up]
theorem pF_sR {S : PS} {a b j : Nat} {v : Int32} (h : b ≠ a) : pF cI cZ cO (sR S a j v) b = pF cI cZ cO S b := pE_congr (fun _ => rfl) (fun _ => rfl) rfl (up2_row _ _ h) rfl
theorem pF_sQ {S : PS} {a b j : Nat} {v : Option Nat} (h : b ≠ a) : pF cI cZ cO (sQ S a j v) b = pF cI cZ cO S b := pE_congr (fun _ => rfl) (fun _ => rfl) rfl rfl (up2_row _ _ h)
theorem pF_sQQ {S : PS} {a b : Nat} {g : Nat → Option Nat} (h : b ≠ a) : pF cI cZ cO (sQQ S a g) b = pF cI cZ cO S b := pE_congr (fun _ => rfl) (fun _ => rfl) rfl rfl (va_up_ne _ _ h)
theorem z_iald (h0 : ZC p s c cc nL D cI cZ cO A G) {a j : Nat} {i : Int32} (hd : decode cc pc = .ok (.iaload, 1)) (ha : isK S 8 a) (hi : i.toInt = (j : Int)) (hj : j < pN S a) (kk : ZW p l e R s m args below meth c D cI cZ cO A Q X nL S cells slots (pc + 1) lo (.int (pR S a j) :: st)) : ZW p l e R s m args below meth c D cI cZ cO A Q X nL S cells slots (pc) lo (.int i :: .ref a :: st) := by
  intro H locs ls hP hD hS hl9
  obtain ⟨q0, hq⟩ := va_pl_get (X := X) (f := pF cI cZ cO S) ha.1
  rw [pF_8 ha.2] at hq
  refine va_iald h0.1 h0.2.1 h0.2.2.2.1 hP q0 0 hq rfl (zi_in hi hj) hd ?_
  rw [zi_clamp hi]
  exact kk H locs ls hP hD hS hl9
theorem z_zald (h0 : ZC p s c cc nL D cI cZ cO A G) {a j : Nat} {i : Int32} (hd : decode cc pc = .ok (.baload, 1)) (ha : isK S 9 a) (hi : i.toInt = (j : Int)) (hj : j < pN S a) (kk : ZW p l e R s m args below meth c D cI cZ cO A Q X nL S cells slots (pc + 1) lo (.int (pR S a j) :: st)) : ZW p l e R s m args below meth c D cI cZ cO A Q X nL S cells slots (pc) lo (.int i :: .ref a :: st) := by
  intro H locs ls hP hD hS hl9
  obtain ⟨q0, hq⟩ := va_pl_get (X := X) (f := pF cI cZ cO S) ha.1
  rw [pF_9 ha.2] at hq
  refine va_zald h0.1 h0.2.1 h0.2.2.2.1 hP q0 1 hq rfl (zi_in hi hj) hd ?_
  rw [zi_clamp hi]
  exact kk H locs ls hP hD hS hl9
theorem z_aldq (h0 : ZC p s c cc nL D cI cZ cO A G) {a j b : Nat} {i : Int32} (hd : decode cc pc = .ok (.aaload, 1)) (ha : isK S 10 a) (hi : i.toInt = (j : Int)) (hj : j < pN S a) (hb : pQ S a j = some b) (kk : ZW p l e R s m args below meth c D cI cZ cO A Q X nL S cells slots (pc + 1) lo (.ref b :: st)) : ZW p l e R s m args below meth c D cI cZ cO A Q X nL S cells slots (pc) lo (.int i :: .ref a :: st) := by
  intro H locs ls hP hD hS hl9
  obtain ⟨q0, hq⟩ := va_pl_get (X := X) (f := pF cI cZ cO S) ha.1
  rw [pF_10 ha.2] at hq
  refine va_aldq h0.1 h0.2.1 h0.2.2.2.1 hP q0 2 hq rfl (zi_in hi hj) hd ?_
  rw [zi_clamp hi, hb]
  exact kk H locs ls hP hD hS hl9
theorem z_iast (h0 : ZC p s c cc nL D cI cZ cO A G) {a j : Nat} {i v : Int32} (hd : decode cc pc = .ok (.iastore, 1)) (ha : isK S 8 a) (hi : i.toInt = (j : Int)) (hj : j < pN S a) (kk : ZW p l e R s m args below meth c D cI cZ cO A Q X nL (sR S a j v) cells slots (pc + 1) lo (st)) : ZW p l e R s m args below meth c D cI cZ cO A Q X nL S cells slots (pc) lo (.int v :: .int i :: .ref a :: st) := by
  intro H locs ls hP hD hS hl9
  obtain ⟨q0, hq⟩ := va_pl_get (X := X) (f := pF cI cZ cO S) ha.1
  have heq : (X ++ zw cI cZ cO S).set q0 (a, .inl (cI, pN S a, .inl (upd (pR S a) j v))) = X ++ zw cI cZ cO (sR S a j v) := by
    rw [va_pl_set hD ha.1 hq]
    refine congrArg (fun w => X ++ w) (va_pl_congr (fun b => ?_))
    by_cases hb : b = a
    · subst hb
      rw [va_up_self, pF_8 (S := sR S b j v) ha.2]
      exact congrArg (fun g => Sum.inl (cI, pN S b, Sum.inl g)) up2_upd.symm
    · rw [va_up_ne _ _ hb, pF_sR hb]
  rw [pF_8 ha.2] at hq
  refine va_iast h0.1 h0.2.1 h0.2.2.2.1 hP hD hS q0 0 hq rfl (zi_in hi hj) hd (fun H1 locs1 g1 g2 g3 => ?_)
  rw [zi_clamp hi, heq] at g1 g2
  exact kk H1 locs1 ls g1 g2 g3 hl9
theorem z_zast (h0 : ZC p s c cc nL D cI cZ cO A G) {a j : Nat} {i v : Int32} (hd : decode cc pc = .ok (.bastore, 1)) (ha : isK S 9 a) (hi : i.toInt = (j : Int)) (hj : j < pN S a) (hv : vp_nar .boolean v = v) (kk : ZW p l e R s m args below meth c D cI cZ cO A Q X nL (sR S a j v) cells slots (pc + 1) lo (st)) : ZW p l e R s m args below meth c D cI cZ cO A Q X nL S cells slots (pc) lo (.int v :: .int i :: .ref a :: st) := by
  intro H locs ls hP hD hS hl9
  obtain ⟨q0, hq⟩ := va_pl_get (X := X) (f := pF cI cZ cO S) ha.1
  have heq : (X ++ zw cI cZ cO S).set q0 (a, .inl (cZ, pN S a, .inl (upd (pR S a) j v))) = X ++ zw cI cZ cO (sR S a j v) := by
    rw [va_pl_set hD ha.1 hq]
    refine congrArg (fun w => X ++ w) (va_pl_congr (fun b => ?_))
    by_cases hb : b = a
    · subst hb
      rw [va_up_self, pF_9 (S := sR S b j v) ha.2]
      exact congrArg (fun g => Sum.inl (cZ, pN S b, Sum.inl g)) up2_upd.symm
    · rw [va_up_ne _ _ hb, pF_sR hb]
  rw [pF_9 ha.2] at hq
  refine va_zast h0.1 h0.2.1 h0.2.2.2.1 hP hD hS q0 1 hq rfl (zi_in hi hj) hd (fun H1 locs1 g1 g2 g3 => ?_)
  rw [zi_clamp hi, hv, heq] at g1 g2
  exact kk H1 locs1 ls g1 g2 g3 hl9
theorem z_alen8 (h0 : ZC p s c cc nL D cI cZ cO A G) {a : Nat} (hd : decode cc pc = .ok (.arraylength, 1)) (ha : isK S 8 a) (kk : ZW p l e R s m args below meth c D cI cZ cO A Q X nL S cells slots (pc + 1) lo (.int (nI (pN S a)) :: st)) : ZW p l e R s m args below meth c D cI cZ cO A Q X nL S cells slots (pc) lo (.ref a :: st) := by
  intro H locs ls hP hD hS hl9
  obtain ⟨q0, hq⟩ := va_pl_get (X := X) (f := pF cI cZ cO S) ha.1
  rw [pF_8 ha.2] at hq
  exact va_alen h0.1 h0.2.1 h0.2.2.2.1 hP q0 0 hq (ty := .int) rfl rfl hd (kk H locs ls hP hD hS hl9)
theorem z_alen10 (h0 : ZC p s c cc nL D cI cZ cO A G) {a : Nat} (hd : decode cc pc = .ok (.arraylength, 1)) (ha : isK S 10 a) (kk : ZW p l e R s m args below meth c D cI cZ cO A Q X nL S cells slots (pc + 1) lo (.int (nI (pN S a)) :: st)) : ZW p l e R s m args below meth c D cI cZ cO A Q X nL S cells slots (pc) lo (.ref a :: st) := by
  intro H locs ls hP hD hS hl9
  obtain ⟨q0, hq⟩ := va_pl_get (X := X) (f := pF cI cZ cO S) ha.1
  rw [pF_10 ha.2] at hq
  exact va_alen h0.1 h0.2.1 h0.2.2.2.1 hP q0 2 hq (ty := .object "java/lang/Object") rfl rfl hd (kk H locs ls hP hD hS hl9)
/-- the length of ArrayList's empty array -/
theorem z_alen0 (h0 : ZC p s c cc nL D cI cZ cO A G) (hd : decode cc pc = .ok (.arraylength, 1)) (kk : ZW p l e R s m args below meth c D cI cZ cO A Q X nL S cells slots (pc + 1) lo (.int 0 :: st)) : ZW p l e R s m args below meth c D cI cZ cO A Q X nL S cells slots (pc) lo (.ref (G 0) :: st) := by
  intro H locs ls hP hD hS hl9
  exact va_tlen h0.1 h0.2.1 h0.2.2.2.2.2.2.1 hS (v := 0) rfl hd (kk H locs ls hP hD hS hl9)
/-- what a new object of kind k holds -/
def nOk (k ci : Nat) (fs : List Value) : Prop := ∀ (cI cZ cO : ClassId) (S : PS) (a : Nat), pE cI cZ cO (sN S a k 0) k a = .inr (ci, fs)
theorem nOk0 : nOk 0 1 [.null] := fun _ _ _ S a => by simp [pE, sN, pI, pO, upA, va_rf]
theorem nOk1 : nOk 1 2 [.int 0, .null, .int 0] := fun _ _ _ S a => by simp [pE, sN, pI, pO, upA, va_rf]
theorem nOk2 : nOk 2 3 [.int 0, .int 0, .null, .int 0, .int 0] := fun _ _ _ S a => by simp [pE, sN, pI, pO, upA, va_rf]
theorem nOk3 : nOk 3 4 [.int 0, .null, .null, .int 0, .int 0, .int 0, .null] := fun _ _ _ S a => by simp [pE, sN, pI, pO, upA, va_rf]
theorem nOk4 : nOk 4 5 [.int 0, .int 0, .int 0, .int 0, .int 0] := fun _ _ _ S a => by simp [pE, sN, pI, pO, upA, va_rf]
theorem nOk5 : nOk 5 6 [.null, .null, .null, .null] := fun _ _ _ S a => by simp [pE, sN, pI, pO, upA, va_rf]
theorem nOk6 : nOk 6 7 [.int 0, .int 0, .null, .null, .null, .null, .int 0, .null, .null, .null, .int 0, .null, .null, .null] := fun _ _ _ S a => by simp [pE, sN, pI, pO, upA, va_rf]
theorem nOk7 : nOk 7 0 [.int 0, .null, .int 0] := fun _ _ _ S a => by simp [pE, sN, pI, pO, upA, va_rf]
theorem zN_eq {k n a : Nat} {S : PS} {x : va_E} (hx : pE cI cZ cO (sN S a k n) k a = x) (hL : a ∉ pL S) : (X ++ zw cI cZ cO S) ++ [(a, x)] = X ++ zw cI cZ cO (sN S a k n) := by
  rw [List.append_assoc, va_pl_push hL]
  refine congrArg (fun w => X ++ w) (va_pl_congr (fun b => ?_))
  by_cases hb : b = a
  · subst hb
    rw [va_up_self]
    unfold pF
    rw [show pK (sN S b k n) b = k from va_up_self _ _ _, hx]
  · rw [va_up_ne _ _ hb]
    unfold pF
    rw [show pK (sN S a k n) b = pK S b from va_up_ne _ _ hb]
    exact (pE_congr (fun _ => upA_a _ _ _ hb) (fun _ => upA_a _ _ _ hb) (va_up_ne _ _ hb) (va_up_ne _ _ hb) (va_up_ne _ _ hb)).symm
theorem z_new (h0 : ZC p s c cc nL D cI cZ cO A G) {k ci index : Nat} {own C : String} {T : u_T} {N : Nat} {fs : List Value} {Ts : List Cond} (hn : nOk k ci fs) (hts : ∀ w ∈ Ts, w.before args s = true) (hin : ∀ w ∈ u_ws C T N, w ∈ Ts) (ty : Nat → FieldType) (hty : ∀ k, k < N → parseFieldDescriptor (T k).2.2.1 = some (ty k)) (hown : s.vm.findClass own = some m.cls)
    (hcl : (Cond.classLink own index C).before args s = true) (hinst : (Cond.instantiable C N).before args s = true) (hini : (Cond.initialized C).before args s = true) (hc : vwCl[ci]? = some (C, T, N)) (hfs : ∀ j, j < N → defaultValue (ty j) = vp_V fs j) (hcells : cells + 1 ≤ R.cells) (hslots : slots + N ≤ R.slots) (hd : decode cc pc = .ok (.new index, 3))
    (kk : ∀ q : Nat, q ∉ pL S → ZW p l e R s m args below meth c D cI cZ cO A Q X nL (sN S q k 0) (cells + 1) (slots + N) (pc + 3) lo (.ref q :: st)) : ZW p l e R s m args below meth c D cI cZ cO A Q X nL S cells slots (pc) lo (st) := by
  intro H locs ls hP hD hS hl9
  refine va_new h0.1 h0.2.1 hts hin ty hty hown hcl hinst hini h0.2.2.2.1 hP hD hS h0.2.2.2.2.1 hc hfs hcells hslots hd (fun q H1 g1 g2 g3 => ?_)
  have hq : q ∉ pL S := va_pl_fresh2 g2
  rw [zN_eq (hn cI cZ cO S q) hq] at g1 g2
  exact kk q hq H1 locs ls g1 g2 g3 hl9
end LAYER
end
section
/-! CONTRACTS OVER THE POOL, RETURNS, CALLS. -/
section CALLS
/-- a callee's start: the pool S in a heap of sz cells -/
def zP (D : va_G) (cI cZ cO : ClassId) (G : Nat → Nat) (S : PS) (sz : Nat) (U : State) : Prop :=
  U.heap.size = sz ∧ va_P D vwCl (zw cI cZ cO S) U.heap ∧ va_K D vwCl (zTy cI cZ cO) U ∧ va_D (fun _ => True) (zw cI cZ cO S) ∧ zG G (va_A (zw cI cZ cO S) sz) U U.heap
/-- the pool behind it -/
def zB (D : va_G) (cI cZ cO : ClassId) (A : Nat → Prop) (S : PS) (t : State) : Prop := va_P D vwCl (zw cI cZ cO S) t.heap ∧ va_K D vwCl (zTy cI cZ cO) t ∧ va_D A (zw cI cZ cO S)
abbrev zA (cI cZ cO : ClassId) (S : PS) (sz : Nat) : Nat → Prop := va_A (zw cI cZ cO S) sz
abbrev zQi (D : va_G) (cI cZ cO : ClassId) (S : PS) (post : Int32 → PS → Prop) (sz : Nat) := va_Qi post (zB D cI cZ cO (zA cI cZ cO S sz)) (zA cI cZ cO S sz)
abbrev zQl (D : va_G) (cI cZ cO : ClassId) (S : PS) (post : Int64 → PS → Prop) (sz : Nat) := va_Ql post (zB D cI cZ cO (zA cI cZ cO S sz)) (zA cI cZ cO S sz)
abbrev zQv (D : va_G) (cI cZ cO : ClassId) (S : PS) (post : PS → Prop) (sz : Nat) := va_Qv post (zB D cI cZ cO (zA cI cZ cO S sz)) (zA cI cZ cO S sz)
abbrev zQr (D : va_G) (cI cZ cO : ClassId) (S : PS) (post : Nat → PS → Prop) (sz : Nat) := va_Qr (fun u : Nat × PS => post u.1 u.2) (fun u a t => u.1 = a ∧ zB D cI cZ cO (zA cI cZ cO S sz) u.2 t) (zA cI cZ cO S sz)
/-- where it throws: the class xe of it, the pool unchanged -/
abbrev zX (D : va_G) (cI cZ cO : ClassId) (S : PS) (xe : String → Prop) (sz : Nat) := vx_X (fun _ : Unit => True) (fun E _ t => xe E ∧ zB D cI cZ cO (zA cI cZ cO S sz) S t) (zA cI cZ cO S sz)
section QXR
variable {p : Program} {l : Launch} {e : Env} {R : Room} {s : State} {m : MethodId} {args : Array Value} {below : List Frame} {meth : Method} {c : Code} {H : Heap} {locs : List Loc} {cells slots : Nat} {Q : State → Prop}
variable {mc ms : Nat} {free : Addr → Prop} {A0 A1 : Nat → Prop} {H0 : Heap} {a : Array Value} {pc : Nat} {ls : Array Slot} {st0 rest : List Value}
/-- a callee that answers a reference, or throws (the printed rows hold it for numbers alone) -/
theorem vx_callr {S SX : Type} {post : S → Prop} {px : SX → Prop} {B : S → Nat → State → Prop} {BX : String → SX → State → Prop} {AX : Nat → Prop} (hr : vx_Run p l e R s m args below meth c H locs cells slots mc ms (F0 m pc ls st0) rest (va_Qr post B A1 a) (vx_X px BX AX) free) (hS : va_S A0 H0 H locs) (hA : ∀ q, q < H.size → A1 q → A0 q) (hf : ∀ q, free q → A0 q) (hAX : ∀ q, q < H.size → AX q → A0 q)
    (kx : ∀ (E : String) (ce : Cell) (q9 : Addr) (u : SX) (t : State) (H1 : Heap) (locs1 : List Loc), t.heap = H1 → s.vm.Alike t.vm → px u → BX E u t → H.size ≤ H1.size → (∀ q : Nat, q < H.size → ¬ AX q → H1[q]? = H[q]?) → va_S A0 H0 H1 locs1 → H1[q9]? = some ce → ce.vm = .none → s.vm.findClass E = some ce.cls → vx_W p l e R s m args below meth c H1 locs1 (cells + mc) (slots + ms) Q (F0 m pc ls rest) q9)
    (kk : ∀ (u : S) (ra : Nat) (t : State) (H1 : Heap) (locs1 : List Loc), t.heap = H1 → s.vm.Alike t.vm → post u → B u ra t → H.size ≤ H1.size → (∀ q : Nat, q < H.size → ¬ A1 q → H1[q]? = H[q]?) → va_S A0 H0 H1 locs1 → W p l e R s m args below meth c H1 locs1 (cells + mc) (slots + ms) Q (F0 m (pc + 3) ls (.ref ra :: rest))) : W p l e R s m args below meth c H locs cells slots Q (F0 m pc ls st0) := by
  intro T hT X
  rcases hr T hT X with ⟨v, st₀, t, T', L, h0, X', hL, e1, e2, ⟨⟨u, ra, hv, hp, hb⟩, hF⟩, st⟩ | ⟨q, st₀, t, T', L, E, ce, h0, X', hL, e1, e2, ⟨u, hp, hb, hF⟩, hce, hcv, hcl, st⟩
  · cases hv
    obtain ⟨k1, k2, k3⟩ := vx_keep h0 e1 hS hA hf hL hF
    obtain ⟨t2, a1, b1⟩ := kk u ra t T'.heap (locs ++ L) e1.symm (by rw [← e2]; exact X'.warmed.alike) hp hb k1 k2 k3 T' rfl X'
    exact ⟨t2, st t2 a1, b1⟩
  · obtain ⟨k1, k2, k3⟩ := vx_keep h0 e1 hS hAX hf hL hF
    obtain ⟨t2, a1, b1⟩ := kx E ce q u t T'.heap (locs ++ L) e1.symm (by rw [← e2]; exact X'.warmed.alike) hp hb k1 k2 k3 (by rw [e1]; exact hce) hcv hcl T' rfl X'
    exact ⟨t2, st.trans a1, b1⟩
end QXR
def zMi (l : Launch) (y : MethodName) (ws : List Cond) (rm : Room) (vs : List Value) (D : va_G) (cI cZ cO : ClassId) (G : Nat → Nat) (S : PS) (post : Int32 → PS → Prop) : Prop := ∀ sz, Met l y ws rm (va_Pc vs (zP D cI cZ cO G S sz)) (zQi D cI cZ cO S post sz) rm.cells rm.slots (zA cI cZ cO S sz)
def zXi (l : Launch) (y : MethodName) (ws : List Cond) (rm : Room) (vs : List Value) (D : va_G) (cI cZ cO : ClassId) (G : Nat → Nat) (S : PS) (post : Int32 → PS → Prop) (xe : String → Prop) : Prop := ∀ sz, vx_Met l y ws rm (va_Pc vs (zP D cI cZ cO G S sz)) (zQi D cI cZ cO S post sz) (zX D cI cZ cO S xe sz) rm.cells rm.slots (zA cI cZ cO S sz)
def zMl (l : Launch) (y : MethodName) (ws : List Cond) (rm : Room) (vs : List Value) (D : va_G) (cI cZ cO : ClassId) (G : Nat → Nat) (S : PS) (post : Int64 → PS → Prop) : Prop := ∀ sz, Met l y ws rm (va_Pc vs (zP D cI cZ cO G S sz)) (zQl D cI cZ cO S post sz) rm.cells rm.slots (zA cI cZ cO S sz)
def zXl (l : Launch) (y : MethodName) (ws : List Cond) (rm : Room) (vs : List Value) (D : va_G) (cI cZ cO : ClassId) (G : Nat → Nat) (S : PS) (post : Int64 → PS → Prop) (xe : String → Prop) : Prop := ∀ sz, vx_Met l y ws rm (va_Pc vs (zP D cI cZ cO G S sz)) (zQl D cI cZ cO S post sz) (zX D cI cZ cO S xe sz) rm.cells rm.slots (zA cI cZ cO S sz)
def zMv (l : Launch) (y : MethodName) (ws : List Cond) (rm : Room) (vs : List Value) (D : va_G) (cI cZ cO : ClassId) (G : Nat → Nat) (S : PS) (post : PS → Prop) : Prop := ∀ sz, Met l y ws rm (va_Pc vs (zP D cI cZ cO G S sz)) (zQv D cI cZ cO S post sz) rm.cells rm.slots (zA cI cZ cO S sz)
def zXv (l : Launch) (y : MethodName) (ws : List Cond) (rm : Room) (vs : List Value) (D : va_G) (cI cZ cO : ClassId) (G : Nat → Nat) (S : PS) (post : PS → Prop) (xe : String → Prop) : Prop := ∀ sz, vx_Met l y ws rm (va_Pc vs (zP D cI cZ cO G S sz)) (zQv D cI cZ cO S post sz) (zX D cI cZ cO S xe sz) rm.cells rm.slots (zA cI cZ cO S sz)
def zMr (l : Launch) (y : MethodName) (ws : List Cond) (rm : Room) (vs : List Value) (D : va_G) (cI cZ cO : ClassId) (G : Nat → Nat) (S : PS) (post : Nat → PS → Prop) : Prop := ∀ sz, Met l y ws rm (va_Pc vs (zP D cI cZ cO G S sz)) (zQr D cI cZ cO S post sz) rm.cells rm.slots (zA cI cZ cO S sz)
def zXr (l : Launch) (y : MethodName) (ws : List Cond) (rm : Room) (vs : List Value) (D : va_G) (cI cZ cO : ClassId) (G : Nat → Nat) (S : PS) (post : Nat → PS → Prop) (xe : String → Prop) : Prop := ∀ sz, vx_Met l y ws rm (va_Pc vs (zP D cI cZ cO G S sz)) (zQr D cI cZ cO S post sz) (zX D cI cZ cO S xe sz) rm.cells rm.slots (zA cI cZ cO S sz)
theorem zP_blind {vs : List Value} {D : va_G} {cI cZ cO : ClassId} {G : Nat → Nat} {S : PS} {sz : Nat} : FrameBlind (va_Pc vs (zP D cI cZ cO G S sz)) := by
  intro a U g mk q
  obtain ⟨q0, q1, qP, qK, qD, qG⟩ := q
  exact ⟨q0, q1, qP, va_K.moved (u := U) (U := U.calling g mk a) (Vm.Alike.refl U.vm) qK, qD, zG.at (u := U) (U := U.calling g mk a) qG (fun _ _ _ => rfl) (fun _ h => h) (State.WarmedH.refl U)⟩
/-- a body out of its walk -/
theorem z_of {l : Launch} {y : MethodName} {ws ws' : List Cond} {rm : Room} {vs : List Value} {cc : ByteArray} {maxL : Nat} {ret : Option FieldType} {lo : List (Option Value)} {D : va_G} {cI cZ cO : ClassId} {G : Nat → Nat} {S : PS} {Qc : Nat → Array Value → State → Outcome → State → Prop}
    (hy : plainName y.cls = true) (hw : ws = Cond.code y cc maxL ret :: ws') (ha : vs.all (fun v => v.category == 1) = true) (hl : (lg_sl vs).length ≤ maxL) (hlo : vs.map some ++ List.replicate (maxL - vs.length) none = lo)
    (body : ∀ (p : Program) (e : Env) (s : State) (m : MethodId) (args : Array Value) (below : List Frame) (meth : Method) (c : Code), ZC p s c cc maxL D cI cZ cO (zA cI cZ cO S s.heap.size) G → (∀ w ∈ ws, w.before args s = true) → s.vm.findClass y.cls = some m.cls → meth.sig.returnType = ret → meth.locks = false → meth.name = y.name →
      ZW p l e rm s m args below meth c D cI cZ cO (zA cI cZ cO S s.heap.size) (MQ below (Qc s.heap.size) args s rm.cells rm.slots (zA cI cZ cO S s.heap.size)) [] maxL S 0 0 0 lo []) :
    ∀ sz, Met l y ws rm (va_Pc vs (zP D cI cZ cO G S sz)) (Qc sz) rm.cells rm.slots (zA cI cZ cO S sz) := by
  intro sz
  refine Met.ofW hy hw ?_
  intro p e s m args below meth c s₁ B hml hv
  obtain ⟨rfl, hsz, hP, hK, hD0, hG⟩ := hv
  subst hsz
  have hA : ∀ q : Nat, s.heap.size ≤ q → zA cI cZ cO S s.heap.size q := fun q h => Or.inr h
  have hb := body p e s m vs.toArray below meth c ⟨B.exec, B.bytes, hml, hK, hA, hG⟩ (atoms_spec (ws := ws) B.pre) (findClass_of_methodNamed B.named) B.returns B.notSynchronized (name_of_methodNamed B.named B.method).1
  rw [lg_entry_eq]
  exact hb s.heap [] _ hP (hD0.self (sz := s.heap.size)) va_S.rf (hlo ▸ zl_entry ha (lv_entry vs hl))
/-- .. of one that may throw -/
theorem z_ofX {l : Launch} {y : MethodName} {ws ws' : List Cond} {rm : Room} {vs : List Value} {cc : ByteArray} {maxL : Nat} {ret : Option FieldType} {lo : List (Option Value)} {D : va_G} {cI cZ cO : ClassId} {G : Nat → Nat} {S : PS} {Qc : Nat → Array Value → State → Outcome → State → Prop} {XC : Nat → String → State → State → Prop}
    (hy : plainName y.cls = true) (hw : ws = Cond.code y cc maxL ret :: ws') (ha : vs.all (fun v => v.category == 1) = true) (hl : (lg_sl vs).length ≤ maxL) (hlo : vs.map some ++ List.replicate (maxL - vs.length) none = lo)
    (body : ∀ (p : Program) (e : Env) (s : State) (m : MethodId) (args : Array Value) (below : List Frame) (meth : Method) (c : Code), ZC p s c cc maxL D cI cZ cO (zA cI cZ cO S s.heap.size) G → (∀ w ∈ ws, w.before args s = true) → s.vm.findClass y.cls = some m.cls → meth.sig.returnType = ret → meth.locks = false → meth.name = y.name → (∀ x ∈ c.exceptionTable.toList, False) →
      ZW p l e rm s m args below meth c D cI cZ cO (zA cI cZ cO S s.heap.size) (vx_MQ below (Qc s.heap.size) (XC s.heap.size) args s rm.cells rm.slots (zA cI cZ cO S s.heap.size)) [] maxL S 0 0 0 lo []) :
    ∀ sz, vx_Met l y ws rm (va_Pc vs (zP D cI cZ cO G S sz)) (Qc sz) (XC sz) rm.cells rm.slots (zA cI cZ cO S sz) := by
  intro sz
  refine vx_ofW hy hw ?_
  intro p e s m args below meth c s₁ B hml htab hv
  obtain ⟨rfl, hsz, hP, hK, hD0, hG⟩ := hv
  subst hsz
  have hA : ∀ q : Nat, s.heap.size ≤ q → zA cI cZ cO S s.heap.size q := fun q h => Or.inr h
  have hb := body p e s m vs.toArray below meth c ⟨B.exec, B.bytes, hml, hK, hA, hG⟩ (atoms_spec (ws := ws) B.pre) (findClass_of_methodNamed B.named) B.returns B.notSynchronized (name_of_methodNamed B.named B.method).1 htab
  rw [lg_entry_eq]
  exact hb s.heap [] _ hP (hD0.self (sz := s.heap.size)) va_S.rf (hlo ▸ zl_entry ha (lv_entry vs hl))
variable {p : Program} {l : Launch} {e : Env} {R : Room} {s : State} {m : MethodId} {args : Array Value} {below : List Frame} {meth : Method} {c : Code} {D : va_G} {cI cZ cO : ClassId} {A : Nat → Prop} {Q : State → Prop} {X : va_W} {nL : Nat} {S : PS} {cells slots pc : Nat} {lo : List (Option Value)} {st : List Value} {cc : ByteArray} {G : Nat → Nat}
theorem z_widen {k n : Nat} (h1 : cells ≤ k) (h2 : slots ≤ n) (kk : ZW p l e R s m args below meth c D cI cZ cO A Q X nL S k n pc lo st) : ZW p l e R s m args below meth c D cI cZ cO A Q X nL S cells slots pc lo st := fun H locs ls hP hD hS hl9 => W.widen h1 h2 (kk H locs ls hP hD hS hl9)
theorem z_x {Qc : Array Value → State → Outcome → State → Prop} {XC : String → State → State → Prop} {mc ms : Nat} {free : Addr → Prop} (kk : ZW p l e R s m args below meth c D cI cZ cO A (MQ below Qc args s mc ms free) X nL S cells slots pc lo st) : ZW p l e R s m args below meth c D cI cZ cO A (vx_MQ below Qc XC args s mc ms free) X nL S cells slots pc lo st := fun H locs ls hP hD hS hl9 => vx_ret (kk H locs ls hP hD hS hl9)
theorem z_iret (h0 : ZC p s c cc nL D cI cZ cO A G) {post : Int32 → PS → Prop} {mc ms : Nat} {v : Int32} (hr : meth.sig.returnType = some .int) (hlocks : meth.locks = false) (hd : decode cc pc = .ok (.ireturn, 1)) (hc : cells ≤ mc) (hs : slots ≤ ms) (hp : post v S) : ZW p l e R s m args below meth c D cI cZ cO A (MQ below (va_Qi post (zB D cI cZ cO A) A) args s mc ms A) [] nL S cells slots (pc) lo ([.int v]) := fun H locs ls hP hD hS hl9 =>
  W.widen hc hs (W.iret h0.1 h0.2.1 hr (fun t ht hW => ⟨⟨v, S, rfl, hp, ⟨by rw [ht]; exact hP, va_K.moved hW.alike h0.2.2.2.1, hD⟩⟩, hS.F ht⟩) hS.2.2 hd hlocks)
theorem z_zret (h0 : ZC p s c cc nL D cI cZ cO A G) {post : Int32 → PS → Prop} {mc ms : Nat} {v : Int32} {ty : FieldType} (hr : meth.sig.returnType = some ty) (hn : narrow ty (.int v) = .int v) (hlocks : meth.locks = false) (hd : decode cc pc = .ok (.ireturn, 1)) (hc : cells ≤ mc) (hs : slots ≤ ms) (hp : post v S) : ZW p l e R s m args below meth c D cI cZ cO A (MQ below (va_Qi post (zB D cI cZ cO A) A) args s mc ms A) [] nL S cells slots (pc) lo ([.int v]) := fun H locs ls hP hD hS hl9 =>
  W.widen hc hs (W.zret h0.1 h0.2.1 hr hn (fun t ht hW => ⟨⟨v, S, rfl, hp, ⟨by rw [ht]; exact hP, va_K.moved hW.alike h0.2.2.2.1, hD⟩⟩, hS.F ht⟩) hS.2.2 hd hlocks)
theorem z_lret (h0 : ZC p s c cc nL D cI cZ cO A G) {post : Int64 → PS → Prop} {mc ms : Nat} {v : Int64} (hr : meth.sig.returnType = some .long) (hlocks : meth.locks = false) (hd : decode cc pc = .ok (.lreturn, 1)) (hc : cells ≤ mc) (hs : slots ≤ ms) (hp : post v S) : ZW p l e R s m args below meth c D cI cZ cO A (MQ below (va_Ql post (zB D cI cZ cO A) A) args s mc ms A) [] nL S cells slots (pc) lo ([.long v]) := fun H locs ls hP hD hS hl9 =>
  W.widen hc hs (W.lret h0.1 h0.2.1 hr (fun t ht hW => ⟨⟨v, S, rfl, hp, ⟨by rw [ht]; exact hP, va_K.moved hW.alike h0.2.2.2.1, hD⟩⟩, hS.F ht⟩) hS.2.2 hd hlocks)
theorem z_vret (h0 : ZC p s c cc nL D cI cZ cO A G) {post : PS → Prop} {mc ms : Nat} (hr : meth.sig.returnType = none) (hlocks : meth.locks = false) (hd : decode cc pc = .ok (.return_, 1)) (hc : cells ≤ mc) (hs : slots ≤ ms) (hp : post S) : ZW p l e R s m args below meth c D cI cZ cO A (MQ below (va_Qv post (zB D cI cZ cO A) A) args s mc ms A) [] nL S cells slots (pc) lo ([]) := fun H locs ls hP hD hS hl9 =>
  W.widen hc hs (W.vret h0.1 h0.2.1 hr (fun t ht hW => ⟨⟨S, rfl, hp, ⟨by rw [ht]; exact hP, va_K.moved hW.alike h0.2.2.2.1, hD⟩⟩, hS.F ht⟩) hS.2.2 hd hlocks)
theorem z_aret (h0 : ZC p s c cc nL D cI cZ cO A G) {post : Nat → PS → Prop} {mc ms : Nat} {a : Nat} {rt : FieldType} (hr : meth.sig.returnType = some rt) (hrt : (∃ n, rt = .object n) ∨ ∃ t, rt = .array t) (hlocks : meth.locks = false) (hd : decode cc pc = .ok (.areturn, 1)) (hc : cells ≤ mc) (hs : slots ≤ ms) (hp : post a S) : ZW p l e R s m args below meth c D cI cZ cO A (MQ below (va_Qr (fun u : Nat × PS => post u.1 u.2) (fun u a t => u.1 = a ∧ zB D cI cZ cO A u.2 t) A) args s mc ms A) [] nL S cells slots (pc) lo ([.ref a]) := fun H locs ls hP hD hS hl9 =>
  W.widen hc hs (W.aret h0.1 h0.2.1 hr hrt (Or.inr ⟨a, rfl⟩) (fun t ht hW => ⟨⟨(a, S), a, rfl, hp, rfl, ⟨by rw [ht]; exact hP, va_K.moved hW.alike h0.2.2.2.1, hD⟩⟩, hS.F ht⟩) hS.2.2 hd hlocks)
/-- the pool's cells, and what comes behind H, are the body's -/
theorem zA_in {H : Heap} {locs : List Loc} (h0 : ZC p s c cc nL D cI cZ cO A G) (hD : va_D A (zw cI cZ cO S)) (hS : va_S A s.heap H locs) : ∀ q, zA cI cZ cO S H.size q → A q := by
  intro q h
  rcases h with ⟨k, x, h⟩ | h
  · exact hD.2 k _ h
  · exact h0.2.2.2.2.1 q (Nat.le_trans hS.1 h)
theorem zP_at {H : Heap} {locs : List Loc} (h0 : ZC p s c cc nL D cI cZ cO A G) (hP : va_P D vwCl (zw cI cZ cO S) H) (hD : va_D A (zw cI cZ cO S)) (hS : va_S A s.heap H locs) : ∀ U : State, U.heap = H → s.WarmedH U.vm → zP D cI cZ cO G S H.size U := by
  intro U hU hW
  subst hU
  exact ⟨rfl, hP, va_K.moved hW.alike h0.2.2.2.1, hD.weaken (fun _ _ _ _ => trivial), zG.at h0.2.2.2.2.2 hS.2.1 (zA_in h0 hD hS) hW⟩
/-- the objects of kind k are of class number ci -/
def kOk (k ci : Nat) : Prop := ∀ (cI cZ cO : ClassId) (S : PS) (a : Nat), pK S a = k → ∃ fs : List Value, pF cI cZ cO S a = .inr (ci, fs)
theorem z_recv {H : Heap} (h0 : ZC p s c cc nL D cI cZ cO A G) {k ci b : Nat} {q : vw_C} (hk : kOk k ci) (hc : vwCl[ci]? = some q) (hb : isK S k b) (hP : va_P D vwCl (X ++ zw cI cZ cO S) H) : ∃ cell : Cell, H[b]? = some cell ∧ cell.vm.isStatics = false ∧ s.vm.findClass q.1 = some cell.cls := by
  obtain ⟨fs, e1⟩ := hk cI cZ cO S b hb.2
  obtain ⟨q0, hq⟩ := va_pl_get (X := X) (f := pF cI cZ cO S) hb.1
  rw [e1] at hq
  exact va_recv h0.2.2.2.1 hP hc hq
theorem kOk0 : kOk 0 1 := fun cI cZ cO S a h => (let ⟨fs, h1, _⟩ := fO0 cI cZ cO S a h; ⟨fs, h1⟩)
theorem kOk1 : kOk 1 2 := fun cI cZ cO S a h => (let ⟨fs, h1, _⟩ := fI0 cI cZ cO S a h; ⟨fs, h1⟩)
theorem kOk2 : kOk 2 3 := fun cI cZ cO S a h => (let ⟨fs, h1, _⟩ := fI2 cI cZ cO S a h; ⟨fs, h1⟩)
theorem kOk3 : kOk 3 4 := fun cI cZ cO S a h => (let ⟨fs, h1, _⟩ := fI6 cI cZ cO S a h; ⟨fs, h1⟩)
theorem kOk4 : kOk 4 5 := fun cI cZ cO S a h => (let ⟨fs, h1, _⟩ := fI10 cI cZ cO S a h; ⟨fs, h1⟩)
theorem kOk5 : kOk 5 6 := fun cI cZ cO S a h => (let ⟨fs, h1, _⟩ := fO6 cI cZ cO S a h; ⟨fs, h1⟩)
theorem kOk6 : kOk 6 7 := fun cI cZ cO S a h => (let ⟨fs, h1, _⟩ := fI15 cI cZ cO S a h; ⟨fs, h1⟩)
theorem kOk7 : kOk 7 0 := fun cI cZ cO S a h => (let ⟨fs, h1, _⟩ := fI19 cI cZ cO S a h; ⟨fs, h1⟩)
theorem z_cVi (h0 : ZC p s c cc nL D cI cZ cO A G) {own : String} {C : String} {index maxL n : Nat} {y : MethodName} {bytes : ByteArray} {ret : Option FieldType} {ws ws' Ts : List Cond} {rm : Room} {post : Int32 → PS → Prop} {As st0 : List Value} {b : Nat} {k ci : Nat} {T9 : u_T} {N9 : Nat} (hts : ∀ w ∈ Ts, w.before args s = true) (hown : s.vm.findClass own = some m.cls) (hM : zMi l y ws rm (.ref b :: As) D cI cZ cO G S post) (hg : GoodIn Ts (wsV own index C y ws)) (hw : ws = Cond.code y bytes maxL ret :: ws') (hdd : y.cls = C ∧ y.cls ≠ "java/lang/invoke/MethodHandle" ∧ y.cls ≠ "java/lang/invoke/VarHandle" ∧ (parseMethodDescriptor y.desc).map (fun d => d.parameters.length) = some n) (hR : rm.frames + 1 ≤ R.frames ∧ 8 + (maxL + 11) + rm.locals ≤ R.locals) (hk : kOk k ci) (hc : vwCl[ci]? = some (C, T9, N9)) (hb : isK S k b) (hd : decode cc pc = .ok (.invokevirtual index, 3)) (hst : st0 = As.reverse ++ .ref b :: st) (hn : As.length = n) (hsum : (st.map fun v => v.category).sum ≤ 8) (hf : cells + rm.cells ≤ R.cells ∧ slots + rm.slots ≤ R.slots) 
    (kk : ∀ (r : Int32) (S' : PS), post r S' → ZW p l e R s m args below meth c D cI cZ cO A Q [] nL S' (cells + rm.cells) (slots + rm.slots) (pc + 3) lo (.int r :: st)) : ZW p l e R s m args below meth c D cI cZ cO A Q [] nL S cells slots (pc) lo (st0) := by
  subst hst
  intro H locs ls hP hD hS hl9
  have hin := zA_in h0 hD hS
  refine va_calli (va_runV (As := As) (rest := st) ⟨h0.1, h0.2.1, h0.2.2.1, hown, hts⟩ (hM H.size) (cwV n hts hg hw rfl rfl hdd hR) ⟨zP_blind, z_recv (X := []) h0 hk hc hb hP, fun U hU hW => ⟨rfl, zP_at h0 hP hD hS U hU hW⟩⟩ rfl hn hl9.1 rfl (lv_room hsum) hd hf) hS (fun q _ h => hin q h) hin (fun r u t H1 locs1 ht hvm hp hB hz hk9 hS1 => ?_)
  obtain ⟨gP, gK, gD⟩ := hB
  rw [ht] at gP
  exact kk r u hp H1 locs1 ls gP (gD.weaken (fun _ _ _ h => hin _ h)) hS1 hl9
theorem z_xVi (h0 : ZC p s c cc nL D cI cZ cO A G) {own : String} {C : String} {index maxL n : Nat} {y : MethodName} {bytes : ByteArray} {ret : Option FieldType} {ws ws' Ts : List Cond} {rm : Room} {post : Int32 → PS → Prop} {As st0 : List Value} {b : Nat} {k ci : Nat} {T9 : u_T} {N9 : Nat} {Qc : Array Value → State → Outcome → State → Prop} {xe xe0 : String → Prop} {mc ms : Nat} (hts : ∀ w ∈ Ts, w.before args s = true) (hown : s.vm.findClass own = some m.cls) (hM : zXi l y ws rm (.ref b :: As) D cI cZ cO G S post xe0) (hg : GoodIn Ts (wsV own index C y ws)) (hw : ws = Cond.code y bytes maxL ret :: ws') (hdd : y.cls = C ∧ y.cls ≠ "java/lang/invoke/MethodHandle" ∧ y.cls ≠ "java/lang/invoke/VarHandle" ∧ (parseMethodDescriptor y.desc).map (fun d => d.parameters.length) = some n) (hR : rm.frames + 1 ≤ R.frames ∧ 8 + (maxL + 11) + rm.locals ≤ R.locals) (hk : kOk k ci) (hc : vwCl[ci]? = some (C, T9, N9)) (hb : isK S k b) (hd : decode cc pc = .ok (.invokevirtual index, 3)) (hst : st0 = As.reverse ++ .ref b :: st) (hn : As.length = n) (hsum : (st.map fun v => v.category).sum ≤ 8) (hf : cells + rm.cells ≤ R.cells ∧ slots + rm.slots ≤ R.slots) (htab : ∀ x ∈ c.exceptionTable.toList, False) (hlocks : meth.locks = false) (hcm : cells + rm.cells ≤ mc) (hsm : slots + rm.slots ≤ ms) (hxe : ∀ E, xe0 E → xe E) 
    (kk : ∀ (r : Int32) (S' : PS), post r S' → ZW p l e R s m args below meth c D cI cZ cO A (vx_MQ below Qc (vx_X (fun _ : Unit => True) (fun E _ t => xe E ∧ zB D cI cZ cO A S t) A) args s mc ms A) [] nL S' (cells + rm.cells) (slots + rm.slots) (pc + 3) lo (.int r :: st)) : ZW p l e R s m args below meth c D cI cZ cO A (vx_MQ below Qc (vx_X (fun _ : Unit => True) (fun E _ t => xe E ∧ zB D cI cZ cO A S t) A) args s mc ms A) [] nL S cells slots (pc) lo (st0) := by
  subst hst
  intro H locs ls hP hD hS hl9
  have hin := zA_in h0 hD hS
  refine vx_calli (vx_runV (As := As) (rest := st) ⟨h0.1, h0.2.1, h0.2.2.1, hown, hts⟩ (hM H.size) (cwV n hts hg hw rfl rfl hdd hR) ⟨zP_blind, z_recv (X := []) h0 hk hc hb hP, fun U hU hW => ⟨rfl, zP_at h0 hP hD hS U hU hW⟩⟩ rfl hn hl9.1 rfl (lv_room hsum) hd hf) hS (fun q _ h => hin q h) hin (fun q _ h => hin q h) (fun E ce q9 u t H1 locs1 ht hvm _ hB hz hk9 hS1 hce hcv hcl => ?_) (fun r u t H1 locs1 ht hvm hp hB hz hk9 hS1 => ?_)
  · obtain ⟨hxE, gP, gK, gD⟩ := hB
    rw [ht] at gP
    exact vx_out (fun x hx => (htab x hx).elim) hlocks hce hcv hcl (fun t2 ht2 hvm2 => ⟨(), trivial, ⟨hxe E hxE, by rw [ht2]; exact gP, va_K.moved hvm2 h0.2.2.2.1, gD.weaken (fun _ _ _ h => hin _ h)⟩, hS1.F ht2⟩) hS1.2.2 hcm hsm
  · obtain ⟨gP, gK, gD⟩ := hB
    rw [ht] at gP
    exact kk r u hp H1 locs1 ls gP (gD.weaken (fun _ _ _ h => hin _ h)) hS1 hl9
theorem z_cVl (h0 : ZC p s c cc nL D cI cZ cO A G) {own : String} {C : String} {index maxL n : Nat} {y : MethodName} {bytes : ByteArray} {ret : Option FieldType} {ws ws' Ts : List Cond} {rm : Room} {post : Int64 → PS → Prop} {As st0 : List Value} {b : Nat} {k ci : Nat} {T9 : u_T} {N9 : Nat} (hts : ∀ w ∈ Ts, w.before args s = true) (hown : s.vm.findClass own = some m.cls) (hM : zMl l y ws rm (.ref b :: As) D cI cZ cO G S post) (hg : GoodIn Ts (wsV own index C y ws)) (hw : ws = Cond.code y bytes maxL ret :: ws') (hdd : y.cls = C ∧ y.cls ≠ "java/lang/invoke/MethodHandle" ∧ y.cls ≠ "java/lang/invoke/VarHandle" ∧ (parseMethodDescriptor y.desc).map (fun d => d.parameters.length) = some n) (hR : rm.frames + 1 ≤ R.frames ∧ 8 + (maxL + 11) + rm.locals ≤ R.locals) (hk : kOk k ci) (hc : vwCl[ci]? = some (C, T9, N9)) (hb : isK S k b) (hd : decode cc pc = .ok (.invokevirtual index, 3)) (hst : st0 = As.reverse ++ .ref b :: st) (hn : As.length = n) (hsum : (st.map fun v => v.category).sum ≤ 8) (hf : cells + rm.cells ≤ R.cells ∧ slots + rm.slots ≤ R.slots) 
    (kk : ∀ (r : Int64) (S' : PS), post r S' → ZW p l e R s m args below meth c D cI cZ cO A Q [] nL S' (cells + rm.cells) (slots + rm.slots) (pc + 3) lo (.long r :: st)) : ZW p l e R s m args below meth c D cI cZ cO A Q [] nL S cells slots (pc) lo (st0) := by
  subst hst
  intro H locs ls hP hD hS hl9
  have hin := zA_in h0 hD hS
  refine va_calll (va_runV (As := As) (rest := st) ⟨h0.1, h0.2.1, h0.2.2.1, hown, hts⟩ (hM H.size) (cwV n hts hg hw rfl rfl hdd hR) ⟨zP_blind, z_recv (X := []) h0 hk hc hb hP, fun U hU hW => ⟨rfl, zP_at h0 hP hD hS U hU hW⟩⟩ rfl hn hl9.1 rfl (lv_room hsum) hd hf) hS (fun q _ h => hin q h) hin (fun r u t H1 locs1 ht hvm hp hB hz hk9 hS1 => ?_)
  obtain ⟨gP, gK, gD⟩ := hB
  rw [ht] at gP
  exact kk r u hp H1 locs1 ls gP (gD.weaken (fun _ _ _ h => hin _ h)) hS1 hl9
theorem z_xVl (h0 : ZC p s c cc nL D cI cZ cO A G) {own : String} {C : String} {index maxL n : Nat} {y : MethodName} {bytes : ByteArray} {ret : Option FieldType} {ws ws' Ts : List Cond} {rm : Room} {post : Int64 → PS → Prop} {As st0 : List Value} {b : Nat} {k ci : Nat} {T9 : u_T} {N9 : Nat} {Qc : Array Value → State → Outcome → State → Prop} {xe xe0 : String → Prop} {mc ms : Nat} (hts : ∀ w ∈ Ts, w.before args s = true) (hown : s.vm.findClass own = some m.cls) (hM : zXl l y ws rm (.ref b :: As) D cI cZ cO G S post xe0) (hg : GoodIn Ts (wsV own index C y ws)) (hw : ws = Cond.code y bytes maxL ret :: ws') (hdd : y.cls = C ∧ y.cls ≠ "java/lang/invoke/MethodHandle" ∧ y.cls ≠ "java/lang/invoke/VarHandle" ∧ (parseMethodDescriptor y.desc).map (fun d => d.parameters.length) = some n) (hR : rm.frames + 1 ≤ R.frames ∧ 8 + (maxL + 11) + rm.locals ≤ R.locals) (hk : kOk k ci) (hc : vwCl[ci]? = some (C, T9, N9)) (hb : isK S k b) (hd : decode cc pc = .ok (.invokevirtual index, 3)) (hst : st0 = As.reverse ++ .ref b :: st) (hn : As.length = n) (hsum : (st.map fun v => v.category).sum ≤ 8) (hf : cells + rm.cells ≤ R.cells ∧ slots + rm.slots ≤ R.slots) (htab : ∀ x ∈ c.exceptionTable.toList, False) (hlocks : meth.locks = false) (hcm : cells + rm.cells ≤ mc) (hsm : slots + rm.slots ≤ ms) (hxe : ∀ E, xe0 E → xe E) 
    (kk : ∀ (r : Int64) (S' : PS), post r S' → ZW p l e R s m args below meth c D cI cZ cO A (vx_MQ below Qc (vx_X (fun _ : Unit => True) (fun E _ t => xe E ∧ zB D cI cZ cO A S t) A) args s mc ms A) [] nL S' (cells + rm.cells) (slots + rm.slots) (pc + 3) lo (.long r :: st)) : ZW p l e R s m args below meth c D cI cZ cO A (vx_MQ below Qc (vx_X (fun _ : Unit => True) (fun E _ t => xe E ∧ zB D cI cZ cO A S t) A) args s mc ms A) [] nL S cells slots (pc) lo (st0) := by
  subst hst
  intro H locs ls hP hD hS hl9
  have hin := zA_in h0 hD hS
  refine vx_calll (vx_runV (As := As) (rest := st) ⟨h0.1, h0.2.1, h0.2.2.1, hown, hts⟩ (hM H.size) (cwV n hts hg hw rfl rfl hdd hR) ⟨zP_blind, z_recv (X := []) h0 hk hc hb hP, fun U hU hW => ⟨rfl, zP_at h0 hP hD hS U hU hW⟩⟩ rfl hn hl9.1 rfl (lv_room hsum) hd hf) hS (fun q _ h => hin q h) hin (fun q _ h => hin q h) (fun E ce q9 u t H1 locs1 ht hvm _ hB hz hk9 hS1 hce hcv hcl => ?_) (fun r u t H1 locs1 ht hvm hp hB hz hk9 hS1 => ?_)
  · obtain ⟨hxE, gP, gK, gD⟩ := hB
    rw [ht] at gP
    exact vx_out (fun x hx => (htab x hx).elim) hlocks hce hcv hcl (fun t2 ht2 hvm2 => ⟨(), trivial, ⟨hxe E hxE, by rw [ht2]; exact gP, va_K.moved hvm2 h0.2.2.2.1, gD.weaken (fun _ _ _ h => hin _ h)⟩, hS1.F ht2⟩) hS1.2.2 hcm hsm
  · obtain ⟨gP, gK, gD⟩ := hB
    rw [ht] at gP
    exact kk r u hp H1 locs1 ls gP (gD.weaken (fun _ _ _ h => hin _ h)) hS1 hl9
theorem z_cVv (h0 : ZC p s c cc nL D cI cZ cO A G) {own : String} {C : String} {index maxL n : Nat} {y : MethodName} {bytes : ByteArray} {ret : Option FieldType} {ws ws' Ts : List Cond} {rm : Room} {post : PS → Prop} {As st0 : List Value} {b : Nat} {k ci : Nat} {T9 : u_T} {N9 : Nat} (hts : ∀ w ∈ Ts, w.before args s = true) (hown : s.vm.findClass own = some m.cls) (hM : zMv l y ws rm (.ref b :: As) D cI cZ cO G S post) (hg : GoodIn Ts (wsV own index C y ws)) (hw : ws = Cond.code y bytes maxL ret :: ws') (hdd : y.cls = C ∧ y.cls ≠ "java/lang/invoke/MethodHandle" ∧ y.cls ≠ "java/lang/invoke/VarHandle" ∧ (parseMethodDescriptor y.desc).map (fun d => d.parameters.length) = some n) (hR : rm.frames + 1 ≤ R.frames ∧ 8 + (maxL + 11) + rm.locals ≤ R.locals) (hk : kOk k ci) (hc : vwCl[ci]? = some (C, T9, N9)) (hb : isK S k b) (hd : decode cc pc = .ok (.invokevirtual index, 3)) (hst : st0 = As.reverse ++ .ref b :: st) (hn : As.length = n) (hsum : (st.map fun v => v.category).sum ≤ 8) (hf : cells + rm.cells ≤ R.cells ∧ slots + rm.slots ≤ R.slots) 
    (kk : ∀ (S' : PS), post S' → ZW p l e R s m args below meth c D cI cZ cO A Q [] nL S' (cells + rm.cells) (slots + rm.slots) (pc + 3) lo (st)) : ZW p l e R s m args below meth c D cI cZ cO A Q [] nL S cells slots (pc) lo (st0) := by
  subst hst
  intro H locs ls hP hD hS hl9
  have hin := zA_in h0 hD hS
  refine va_callv (va_runV (As := As) (rest := st) ⟨h0.1, h0.2.1, h0.2.2.1, hown, hts⟩ (hM H.size) (cwV n hts hg hw rfl rfl hdd hR) ⟨zP_blind, z_recv (X := []) h0 hk hc hb hP, fun U hU hW => ⟨rfl, zP_at h0 hP hD hS U hU hW⟩⟩ rfl hn hl9.1 rfl (lv_room hsum) hd hf) hS (fun q _ h => hin q h) hin (fun u t H1 locs1 ht hvm hp hB hz hk9 hS1 => ?_)
  obtain ⟨gP, gK, gD⟩ := hB
  rw [ht] at gP
  exact kk u hp H1 locs1 ls gP (gD.weaken (fun _ _ _ h => hin _ h)) hS1 hl9
theorem z_xVv (h0 : ZC p s c cc nL D cI cZ cO A G) {own : String} {C : String} {index maxL n : Nat} {y : MethodName} {bytes : ByteArray} {ret : Option FieldType} {ws ws' Ts : List Cond} {rm : Room} {post : PS → Prop} {As st0 : List Value} {b : Nat} {k ci : Nat} {T9 : u_T} {N9 : Nat} {Qc : Array Value → State → Outcome → State → Prop} {xe xe0 : String → Prop} {mc ms : Nat} (hts : ∀ w ∈ Ts, w.before args s = true) (hown : s.vm.findClass own = some m.cls) (hM : zXv l y ws rm (.ref b :: As) D cI cZ cO G S post xe0) (hg : GoodIn Ts (wsV own index C y ws)) (hw : ws = Cond.code y bytes maxL ret :: ws') (hdd : y.cls = C ∧ y.cls ≠ "java/lang/invoke/MethodHandle" ∧ y.cls ≠ "java/lang/invoke/VarHandle" ∧ (parseMethodDescriptor y.desc).map (fun d => d.parameters.length) = some n) (hR : rm.frames + 1 ≤ R.frames ∧ 8 + (maxL + 11) + rm.locals ≤ R.locals) (hk : kOk k ci) (hc : vwCl[ci]? = some (C, T9, N9)) (hb : isK S k b) (hd : decode cc pc = .ok (.invokevirtual index, 3)) (hst : st0 = As.reverse ++ .ref b :: st) (hn : As.length = n) (hsum : (st.map fun v => v.category).sum ≤ 8) (hf : cells + rm.cells ≤ R.cells ∧ slots + rm.slots ≤ R.slots) (htab : ∀ x ∈ c.exceptionTable.toList, False) (hlocks : meth.locks = false) (hcm : cells + rm.cells ≤ mc) (hsm : slots + rm.slots ≤ ms) (hxe : ∀ E, xe0 E → xe E) 
    (kk : ∀ (S' : PS), post S' → ZW p l e R s m args below meth c D cI cZ cO A (vx_MQ below Qc (vx_X (fun _ : Unit => True) (fun E _ t => xe E ∧ zB D cI cZ cO A S t) A) args s mc ms A) [] nL S' (cells + rm.cells) (slots + rm.slots) (pc + 3) lo (st)) : ZW p l e R s m args below meth c D cI cZ cO A (vx_MQ below Qc (vx_X (fun _ : Unit => True) (fun E _ t => xe E ∧ zB D cI cZ cO A S t) A) args s mc ms A) [] nL S cells slots (pc) lo (st0) := by
  subst hst
  intro H locs ls hP hD hS hl9
  have hin := zA_in h0 hD hS
  refine vx_callv (vx_runV (As := As) (rest := st) ⟨h0.1, h0.2.1, h0.2.2.1, hown, hts⟩ (hM H.size) (cwV n hts hg hw rfl rfl hdd hR) ⟨zP_blind, z_recv (X := []) h0 hk hc hb hP, fun U hU hW => ⟨rfl, zP_at h0 hP hD hS U hU hW⟩⟩ rfl hn hl9.1 rfl (lv_room hsum) hd hf) hS (fun q _ h => hin q h) hin (fun q _ h => hin q h) (fun E ce q9 u t H1 locs1 ht hvm _ hB hz hk9 hS1 hce hcv hcl => ?_) (fun u t H1 locs1 ht hvm hp hB hz hk9 hS1 => ?_)
  · obtain ⟨hxE, gP, gK, gD⟩ := hB
    rw [ht] at gP
    exact vx_out (fun x hx => (htab x hx).elim) hlocks hce hcv hcl (fun t2 ht2 hvm2 => ⟨(), trivial, ⟨hxe E hxE, by rw [ht2]; exact gP, va_K.moved hvm2 h0.2.2.2.1, gD.weaken (fun _ _ _ h => hin _ h)⟩, hS1.F ht2⟩) hS1.2.2 hcm hsm
  · obtain ⟨gP, gK, gD⟩ := hB
    rw [ht] at gP
    exact kk u hp H1 locs1 ls gP (gD.weaken (fun _ _ _ h => hin _ h)) hS1 hl9
theorem z_cVr (h0 : ZC p s c cc nL D cI cZ cO A G) {own : String} {C : String} {index maxL n : Nat} {y : MethodName} {bytes : ByteArray} {ret : Option FieldType} {ws ws' Ts : List Cond} {rm : Room} {post : Nat → PS → Prop} {As st0 : List Value} {b : Nat} {k ci : Nat} {T9 : u_T} {N9 : Nat} (hts : ∀ w ∈ Ts, w.before args s = true) (hown : s.vm.findClass own = some m.cls) (hM : zMr l y ws rm (.ref b :: As) D cI cZ cO G S post) (hg : GoodIn Ts (wsV own index C y ws)) (hw : ws = Cond.code y bytes maxL ret :: ws') (hdd : y.cls = C ∧ y.cls ≠ "java/lang/invoke/MethodHandle" ∧ y.cls ≠ "java/lang/invoke/VarHandle" ∧ (parseMethodDescriptor y.desc).map (fun d => d.parameters.length) = some n) (hR : rm.frames + 1 ≤ R.frames ∧ 8 + (maxL + 11) + rm.locals ≤ R.locals) (hk : kOk k ci) (hc : vwCl[ci]? = some (C, T9, N9)) (hb : isK S k b) (hd : decode cc pc = .ok (.invokevirtual index, 3)) (hst : st0 = As.reverse ++ .ref b :: st) (hn : As.length = n) (hsum : (st.map fun v => v.category).sum ≤ 8) (hf : cells + rm.cells ≤ R.cells ∧ slots + rm.slots ≤ R.slots) 
    (kk : ∀ (r : Nat) (S' : PS), post r S' → ZW p l e R s m args below meth c D cI cZ cO A Q [] nL S' (cells + rm.cells) (slots + rm.slots) (pc + 3) lo (.ref r :: st)) : ZW p l e R s m args below meth c D cI cZ cO A Q [] nL S cells slots (pc) lo (st0) := by
  subst hst
  intro H locs ls hP hD hS hl9
  have hin := zA_in h0 hD hS
  refine va_callr (va_runV (As := As) (rest := st) ⟨h0.1, h0.2.1, h0.2.2.1, hown, hts⟩ (hM H.size) (cwV n hts hg hw rfl rfl hdd hR) ⟨zP_blind, z_recv (X := []) h0 hk hc hb hP, fun U hU hW => ⟨rfl, zP_at h0 hP hD hS U hU hW⟩⟩ rfl hn hl9.1 rfl (lv_room hsum) hd hf) hS (fun q _ h => hin q h) hin (fun u ra t H1 locs1 ht hvm hp hB hz hk9 hS1 => ?_)
  obtain ⟨r, S'⟩ := u
  obtain ⟨rfl, gP, gK, gD⟩ := hB
  rw [ht] at gP
  exact kk r S' hp H1 locs1 ls gP (gD.weaken (fun _ _ _ h => hin _ h)) hS1 hl9
theorem z_xVr (h0 : ZC p s c cc nL D cI cZ cO A G) {own : String} {C : String} {index maxL n : Nat} {y : MethodName} {bytes : ByteArray} {ret : Option FieldType} {ws ws' Ts : List Cond} {rm : Room} {post : Nat → PS → Prop} {As st0 : List Value} {b : Nat} {k ci : Nat} {T9 : u_T} {N9 : Nat} {Qc : Array Value → State → Outcome → State → Prop} {xe xe0 : String → Prop} {mc ms : Nat} (hts : ∀ w ∈ Ts, w.before args s = true) (hown : s.vm.findClass own = some m.cls) (hM : zXr l y ws rm (.ref b :: As) D cI cZ cO G S post xe0) (hg : GoodIn Ts (wsV own index C y ws)) (hw : ws = Cond.code y bytes maxL ret :: ws') (hdd : y.cls = C ∧ y.cls ≠ "java/lang/invoke/MethodHandle" ∧ y.cls ≠ "java/lang/invoke/VarHandle" ∧ (parseMethodDescriptor y.desc).map (fun d => d.parameters.length) = some n) (hR : rm.frames + 1 ≤ R.frames ∧ 8 + (maxL + 11) + rm.locals ≤ R.locals) (hk : kOk k ci) (hc : vwCl[ci]? = some (C, T9, N9)) (hb : isK S k b) (hd : decode cc pc = .ok (.invokevirtual index, 3)) (hst : st0 = As.reverse ++ .ref b :: st) (hn : As.length = n) (hsum : (st.map fun v => v.category).sum ≤ 8) (hf : cells + rm.cells ≤ R.cells ∧ slots + rm.slots ≤ R.slots) (htab : ∀ x ∈ c.exceptionTable.toList, False) (hlocks : meth.locks = false) (hcm : cells + rm.cells ≤ mc) (hsm : slots + rm.slots ≤ ms) (hxe : ∀ E, xe0 E → xe E) 
    (kk : ∀ (r : Nat) (S' : PS), post r S' → ZW p l e R s m args below meth c D cI cZ cO A (vx_MQ below Qc (vx_X (fun _ : Unit => True) (fun E _ t => xe E ∧ zB D cI cZ cO A S t) A) args s mc ms A) [] nL S' (cells + rm.cells) (slots + rm.slots) (pc + 3) lo (.ref r :: st)) : ZW p l e R s m args below meth c D cI cZ cO A (vx_MQ below Qc (vx_X (fun _ : Unit => True) (fun E _ t => xe E ∧ zB D cI cZ cO A S t) A) args s mc ms A) [] nL S cells slots (pc) lo (st0) := by
  subst hst
  intro H locs ls hP hD hS hl9
  have hin := zA_in h0 hD hS
  refine vx_callr (vx_runV (As := As) (rest := st) ⟨h0.1, h0.2.1, h0.2.2.1, hown, hts⟩ (hM H.size) (cwV n hts hg hw rfl rfl hdd hR) ⟨zP_blind, z_recv (X := []) h0 hk hc hb hP, fun U hU hW => ⟨rfl, zP_at h0 hP hD hS U hU hW⟩⟩ rfl hn hl9.1 rfl (lv_room hsum) hd hf) hS (fun q _ h => hin q h) hin (fun q _ h => hin q h) (fun E ce q9 u t H1 locs1 ht hvm _ hB hz hk9 hS1 hce hcv hcl => ?_) (fun u ra t H1 locs1 ht hvm hp hB hz hk9 hS1 => ?_)
  · obtain ⟨hxE, gP, gK, gD⟩ := hB
    rw [ht] at gP
    exact vx_out (fun x hx => (htab x hx).elim) hlocks hce hcv hcl (fun t2 ht2 hvm2 => ⟨(), trivial, ⟨hxe E hxE, by rw [ht2]; exact gP, va_K.moved hvm2 h0.2.2.2.1, gD.weaken (fun _ _ _ h => hin _ h)⟩, hS1.F ht2⟩) hS1.2.2 hcm hsm
  · obtain ⟨r, S'⟩ := u
    obtain ⟨rfl, gP, gK, gD⟩ := hB
    rw [ht] at gP
    exact kk r S' hp H1 locs1 ls gP (gD.weaken (fun _ _ _ h => hin _ h)) hS1 hl9
theorem z_cSi (h0 : ZC p s c cc nL D cI cZ cO A G) {own : String} {C : String} {index maxL n : Nat} {y : MethodName} {bytes : ByteArray} {ret : Option FieldType} {ws ws' Ts : List Cond} {rm : Room} {post : Int32 → PS → Prop} {As st0 : List Value} (hts : ∀ w ∈ Ts, w.before args s = true) (hown : s.vm.findClass own = some m.cls) (hM : zMi l y ws rm As D cI cZ cO G S post) (hg : GoodIn Ts (va_wsS own index y ws)) (hw : ws = Cond.code y bytes maxL ret :: ws') (hdd : y.cls ≠ "java/lang/invoke/MethodHandle" ∧ y.cls ≠ "java/lang/invoke/VarHandle" ∧ (parseMethodDescriptor y.desc).map (fun d => d.parameters.length) = some n) (hR : rm.frames + 1 ≤ R.frames ∧ 8 + (maxL + 11) + rm.locals ≤ R.locals) (hd : decode cc pc = .ok (.invokestatic index, 3)) (hst : st0 = As.reverse ++ st) (hn : As.length = n) (hsum : (st.map fun v => v.category).sum ≤ 8) (hf : cells + rm.cells ≤ R.cells ∧ slots + rm.slots ≤ R.slots) 
    (kk : ∀ (r : Int32) (S' : PS), post r S' → ZW p l e R s m args below meth c D cI cZ cO A Q [] nL S' (cells + rm.cells) (slots + rm.slots) (pc + 3) lo (.int r :: st)) : ZW p l e R s m args below meth c D cI cZ cO A Q [] nL S cells slots (pc) lo (st0) := by
  subst hst
  intro H locs ls hP hD hS hl9
  have hin := zA_in h0 hD hS
  refine va_calli (va_runS (As := As) (rest := st) ⟨h0.1, h0.2.1, h0.2.2.1, hown, hts⟩ (hM H.size) (va_cwS n hts hg hw rfl rfl hdd hR) ⟨zP_blind, fun U hU hW => ⟨rfl, zP_at h0 hP hD hS U hU hW⟩⟩ rfl hn hl9.1 rfl (lv_room hsum) hd hf) hS (fun q _ h => hin q h) hin (fun r u t H1 locs1 ht hvm hp hB hz hk9 hS1 => ?_)
  obtain ⟨gP, gK, gD⟩ := hB
  rw [ht] at gP
  exact kk r u hp H1 locs1 ls gP (gD.weaken (fun _ _ _ h => hin _ h)) hS1 hl9
theorem z_xSi (h0 : ZC p s c cc nL D cI cZ cO A G) {own : String} {C : String} {index maxL n : Nat} {y : MethodName} {bytes : ByteArray} {ret : Option FieldType} {ws ws' Ts : List Cond} {rm : Room} {post : Int32 → PS → Prop} {As st0 : List Value} {Qc : Array Value → State → Outcome → State → Prop} {xe xe0 : String → Prop} {mc ms : Nat} (hts : ∀ w ∈ Ts, w.before args s = true) (hown : s.vm.findClass own = some m.cls) (hM : zXi l y ws rm As D cI cZ cO G S post xe0) (hg : GoodIn Ts (va_wsS own index y ws)) (hw : ws = Cond.code y bytes maxL ret :: ws') (hdd : y.cls ≠ "java/lang/invoke/MethodHandle" ∧ y.cls ≠ "java/lang/invoke/VarHandle" ∧ (parseMethodDescriptor y.desc).map (fun d => d.parameters.length) = some n) (hR : rm.frames + 1 ≤ R.frames ∧ 8 + (maxL + 11) + rm.locals ≤ R.locals) (hd : decode cc pc = .ok (.invokestatic index, 3)) (hst : st0 = As.reverse ++ st) (hn : As.length = n) (hsum : (st.map fun v => v.category).sum ≤ 8) (hf : cells + rm.cells ≤ R.cells ∧ slots + rm.slots ≤ R.slots) (htab : ∀ x ∈ c.exceptionTable.toList, False) (hlocks : meth.locks = false) (hcm : cells + rm.cells ≤ mc) (hsm : slots + rm.slots ≤ ms) (hxe : ∀ E, xe0 E → xe E) 
    (kk : ∀ (r : Int32) (S' : PS), post r S' → ZW p l e R s m args below meth c D cI cZ cO A (vx_MQ below Qc (vx_X (fun _ : Unit => True) (fun E _ t => xe E ∧ zB D cI cZ cO A S t) A) args s mc ms A) [] nL S' (cells + rm.cells) (slots + rm.slots) (pc + 3) lo (.int r :: st)) : ZW p l e R s m args below meth c D cI cZ cO A (vx_MQ below Qc (vx_X (fun _ : Unit => True) (fun E _ t => xe E ∧ zB D cI cZ cO A S t) A) args s mc ms A) [] nL S cells slots (pc) lo (st0) := by
  subst hst
  intro H locs ls hP hD hS hl9
  have hin := zA_in h0 hD hS
  refine vx_calli (vx_runS (As := As) (rest := st) ⟨h0.1, h0.2.1, h0.2.2.1, hown, hts⟩ (hM H.size) (va_cwS n hts hg hw rfl rfl hdd hR) ⟨zP_blind, fun U hU hW => ⟨rfl, zP_at h0 hP hD hS U hU hW⟩⟩ rfl hn hl9.1 rfl (lv_room hsum) hd hf) hS (fun q _ h => hin q h) hin (fun q _ h => hin q h) (fun E ce q9 u t H1 locs1 ht hvm _ hB hz hk9 hS1 hce hcv hcl => ?_) (fun r u t H1 locs1 ht hvm hp hB hz hk9 hS1 => ?_)
  · obtain ⟨hxE, gP, gK, gD⟩ := hB
    rw [ht] at gP
    exact vx_out (fun x hx => (htab x hx).elim) hlocks hce hcv hcl (fun t2 ht2 hvm2 => ⟨(), trivial, ⟨hxe E hxE, by rw [ht2]; exact gP, va_K.moved hvm2 h0.2.2.2.1, gD.weaken (fun _ _ _ h => hin _ h)⟩, hS1.F ht2⟩) hS1.2.2 hcm hsm
  · obtain ⟨gP, gK, gD⟩ := hB
    rw [ht] at gP
    exact kk r u hp H1 locs1 ls gP (gD.weaken (fun _ _ _ h => hin _ h)) hS1 hl9
theorem z_cSl (h0 : ZC p s c cc nL D cI cZ cO A G) {own : String} {C : String} {index maxL n : Nat} {y : MethodName} {bytes : ByteArray} {ret : Option FieldType} {ws ws' Ts : List Cond} {rm : Room} {post : Int64 → PS → Prop} {As st0 : List Value} (hts : ∀ w ∈ Ts, w.before args s = true) (hown : s.vm.findClass own = some m.cls) (hM : zMl l y ws rm As D cI cZ cO G S post) (hg : GoodIn Ts (va_wsS own index y ws)) (hw : ws = Cond.code y bytes maxL ret :: ws') (hdd : y.cls ≠ "java/lang/invoke/MethodHandle" ∧ y.cls ≠ "java/lang/invoke/VarHandle" ∧ (parseMethodDescriptor y.desc).map (fun d => d.parameters.length) = some n) (hR : rm.frames + 1 ≤ R.frames ∧ 8 + (maxL + 11) + rm.locals ≤ R.locals) (hd : decode cc pc = .ok (.invokestatic index, 3)) (hst : st0 = As.reverse ++ st) (hn : As.length = n) (hsum : (st.map fun v => v.category).sum ≤ 8) (hf : cells + rm.cells ≤ R.cells ∧ slots + rm.slots ≤ R.slots) 
    (kk : ∀ (r : Int64) (S' : PS), post r S' → ZW p l e R s m args below meth c D cI cZ cO A Q [] nL S' (cells + rm.cells) (slots + rm.slots) (pc + 3) lo (.long r :: st)) : ZW p l e R s m args below meth c D cI cZ cO A Q [] nL S cells slots (pc) lo (st0) := by
  subst hst
  intro H locs ls hP hD hS hl9
  have hin := zA_in h0 hD hS
  refine va_calll (va_runS (As := As) (rest := st) ⟨h0.1, h0.2.1, h0.2.2.1, hown, hts⟩ (hM H.size) (va_cwS n hts hg hw rfl rfl hdd hR) ⟨zP_blind, fun U hU hW => ⟨rfl, zP_at h0 hP hD hS U hU hW⟩⟩ rfl hn hl9.1 rfl (lv_room hsum) hd hf) hS (fun q _ h => hin q h) hin (fun r u t H1 locs1 ht hvm hp hB hz hk9 hS1 => ?_)
  obtain ⟨gP, gK, gD⟩ := hB
  rw [ht] at gP
  exact kk r u hp H1 locs1 ls gP (gD.weaken (fun _ _ _ h => hin _ h)) hS1 hl9
theorem z_xSl (h0 : ZC p s c cc nL D cI cZ cO A G) {own : String} {C : String} {index maxL n : Nat} {y : MethodName} {bytes : ByteArray} {ret : Option FieldType} {ws ws' Ts : List Cond} {rm : Room} {post : Int64 → PS → Prop} {As st0 : List Value} {Qc : Array Value → State → Outcome → State → Prop} {xe xe0 : String → Prop} {mc ms : Nat} (hts : ∀ w ∈ Ts, w.before args s = true) (hown : s.vm.findClass own = some m.cls) (hM : zXl l y ws rm As D cI cZ cO G S post xe0) (hg : GoodIn Ts (va_wsS own index y ws)) (hw : ws = Cond.code y bytes maxL ret :: ws') (hdd : y.cls ≠ "java/lang/invoke/MethodHandle" ∧ y.cls ≠ "java/lang/invoke/VarHandle" ∧ (parseMethodDescriptor y.desc).map (fun d => d.parameters.length) = some n) (hR : rm.frames + 1 ≤ R.frames ∧ 8 + (maxL + 11) + rm.locals ≤ R.locals) (hd : decode cc pc = .ok (.invokestatic index, 3)) (hst : st0 = As.reverse ++ st) (hn : As.length = n) (hsum : (st.map fun v => v.category).sum ≤ 8) (hf : cells + rm.cells ≤ R.cells ∧ slots + rm.slots ≤ R.slots) (htab : ∀ x ∈ c.exceptionTable.toList, False) (hlocks : meth.locks = false) (hcm : cells + rm.cells ≤ mc) (hsm : slots + rm.slots ≤ ms) (hxe : ∀ E, xe0 E → xe E) 
    (kk : ∀ (r : Int64) (S' : PS), post r S' → ZW p l e R s m args below meth c D cI cZ cO A (vx_MQ below Qc (vx_X (fun _ : Unit => True) (fun E _ t => xe E ∧ zB D cI cZ cO A S t) A) args s mc ms A) [] nL S' (cells + rm.cells) (slots + rm.slots) (pc + 3) lo (.long r :: st)) : ZW p l e R s m args below meth c D cI cZ cO A (vx_MQ below Qc (vx_X (fun _ : Unit => True) (fun E _ t => xe E ∧ zB D cI cZ cO A S t) A) args s mc ms A) [] nL S cells slots (pc) lo (st0) := by
  subst hst
  intro H locs ls hP hD hS hl9
  have hin := zA_in h0 hD hS
  refine vx_calll (vx_runS (As := As) (rest := st) ⟨h0.1, h0.2.1, h0.2.2.1, hown, hts⟩ (hM H.size) (va_cwS n hts hg hw rfl rfl hdd hR) ⟨zP_blind, fun U hU hW => ⟨rfl, zP_at h0 hP hD hS U hU hW⟩⟩ rfl hn hl9.1 rfl (lv_room hsum) hd hf) hS (fun q _ h => hin q h) hin (fun q _ h => hin q h) (fun E ce q9 u t H1 locs1 ht hvm _ hB hz hk9 hS1 hce hcv hcl => ?_) (fun r u t H1 locs1 ht hvm hp hB hz hk9 hS1 => ?_)
  · obtain ⟨hxE, gP, gK, gD⟩ := hB
    rw [ht] at gP
    exact vx_out (fun x hx => (htab x hx).elim) hlocks hce hcv hcl (fun t2 ht2 hvm2 => ⟨(), trivial, ⟨hxe E hxE, by rw [ht2]; exact gP, va_K.moved hvm2 h0.2.2.2.1, gD.weaken (fun _ _ _ h => hin _ h)⟩, hS1.F ht2⟩) hS1.2.2 hcm hsm
  · obtain ⟨gP, gK, gD⟩ := hB
    rw [ht] at gP
    exact kk r u hp H1 locs1 ls gP (gD.weaken (fun _ _ _ h => hin _ h)) hS1 hl9
theorem z_cSv (h0 : ZC p s c cc nL D cI cZ cO A G) {own : String} {C : String} {index maxL n : Nat} {y : MethodName} {bytes : ByteArray} {ret : Option FieldType} {ws ws' Ts : List Cond} {rm : Room} {post : PS → Prop} {As st0 : List Value} (hts : ∀ w ∈ Ts, w.before args s = true) (hown : s.vm.findClass own = some m.cls) (hM : zMv l y ws rm As D cI cZ cO G S post) (hg : GoodIn Ts (va_wsS own index y ws)) (hw : ws = Cond.code y bytes maxL ret :: ws') (hdd : y.cls ≠ "java/lang/invoke/MethodHandle" ∧ y.cls ≠ "java/lang/invoke/VarHandle" ∧ (parseMethodDescriptor y.desc).map (fun d => d.parameters.length) = some n) (hR : rm.frames + 1 ≤ R.frames ∧ 8 + (maxL + 11) + rm.locals ≤ R.locals) (hd : decode cc pc = .ok (.invokestatic index, 3)) (hst : st0 = As.reverse ++ st) (hn : As.length = n) (hsum : (st.map fun v => v.category).sum ≤ 8) (hf : cells + rm.cells ≤ R.cells ∧ slots + rm.slots ≤ R.slots) 
    (kk : ∀ (S' : PS), post S' → ZW p l e R s m args below meth c D cI cZ cO A Q [] nL S' (cells + rm.cells) (slots + rm.slots) (pc + 3) lo (st)) : ZW p l e R s m args below meth c D cI cZ cO A Q [] nL S cells slots (pc) lo (st0) := by
  subst hst
  intro H locs ls hP hD hS hl9
  have hin := zA_in h0 hD hS
  refine va_callv (va_runS (As := As) (rest := st) ⟨h0.1, h0.2.1, h0.2.2.1, hown, hts⟩ (hM H.size) (va_cwS n hts hg hw rfl rfl hdd hR) ⟨zP_blind, fun U hU hW => ⟨rfl, zP_at h0 hP hD hS U hU hW⟩⟩ rfl hn hl9.1 rfl (lv_room hsum) hd hf) hS (fun q _ h => hin q h) hin (fun u t H1 locs1 ht hvm hp hB hz hk9 hS1 => ?_)
  obtain ⟨gP, gK, gD⟩ := hB
  rw [ht] at gP
  exact kk u hp H1 locs1 ls gP (gD.weaken (fun _ _ _ h => hin _ h)) hS1 hl9
theorem z_xSv (h0 : ZC p s c cc nL D cI cZ cO A G) {own : String} {C : String} {index maxL n : Nat} {y : MethodName} {bytes : ByteArray} {ret : Option FieldType} {ws ws' Ts : List Cond} {rm : Room} {post : PS → Prop} {As st0 : List Value} {Qc : Array Value → State → Outcome → State → Prop} {xe xe0 : String → Prop} {mc ms : Nat} (hts : ∀ w ∈ Ts, w.before args s = true) (hown : s.vm.findClass own = some m.cls) (hM : zXv l y ws rm As D cI cZ cO G S post xe0) (hg : GoodIn Ts (va_wsS own index y ws)) (hw : ws = Cond.code y bytes maxL ret :: ws') (hdd : y.cls ≠ "java/lang/invoke/MethodHandle" ∧ y.cls ≠ "java/lang/invoke/VarHandle" ∧ (parseMethodDescriptor y.desc).map (fun d => d.parameters.length) = some n) (hR : rm.frames + 1 ≤ R.frames ∧ 8 + (maxL + 11) + rm.locals ≤ R.locals) (hd : decode cc pc = .ok (.invokestatic index, 3)) (hst : st0 = As.reverse ++ st) (hn : As.length = n) (hsum : (st.map fun v => v.category).sum ≤ 8) (hf : cells + rm.cells ≤ R.cells ∧ slots + rm.slots ≤ R.slots) (htab : ∀ x ∈ c.exceptionTable.toList, False) (hlocks : meth.locks = false) (hcm : cells + rm.cells ≤ mc) (hsm : slots + rm.slots ≤ ms) (hxe : ∀ E, xe0 E → xe E) 
    (kk : ∀ (S' : PS), post S' → ZW p l e R s m args below meth c D cI cZ cO A (vx_MQ below Qc (vx_X (fun _ : Unit => True) (fun E _ t => xe E ∧ zB D cI cZ cO A S t) A) args s mc ms A) [] nL S' (cells + rm.cells) (slots + rm.slots) (pc + 3) lo (st)) : ZW p l e R s m args below meth c D cI cZ cO A (vx_MQ below Qc (vx_X (fun _ : Unit => True) (fun E _ t => xe E ∧ zB D cI cZ cO A S t) A) args s mc ms A) [] nL S cells slots (pc) lo (st0) := by
  subst hst
  intro H locs ls hP hD hS hl9
  have hin := zA_in h0 hD hS
  refine vx_callv (vx_runS (As := As) (rest := st) ⟨h0.1, h0.2.1, h0.2.2.1, hown, hts⟩ (hM H.size) (va_cwS n hts hg hw rfl rfl hdd hR) ⟨zP_blind, fun U hU hW => ⟨rfl, zP_at h0 hP hD hS U hU hW⟩⟩ rfl hn hl9.1 rfl (lv_room hsum) hd hf) hS (fun q _ h => hin q h) hin (fun q _ h => hin q h) (fun E ce q9 u t H1 locs1 ht hvm _ hB hz hk9 hS1 hce hcv hcl => ?_) (fun u t H1 locs1 ht hvm hp hB hz hk9 hS1 => ?_)
  · obtain ⟨hxE, gP, gK, gD⟩ := hB
    rw [ht] at gP
    exact vx_out (fun x hx => (htab x hx).elim) hlocks hce hcv hcl (fun t2 ht2 hvm2 => ⟨(), trivial, ⟨hxe E hxE, by rw [ht2]; exact gP, va_K.moved hvm2 h0.2.2.2.1, gD.weaken (fun _ _ _ h => hin _ h)⟩, hS1.F ht2⟩) hS1.2.2 hcm hsm
  · obtain ⟨gP, gK, gD⟩ := hB
    rw [ht] at gP
    exact kk u hp H1 locs1 ls gP (gD.weaken (fun _ _ _ h => hin _ h)) hS1 hl9
theorem z_cSr (h0 : ZC p s c cc nL D cI cZ cO A G) {own : String} {C : String} {index maxL n : Nat} {y : MethodName} {bytes : ByteArray} {ret : Option FieldType} {ws ws' Ts : List Cond} {rm : Room} {post : Nat → PS → Prop} {As st0 : List Value} (hts : ∀ w ∈ Ts, w.before args s = true) (hown : s.vm.findClass own = some m.cls) (hM : zMr l y ws rm As D cI cZ cO G S post) (hg : GoodIn Ts (va_wsS own index y ws)) (hw : ws = Cond.code y bytes maxL ret :: ws') (hdd : y.cls ≠ "java/lang/invoke/MethodHandle" ∧ y.cls ≠ "java/lang/invoke/VarHandle" ∧ (parseMethodDescriptor y.desc).map (fun d => d.parameters.length) = some n) (hR : rm.frames + 1 ≤ R.frames ∧ 8 + (maxL + 11) + rm.locals ≤ R.locals) (hd : decode cc pc = .ok (.invokestatic index, 3)) (hst : st0 = As.reverse ++ st) (hn : As.length = n) (hsum : (st.map fun v => v.category).sum ≤ 8) (hf : cells + rm.cells ≤ R.cells ∧ slots + rm.slots ≤ R.slots) 
    (kk : ∀ (r : Nat) (S' : PS), post r S' → ZW p l e R s m args below meth c D cI cZ cO A Q [] nL S' (cells + rm.cells) (slots + rm.slots) (pc + 3) lo (.ref r :: st)) : ZW p l e R s m args below meth c D cI cZ cO A Q [] nL S cells slots (pc) lo (st0) := by
  subst hst
  intro H locs ls hP hD hS hl9
  have hin := zA_in h0 hD hS
  refine va_callr (va_runS (As := As) (rest := st) ⟨h0.1, h0.2.1, h0.2.2.1, hown, hts⟩ (hM H.size) (va_cwS n hts hg hw rfl rfl hdd hR) ⟨zP_blind, fun U hU hW => ⟨rfl, zP_at h0 hP hD hS U hU hW⟩⟩ rfl hn hl9.1 rfl (lv_room hsum) hd hf) hS (fun q _ h => hin q h) hin (fun u ra t H1 locs1 ht hvm hp hB hz hk9 hS1 => ?_)
  obtain ⟨r, S'⟩ := u
  obtain ⟨rfl, gP, gK, gD⟩ := hB
  rw [ht] at gP
  exact kk r S' hp H1 locs1 ls gP (gD.weaken (fun _ _ _ h => hin _ h)) hS1 hl9
theorem z_xSr (h0 : ZC p s c cc nL D cI cZ cO A G) {own : String} {C : String} {index maxL n : Nat} {y : MethodName} {bytes : ByteArray} {ret : Option FieldType} {ws ws' Ts : List Cond} {rm : Room} {post : Nat → PS → Prop} {As st0 : List Value} {Qc : Array Value → State → Outcome → State → Prop} {xe xe0 : String → Prop} {mc ms : Nat} (hts : ∀ w ∈ Ts, w.before args s = true) (hown : s.vm.findClass own = some m.cls) (hM : zXr l y ws rm As D cI cZ cO G S post xe0) (hg : GoodIn Ts (va_wsS own index y ws)) (hw : ws = Cond.code y bytes maxL ret :: ws') (hdd : y.cls ≠ "java/lang/invoke/MethodHandle" ∧ y.cls ≠ "java/lang/invoke/VarHandle" ∧ (parseMethodDescriptor y.desc).map (fun d => d.parameters.length) = some n) (hR : rm.frames + 1 ≤ R.frames ∧ 8 + (maxL + 11) + rm.locals ≤ R.locals) (hd : decode cc pc = .ok (.invokestatic index, 3)) (hst : st0 = As.reverse ++ st) (hn : As.length = n) (hsum : (st.map fun v => v.category).sum ≤ 8) (hf : cells + rm.cells ≤ R.cells ∧ slots + rm.slots ≤ R.slots) (htab : ∀ x ∈ c.exceptionTable.toList, False) (hlocks : meth.locks = false) (hcm : cells + rm.cells ≤ mc) (hsm : slots + rm.slots ≤ ms) (hxe : ∀ E, xe0 E → xe E) 
    (kk : ∀ (r : Nat) (S' : PS), post r S' → ZW p l e R s m args below meth c D cI cZ cO A (vx_MQ below Qc (vx_X (fun _ : Unit => True) (fun E _ t => xe E ∧ zB D cI cZ cO A S t) A) args s mc ms A) [] nL S' (cells + rm.cells) (slots + rm.slots) (pc + 3) lo (.ref r :: st)) : ZW p l e R s m args below meth c D cI cZ cO A (vx_MQ below Qc (vx_X (fun _ : Unit => True) (fun E _ t => xe E ∧ zB D cI cZ cO A S t) A) args s mc ms A) [] nL S cells slots (pc) lo (st0) := by
  subst hst
  intro H locs ls hP hD hS hl9
  have hin := zA_in h0 hD hS
  refine vx_callr (vx_runS (As := As) (rest := st) ⟨h0.1, h0.2.1, h0.2.2.1, hown, hts⟩ (hM H.size) (va_cwS n hts hg hw rfl rfl hdd hR) ⟨zP_blind, fun U hU hW => ⟨rfl, zP_at h0 hP hD hS U hU hW⟩⟩ rfl hn hl9.1 rfl (lv_room hsum) hd hf) hS (fun q _ h => hin q h) hin (fun q _ h => hin q h) (fun E ce q9 u t H1 locs1 ht hvm _ hB hz hk9 hS1 hce hcv hcl => ?_) (fun u ra t H1 locs1 ht hvm hp hB hz hk9 hS1 => ?_)
  · obtain ⟨hxE, gP, gK, gD⟩ := hB
    rw [ht] at gP
    exact vx_out (fun x hx => (htab x hx).elim) hlocks hce hcv hcl (fun t2 ht2 hvm2 => ⟨(), trivial, ⟨hxe E hxE, by rw [ht2]; exact gP, va_K.moved hvm2 h0.2.2.2.1, gD.weaken (fun _ _ _ h => hin _ h)⟩, hS1.F ht2⟩) hS1.2.2 hcm hsm
  · obtain ⟨r, S'⟩ := u
    obtain ⟨rfl, gP, gK, gD⟩ := hB
    rw [ht] at gP
    exact kk r S' hp H1 locs1 ls gP (gD.weaken (fun _ _ _ h => hin _ h)) hS1 hl9
theorem z_cIv (h0 : ZC p s c cc nL D cI cZ cO A G) {own : String} {C : String} {index maxL n : Nat} {y : MethodName} {bytes : ByteArray} {ws ws' Ts : List Cond} {rm : Room} {post : PS → Prop} {As st0 : List Value} {b : Nat} (hts : ∀ w ∈ Ts, w.before args s = true) (hown : s.vm.findClass own = some m.cls) (hM : zMv l y ws rm (.ref b :: As) D cI cZ cO G S post) (hg : GoodIn Ts ws) (hw : ws = Cond.code y bytes maxL none :: ws') (hdd : y.cls ≠ "java/lang/invoke/MethodHandle" ∧ y.cls ≠ "java/lang/invoke/VarHandle" ∧ (parseMethodDescriptor y.desc).map (fun d => d.parameters.length) = some n) (hR : rm.frames + 1 ≤ R.frames ∧ 8 + (maxL + 11) + rm.locals ≤ R.locals) (hini : (Cond.initialized y.cls).before args s = true) (hlk : (Cond.methodLink own index y).before args s = true) (hins : (Cond.instanceMethod y).before args s = true) (hy1 : y.name = "<init>") (hd : decode cc pc = .ok (.invokespecial index, 3)) (hst : st0 = As.reverse ++ .ref b :: st) (hn : As.length = n) (hsum : (st.map fun v => v.category).sum ≤ 8) (hf : cells + rm.cells ≤ R.cells ∧ slots + rm.slots ≤ R.slots) 
    (kk : ∀ (S' : PS), post S' → ZW p l e R s m args below meth c D cI cZ cO A Q [] nL S' (cells + rm.cells) (slots + rm.slots) (pc + 3) lo (st)) : ZW p l e R s m args below meth c D cI cZ cO A Q [] nL S cells slots (pc) lo (st0) := by
  subst hst
  intro H locs ls hP hD hS hl9
  have hin := zA_in h0 hD hS
  refine va_callv (va_runI (As := As) (rest := st) ⟨h0.1, h0.2.1, h0.2.2.1, hown, hts⟩ (hM H.size) (cwI n hts hg hw rfl rfl hini hlk hins hy1 hdd hR) ⟨zP_blind, fun U hU hW => ⟨rfl, zP_at h0 hP hD hS U hU hW⟩⟩ rfl hn hl9.1 rfl (lv_room hsum) hd hf) hS (fun q _ h => hin q h) hin (fun u t H1 locs1 ht hvm hp hB hz hk9 hS1 => ?_)
  obtain ⟨gP, gK, gD⟩ := hB
  rw [ht] at gP
  exact kk u hp H1 locs1 ls gP (gD.weaken (fun _ _ _ h => hin _ h)) hS1 hl9
end CALLS
end
section
/-! MORE ROWS: Object's constructor, casts, throws, renaming the top, the few rows that ArrayList wants. -/
section MORE
variable {p : Program} {l : Launch} {e : Env} {R : Room} {s : State} {m : MethodId} {args : Array Value} {below : List Frame} {meth : Method} {c : Code} {D : va_G} {cI cZ cO : ClassId} {A : Nat → Prop} {Q : State → Prop} {X : va_W} {nL : Nat} {S : PS} {cells slots pc : Nat} {lo : List (Option Value)} {st : List Value} {cc : ByteArray} {G : Nat → Nat}
theorem z_top {x y : Int32} (h : x = y) (kk : ZW p l e R s m args below meth c D cI cZ cO A Q X nL S cells slots pc lo (.int y :: st)) : ZW p l e R s m args below meth c D cI cZ cO A Q X nL S cells slots pc lo (.int x :: st) := h ▸ kk
theorem z_topl {x y : Int64} (h : x = y) (kk : ZW p l e R s m args below meth c D cI cZ cO A Q X nL S cells slots pc lo (.long y :: st)) : ZW p l e R s m args below meth c D cI cZ cO A Q X nL S cells slots pc lo (.long x :: st) := h ▸ kk
theorem z_objInit (h0 : ZC p s c cc nL D cI cZ cO A G) {own : String} (hown : s.vm.findClass own = some m.cls) {idx a : Nat} (hlink : (Cond.methodLink own idx Lib.objectInit).before args s = true) (hinst : (Cond.instanceMethod Lib.objectInit).before args s = true) (hcode : (Cond.code Lib.objectInit ⟨#[0xb1]⟩ 1 none).before args s = true)
    (hd : decode cc pc = .ok (.invokespecial idx, 3)) (hframes : 1 ≤ R.frames) (hlocals : (st.map fun v => v.category).sum + 12 ≤ R.locals) (kk : ZW p l e R s m args below meth c D cI cZ cO A Q X nL S cells slots (pc + 3) lo st) : ZW p l e R s m args below meth c D cI cZ cO A Q X nL S cells slots pc lo (.ref a :: st) := by
  intro H locs ls hP hD hS hl9
  exact W.objInit h0.1 h0.2.1 hown hlink hinst hcode rfl (by rw [h0.2.2.1]; exact hl9.1) rfl hd hframes (by show 2 * 0 + _ + 12 ≤ _; omega) (kk H locs ls hP hD hS hl9)
theorem z_cast (h0 : ZC p s c cc nL D cI cZ cO A G) {own C : String} {T9 : u_T} {N9 k ci index b : Nat} (hown : s.vm.findClass own = some m.cls) (hlink : (Cond.classLink own index C).before args s = true) (hk : kOk k ci) (hc : vwCl[ci]? = some (C, T9, N9)) (hb : isK S k b) (hd : decode cc pc = .ok (.checkcast index, 3))
    (kk : ZW p l e R s m args below meth c D cI cZ cO A Q X nL S cells slots (pc + 3) lo (.ref b :: st)) : ZW p l e R s m args below meth c D cI cZ cO A Q X nL S cells slots pc lo (.ref b :: st) := by
  intro H locs ls hP hD hS hl9
  exact va_castS h0.1 h0.2.1 hown hlink (h0.2.2.2.1.1 ci _ hc).2 (z_recv (X := X) h0 hk hc hb hP) hd (kk H locs ls hP hD hS hl9)
/-- throw new E("text") -/
theorem z_throw (h0 : ZC p s c cc nL D cI cZ cO A G) (hl : l.stackTraces = false) {own cls text : String} {ik is ic mc ms : Nat} {Qc : Array Value → State → Outcome → State → Prop} {xe : String → Prop} (hown : s.vm.findClass own = some m.cls) (hcls : Jvm.Bundle.fit cls = true)
    (hk : (Cond.classLink own ik cls).before args s = true) (hini : (Cond.initialized cls).before args s = true) (hstr : vk_R own is text (G (10 + is)) s) (hat : ∀ w ∈ vx_atS own ic cls ["java/lang/RuntimeException", "java/lang/Exception"], w.before args s = true)
    (hgood : ∀ w ∈ Cond.classLink own ik cls :: Cond.initialized cls :: vx_atS own ic cls ["java/lang/RuntimeException", "java/lang/Exception"], vx_ot w = true)
    (d0 : decode cc pc = .ok (.new ik, 3)) (d3 : decode cc (pc + 3) = .ok (.dup, 1)) (d4 : decode cc (pc + 4) = .ok (.ldc is, 2)) (d6 : decode cc (pc + 6) = .ok (.invokespecial ic, 3)) (d9 : decode cc (pc + 9) = .ok (.athrow, 1))
    (htab : ∀ x ∈ c.exceptionTable.toList, False) (hlocks : meth.locks = false) (hRframes : 5 < R.frames) (hRlocals : (st.map fun v => v.category).sum + 82 ≤ R.locals) (hRc : cells + 1 ≤ R.cells) (hRs : slots + 6 ≤ R.slots) (hcm : cells + 1 ≤ mc) (hsm : slots + 6 ≤ ms) (hxe : xe cls) :
    ZW p l e R s m args below meth c D cI cZ cO A (vx_MQ below Qc (vx_X (fun _ : Unit => True) (fun E _ t => xe E ∧ zB D cI cZ cO A S t) A) args s mc ms A) [] nL S cells slots pc lo st := by
  intro H locs ls hP hD hS hl9
  refine vx_throwS h0.1 h0.2.1 hl hown hcls (by decide +kernel) hk hini hstr hat hgood h0.2.2.2.2.2.2.2.2.1 h0.2.2.2.2.2.2.2.2.2.1 hS (by rw [h0.2.2.1]; exact hl9.1) d0 d3 d4 d6 d9 (fun x hx => (htab x hx).elim) hRframes (by show _ + (13 * (2 + 1) + 43) ≤ _; omega) hRc hRs hlocks (fun t hvm hz hk9 => ?_) hS.2.2 hcm hsm
  refine ⟨(), trivial, ⟨hxe, ?_, va_K.moved hvm h0.2.2.2.1, hD⟩, ⟨Nat.le_trans hS.1 hz, fun q h1 h2 => ?_⟩⟩
  · intro k q hq
    exact (hP k q hq).kept (hk9 _ (hP k q hq).lt)
  · rw [hk9 q (Nat.lt_of_lt_of_le h1 hS.1)]
    exact hS.2.1 q h1 h2
/-- ArrayList's empty array, by its static field -/
theorem z_empty (h0 : ZC p s c cc nL D cI cZ cO A G) {own : String} {index : Nat} (hown : s.vm.findClass own = some m.cls) (hlink : (Cond.fieldLink own index "java/util/ArrayList" "DEFAULTCAPACITY_EMPTY_ELEMENTDATA" "[Ljava/lang/Object;").before args s = true) (hd : decode cc pc = .ok (.getstatic index, 3))
    (kk : ZW p l e R s m args below meth c D cI cZ cO A Q X nL S cells slots (pc + 3) lo (.ref (G 0) :: st)) : ZW p l e R s m args below meth c D cI cZ cO A Q X nL S cells slots pc lo st := by
  intro H locs ls hP hD hS hl9
  exact va_gets h0.1 h0.2.1 h0.2.2.2.2.2.1 hS hown hlink (fun _ h => h) hd (kk H locs ls hP hD hS hl9)
/-- the empty array is none of the pool -/
theorem z_G0 (h0 : ZC p s c cc nL D cI cZ cO A G) (kk : G 0 ∉ pL S → ZW p l e R s m args below meth c D cI cZ cO A Q X nL S cells slots pc lo st) : ZW p l e R s m args below meth c D cI cZ cO A Q X nL S cells slots pc lo st := by
  intro H locs ls hP hD hS hl9
  refine kk (fun h => ?_) H locs ls hP hD hS hl9
  obtain ⟨q0, hq⟩ := va_pl_get (X := X) (f := pF cI cZ cO S) h
  obtain ⟨cell, -, -, -, -, -, -, hn⟩ := h0.2.2.2.2.2.2.1
  exact hn (hD.2 q0 _ hq)
theorem z_max (h0 : ZC p s c cc nL D cI cZ cO A G) {own : String} {index : Nat} (hown : s.vm.findClass own = some m.cls) (hlink : (Cond.methodLink own index Lib.Math.max.name).before args s = true) (hstat : (Cond.static Lib.Math.max.name).before args s = true) (hini : (Cond.initialized "java/lang/Math").before args s = true) (hcode : (Cond.code Lib.Math.max.name Lib.Math.max.code 2 (some .int)).before args s = true)
    (hframes : 1 ≤ R.frames) (hlocals : (st.map fun v => v.category).sum + 13 ≤ R.locals) (hc : cells ≤ R.cells) (hs : slots ≤ R.slots) {x y : Int32} (hd : decode cc pc = .ok (.invokestatic index, 3))
    (kk : ZW p l e R s m args below meth c D cI cZ cO A Q X nL S cells slots (pc + 3) lo (.int (if x < y then y else x) :: st)) : ZW p l e R s m args below meth c D cI cZ cO A Q X nL S cells slots pc lo (.int y :: .int x :: st) := by
  intro H locs ls hP hD hS hl9
  exact va_mmax h0.1 h0.2.1 (by rw [h0.2.2.1, hl9.1]) hown hlink hstat hini hcode hframes hlocals hc hs hd (kk H locs ls hP hD hS hl9)
theorem z_min (h0 : ZC p s c cc nL D cI cZ cO A G) {own : String} {index : Nat} (hown : s.vm.findClass own = some m.cls) (hlink : (Cond.methodLink own index Lib.Math.min.name).before args s = true) (hstat : (Cond.static Lib.Math.min.name).before args s = true) (hini : (Cond.initialized "java/lang/Math").before args s = true) (hcode : (Cond.code Lib.Math.min.name Lib.Math.min.code 2 (some .int)).before args s = true)
    (hframes : 1 ≤ R.frames) (hlocals : (st.map fun v => v.category).sum + 13 ≤ R.locals) (hc : cells ≤ R.cells) (hs : slots ≤ R.slots) {x y : Int32} (hd : decode cc pc = .ok (.invokestatic index, 3))
    (kk : ZW p l e R s m args below meth c D cI cZ cO A Q X nL S cells slots (pc + 3) lo (.int (if y < x then y else x) :: st)) : ZW p l e R s m args below meth c D cI cZ cO A Q X nL S cells slots pc lo (.int y :: .int x :: st) := by
  intro H locs ls hP hD hS hl9
  exact va_mmin h0.1 h0.2.1 (by rw [h0.2.2.1, hl9.1]) hown hlink hstat hini hcode hframes hlocals hc hs hd (kk H locs ls hP hD hS hl9)
/-- a new Object[] -/
theorem z_anew (h0 : ZC p s c cc nL D cI cZ cO A G) {own : String} {index N' : Nat} {n : Int32} (hown : s.vm.findClass own = some m.cls) (hclink : (Cond.classLink own index "java/lang/Object").before args s = true) (hover : (Cond.arrayOver (.object "java/lang/Object")).before args s = true) (hn : n.toInt = (N' : Int)) (hb : N' ≤ 100000) (hcells : cells + 1 ≤ R.cells) (hslots : slots + N' ≤ R.slots) (hd : decode cc pc = .ok (.anewarray index, 3))
    (kk : ∀ q : Nat, q ∉ pL S → ZW p l e R s m args below meth c D cI cZ cO A Q X nL (sN S q 10 N') (cells + 1) (slots + N') (pc + 3) lo (.ref q :: st)) : ZW p l e R s m args below meth c D cI cZ cO A Q X nL S cells slots pc lo (.int n :: st) := by
  intro H locs ls hP hD hS hl9
  refine va_newq h0.1 h0.2.1 hown hclink (va_AO.of hover) h0.2.2.2.1 hP hD hS h0.2.2.2.2.1 (n := n) (N' := N') (by rw [Int32.lt_iff_toInt_lt, Int32.toInt_zero]; omega) (zi_clamp hn) (by omega) hcells hslots hd (fun q cA H1 gK g1 g2 g3 => ?_)
  have hq : q ∉ pL S := va_pl_fresh2 g2
  have hcA : cA = cO := by
    have h1 := va_nmO (gK.2 3 (cA, .object "java/lang/Object") rfl).2 rfl
    have h2 := va_nmO (h0.2.2.2.1.2 2 (cO, .object "java/lang/Object") rfl).2 rfl
    exact Option.some.inj (h1.symm.trans h2)
  subst hcA
  have hx : pE cI cZ cA (sN S q 10 N') 10 q = .inl (cA, N', .inr (.inr (.inr (.inr (fun _ => none))))) := by simp [pE, sN, pN, pQ, va_up_self]
  rw [zN_eq hx hq] at g1 g2
  exact kk q hq H1 locs ls g1 g2 g3 hl9
/-- a reference into an Object[]: any object of the pool -/
theorem z_astq (h0 : ZC p s c cc nL D cI cZ cO A G) {a j b k ci : Nat} {i : Int32} {C : String} {T9 : u_T} {N9 : Nat} (hk : kOk k ci) (hc : vwCl[ci]? = some (C, T9, N9)) (hb : isK S k b) (hcast : va_Nw (.castable C "java/lang/Object") s) (hd : decode cc pc = .ok (.aastore, 1)) (ha : isK S 10 a) (hi : i.toInt = (j : Int)) (hj : j < pN S a)
    (kk : ZW p l e R s m args below meth c D cI cZ cO A Q X nL (sQ S a j (some b)) cells slots (pc + 1) lo st) : ZW p l e R s m args below meth c D cI cZ cO A Q X nL S cells slots pc lo (.ref b :: .int i :: .ref a :: st) := by
  intro H locs ls hP hD hS hl9
  obtain ⟨q0, hq⟩ := va_pl_get (X := X) (f := pF cI cZ cO S) ha.1
  have heq : (X ++ zw cI cZ cO S).set q0 (a, .inl (cO, pN S a, .inr (.inr (.inr (.inr (va_up (pQ S a) j (some b))))))) = X ++ zw cI cZ cO (sQ S a j (some b)) := by
    rw [va_pl_set hD ha.1 hq]
    refine congrArg (fun w => X ++ w) (va_pl_congr (fun b' => ?_))
    by_cases hb' : b' = a
    · subst hb'
      rw [va_up_self, pF_10 (S := sQ S b' j (some b)) ha.2]
      exact congrArg (fun g => Sum.inl (cO, pN S b', Sum.inr (Sum.inr (Sum.inr (Sum.inr g))))) up2_va.symm
    · rw [va_up_ne _ _ hb', pF_sQ hb']
  rw [pF_10 ha.2] at hq
  obtain ⟨fs, e1⟩ := hk cI cZ cO S b hb.2
  obtain ⟨q1, hq1⟩ := va_pl_get (X := X) (f := pF cI cZ cO S) hb.1
  rw [e1] at hq1
  have hany : va_Any "java/lang/Object" s H b := va_rAny h0.2.2.2.1 hP hq1 hc (fun comp c0 g1 g2 => by
    obtain ⟨c3, c4, w1, w2, w3⟩ := Cond.castable_spec hcast
    cases Option.some.inj (w1.symm.trans g2)
    cases Option.some.inj (w2.symm.trans g1)
    exact w3)
  refine va_astqM h0.1 h0.2.1 h0.2.2.2.1 hP hD hS q0 2 hq rfl hany (zi_in hi hj) hd (fun H1 locs1 g1 g2 g3 => ?_)
  rw [zi_clamp hi, heq] at g1 g2
  exact kk H1 locs1 ls g1 g2 g3 hl9
end MORE
end
section
/-! THE FOUR EXCEPTIONS: the words that a throw wants, out of a method's own list and what stays of the start. -/
section THROWN
/-- the words of a throw that are told of the start -/
def xe_B (E : String) : List Cond := [.declares (Jvm.Bundle.initS "java/lang/RuntimeException"), .declares (Jvm.Bundle.initS "java/lang/Exception"), .declares (Jvm.Bundle.initS "java/lang/Throwable"), .castable E E]
theorem xe_bad0 : (vx_atS RX5 40 "java/lang/IllegalArgumentException" ["java/lang/RuntimeException", "java/lang/Exception"]).filter (fun w => !goodWord w) = xe_B "java/lang/IllegalArgumentException" := by decide +kernel
theorem xe_bad1 : (vx_atS RX5 51 "java/lang/UnsupportedOperationException" ["java/lang/RuntimeException", "java/lang/Exception"]).filter (fun w => !goodWord w) = xe_B "java/lang/UnsupportedOperationException" := by decide +kernel
theorem xe_bad2 : (vx_atS RX5 198 "java/lang/IndexOutOfBoundsException" ["java/lang/RuntimeException", "java/lang/Exception"]).filter (fun w => !goodWord w) = xe_B "java/lang/IndexOutOfBoundsException" := by decide +kernel
theorem xe_bad3 : (vx_atS RX5 133 "java/lang/IllegalStateException" ["java/lang/RuntimeException", "java/lang/Exception"]).filter (fun w => !goodWord w) = xe_B "java/lang/IllegalStateException" := by decide +kernel
theorem xe_ot0 (ik : Nat) : ∀ w ∈ Cond.classLink RX5 ik "java/lang/IllegalArgumentException" :: Cond.initialized "java/lang/IllegalArgumentException" :: vx_atS RX5 40 "java/lang/IllegalArgumentException" ["java/lang/RuntimeException", "java/lang/Exception"], vx_ot w = true := by
  intro w hw
  rcases List.mem_cons.mp hw with rfl | hw
  · rfl
  · have h : ∀ w ∈ Cond.initialized "java/lang/IllegalArgumentException" :: vx_atS RX5 40 "java/lang/IllegalArgumentException" ["java/lang/RuntimeException", "java/lang/Exception"], vx_ot w = true := by decide +kernel
    exact h w hw
theorem xe_ot1 (ik : Nat) : ∀ w ∈ Cond.classLink RX5 ik "java/lang/UnsupportedOperationException" :: Cond.initialized "java/lang/UnsupportedOperationException" :: vx_atS RX5 51 "java/lang/UnsupportedOperationException" ["java/lang/RuntimeException", "java/lang/Exception"], vx_ot w = true := by
  intro w hw
  rcases List.mem_cons.mp hw with rfl | hw
  · rfl
  · have h : ∀ w ∈ Cond.initialized "java/lang/UnsupportedOperationException" :: vx_atS RX5 51 "java/lang/UnsupportedOperationException" ["java/lang/RuntimeException", "java/lang/Exception"], vx_ot w = true := by decide +kernel
    exact h w hw
theorem xe_ot2 (ik : Nat) : ∀ w ∈ Cond.classLink RX5 ik "java/lang/IndexOutOfBoundsException" :: Cond.initialized "java/lang/IndexOutOfBoundsException" :: vx_atS RX5 198 "java/lang/IndexOutOfBoundsException" ["java/lang/RuntimeException", "java/lang/Exception"], vx_ot w = true := by
  intro w hw
  rcases List.mem_cons.mp hw with rfl | hw
  · rfl
  · have h : ∀ w ∈ Cond.initialized "java/lang/IndexOutOfBoundsException" :: vx_atS RX5 198 "java/lang/IndexOutOfBoundsException" ["java/lang/RuntimeException", "java/lang/Exception"], vx_ot w = true := by decide +kernel
    exact h w hw
theorem xe_ot3 (ik : Nat) : ∀ w ∈ Cond.classLink RX5 ik "java/lang/IllegalStateException" :: Cond.initialized "java/lang/IllegalStateException" :: vx_atS RX5 133 "java/lang/IllegalStateException" ["java/lang/RuntimeException", "java/lang/Exception"], vx_ot w = true := by
  intro w hw
  rcases List.mem_cons.mp hw with rfl | hw
  · rfl
  · have h : ∀ w ∈ Cond.initialized "java/lang/IllegalStateException" :: vx_atS RX5 133 "java/lang/IllegalStateException" ["java/lang/RuntimeException", "java/lang/Exception"], vx_ot w = true := by decide +kernel
    exact h w hw
theorem xe_hat {E : String} {ic : Nat} {args : Array Value} {s : State} (hbad : (vx_atS RX5 ic E ["java/lang/RuntimeException", "java/lang/Exception"]).filter (fun w => !goodWord w) = xe_B E) {G : Nat → Nat} {A : Nat → Prop} {H : Heap} (hG : zG G A s H) (hE : E ∈ zEx)
    (h1 : ∀ w ∈ (vx_atS RX5 ic E ["java/lang/RuntimeException", "java/lang/Exception"]).filter goodWord, w.before args s = true) : ∀ w ∈ vx_atS RX5 ic E ["java/lang/RuntimeException", "java/lang/Exception"], w.before args s = true :=
  vx_hat (B := xe_B E) h1 (by rw [hbad]; exact fun w h => h) (vx_c (va_Nw.use rfl (hG.2.2.2.2.2.2.2.2.2 _ (by decide +kernel))) (vx_c (va_Nw.use rfl (hG.2.2.2.2.2.2.2.2.2 _ (by decide +kernel))) (vx_c (va_Nw.use rfl (hG.2.2.2.2.2.2.2.2.2 _ (by decide +kernel))) (vx_c (va_Nw.use rfl (hG.2.2.2.2.2.2.1 E hE)) vx_n))))
end THROWN
end
section
/-! LEAVES: transfers, the list's reads. -/
section LEAVES
abbrev T5 : Type := Int32 × Int32 × Int32 × Int32 × Int32
/-- what a transfer holds -/
def tr (S : PS) (t : Nat) : T5 := (pI S 10 t, pI S 11 t, pI S 12 t, pI S 13 t, pI S 14 t)

abbrev rm_X4_same : Room := { frames := 0, cells := 0, slots := 0, locals := 0 }
set_option maxRecDepth 100000 in
set_option maxHeartbeats 4000000 in
theorem c_X4_same {l : Launch} {D : va_G} {cI cZ cO : ClassId} {G : Nat → Nat} {S : PS} {a b : Nat} (ha : isK S 4 a) (hb : isK S 4 b) : zMi l yX4_same wsX4_same rm_X4_same [.ref a, .ref b] D cI cZ cO G S (fun r S' => S' = S ∧ r = if tr S a = tr S b then 1 else 0) := by
  refine z_of (cc := cX4_same) (maxL := 2) (ret := (some .boolean)) (lo := [some (.ref a), some (.ref b)]) (by decide) rfl rfl (Nat.le_of_ble_eq_true rfl) rfl ?_
  intro p e s m args below meth c h0 hts hown hr hlk hnm
  have hown : s.vm.findClass RX4 = some m.cls := hown
  have inX4 : ∀ w ∈ u_ws RX4 TX4 5, w ∈ wsX4_same := by decide +kernel
  have lk_7 : zLk s m args RX4 7 5 0 := ⟨RX4, TX4, 5, "PurseWorld$Transfer", wsX4_same, rfl, by decide, hts, inX4, hown, hts (.fieldLink RX4 7 "PurseWorld$Transfer" "payer" "I") (by decide +kernel), fun _ h => h⟩
  have lk_13 : zLk s m args RX4 13 5 1 := ⟨RX4, TX4, 5, "PurseWorld$Transfer", wsX4_same, rfl, by decide, hts, inX4, hown, hts (.fieldLink RX4 13 "PurseWorld$Transfer" "payerSerial" "I") (by decide +kernel), fun _ h => h⟩
  have lk_16 : zLk s m args RX4 16 5 2 := ⟨RX4, TX4, 5, "PurseWorld$Transfer", wsX4_same, rfl, by decide, hts, inX4, hown, hts (.fieldLink RX4 16 "PurseWorld$Transfer" "payee" "I") (by decide +kernel), fun _ h => h⟩
  have lk_19 : zLk s m args RX4 19 5 3 := ⟨RX4, TX4, 5, "PurseWorld$Transfer", wsX4_same, rfl, by decide, hts, inX4, hown, hts (.fieldLink RX4 19 "PurseWorld$Transfer" "payeeSerial" "I") (by decide +kernel), fun _ h => h⟩
  have lk_22 : zLk s m args RX4 22 5 4 := ⟨RX4, TX4, 5, "PurseWorld$Transfer", wsX4_same, rfl, by decide, hts, inX4, hown, hts (.fieldLink RX4 22 "PurseWorld$Transfer" "amount" "I") (by decide +kernel), fun _ h => h⟩
  refine z_aload_n h0 dX4_same_0 rfl ?_
  refine z_getI h0 fI10 lk_7 dX4_same_1 (by assumption) ?_
  refine z_aload_n h0 dX4_same_4 rfl ?_
  refine z_getI h0 fI10 lk_7 dX4_same_5 (by assumption) ?_
  refine z_icmp_ne (tgt := 59) h0 dX4_same_8 (by decide) (fun h8 => ?_) (fun h8 => ?_)
  · refine z_iconst (v := 0) h0 dX4_same_59 (by decide) ?_
    exact z_zret h0 hr rfl hlk dX4_same_60 (Nat.le_of_ble_eq_true rfl) (Nat.le_of_ble_eq_true rfl) ⟨rfl, by simp_all [tr]⟩
  · refine z_aload_n h0 dX4_same_11 rfl ?_
    refine z_getI h0 fI11 lk_13 dX4_same_12 (by assumption) ?_
    refine z_aload_n h0 dX4_same_15 rfl ?_
    refine z_getI h0 fI11 lk_13 dX4_same_16 (by assumption) ?_
    refine z_icmp_ne (tgt := 59) h0 dX4_same_19 (by decide) (fun h19 => ?_) (fun h19 => ?_)
    · refine z_iconst (v := 0) h0 dX4_same_59 (by decide) ?_
      exact z_zret h0 hr rfl hlk dX4_same_60 (Nat.le_of_ble_eq_true rfl) (Nat.le_of_ble_eq_true rfl) ⟨rfl, by simp_all [tr]⟩
    · refine z_aload_n h0 dX4_same_22 rfl ?_
      refine z_getI h0 fI12 lk_16 dX4_same_23 (by assumption) ?_
      refine z_aload_n h0 dX4_same_26 rfl ?_
      refine z_getI h0 fI12 lk_16 dX4_same_27 (by assumption) ?_
      refine z_icmp_ne (tgt := 59) h0 dX4_same_30 (by decide) (fun h30 => ?_) (fun h30 => ?_)
      · refine z_iconst (v := 0) h0 dX4_same_59 (by decide) ?_
        exact z_zret h0 hr rfl hlk dX4_same_60 (Nat.le_of_ble_eq_true rfl) (Nat.le_of_ble_eq_true rfl) ⟨rfl, by simp_all [tr]⟩
      · refine z_aload_n h0 dX4_same_33 rfl ?_
        refine z_getI h0 fI13 lk_19 dX4_same_34 (by assumption) ?_
        refine z_aload_n h0 dX4_same_37 rfl ?_
        refine z_getI h0 fI13 lk_19 dX4_same_38 (by assumption) ?_
        refine z_icmp_ne (tgt := 59) h0 dX4_same_41 (by decide) (fun h41 => ?_) (fun h41 => ?_)
        · refine z_iconst (v := 0) h0 dX4_same_59 (by decide) ?_
          exact z_zret h0 hr rfl hlk dX4_same_60 (Nat.le_of_ble_eq_true rfl) (Nat.le_of_ble_eq_true rfl) ⟨rfl, by simp_all [tr]⟩
        · refine z_aload_n h0 dX4_same_44 rfl ?_
          refine z_getI h0 fI14 lk_22 dX4_same_45 (by assumption) ?_
          refine z_aload_n h0 dX4_same_48 rfl ?_
          refine z_getI h0 fI14 lk_22 dX4_same_49 (by assumption) ?_
          refine z_icmp_ne (tgt := 59) h0 dX4_same_52 (by decide) (fun h52 => ?_) (fun h52 => ?_)
          · refine z_iconst (v := 0) h0 dX4_same_59 (by decide) ?_
            exact z_zret h0 hr rfl hlk dX4_same_60 (Nat.le_of_ble_eq_true rfl) (Nat.le_of_ble_eq_true rfl) ⟨rfl, by simp_all [tr]⟩
          · refine z_iconst (v := 1) h0 dX4_same_55 (by decide) ?_
            refine z_goto (tgt := 60) h0 dX4_same_56 (by decide) ?_
            exact z_zret h0 hr rfl hlk dX4_same_60 (Nat.le_of_ble_eq_true rfl) (Nat.le_of_ble_eq_true rfl) ⟨rfl, by simp_all [tr]⟩

abbrev rm_X4_init : Room := { frames := 1, cells := 0, slots := 0, locals := 20 }
set_option maxRecDepth 100000 in
set_option maxHeartbeats 4000000 in
theorem c_X4_init {l : Launch} {D : va_G} {cI cZ cO : ClassId} {G : Nat → Nat} {S : PS} {a : Nat} {x1 x2 x3 x4 x5 : Int32} (ha : isK S 4 a) : zMv l yX4_init wsX4_init rm_X4_init [.ref a, .int x1, .int x2, .int x3, .int x4, .int x5] D cI cZ cO G S (fun S' => S' = sI (sI (sI (sI (sI S 10 a x1) 11 a x2) 12 a x3) 13 a x4) 14 a x5) := by
  refine z_of (cc := cX4_init) (maxL := 6) (ret := none) (lo := [some (.ref a), some (.int x1), some (.int x2), some (.int x3), some (.int x4), some (.int x5)]) (by decide) rfl rfl (Nat.le_of_ble_eq_true rfl) rfl ?_
  intro p e s m args below meth c h0 hts hown hr hlk hnm
  have hown : s.vm.findClass RX4 = some m.cls := hown
  have inX4 : ∀ w ∈ u_ws RX4 TX4 5, w ∈ wsX4_init := by decide +kernel
  have lp_7 : zLp s m args meth RX4 7 5 0 .int := ⟨RX4, TX4, 5, "PurseWorld$Transfer", wsX4_init, tyX4, rfl, by decide, hts, inX4, hown, hts (.fieldLink RX4 7 "PurseWorld$Transfer" "payer" "I") (by decide +kernel), fun _ h => h, tyX4_ok, nmX4, by decide +kernel, Or.inr ⟨rfl, hnm, rfl⟩⟩
  have lp_13 : zLp s m args meth RX4 13 5 1 .int := ⟨RX4, TX4, 5, "PurseWorld$Transfer", wsX4_init, tyX4, rfl, by decide, hts, inX4, hown, hts (.fieldLink RX4 13 "PurseWorld$Transfer" "payerSerial" "I") (by decide +kernel), fun _ h => h, tyX4_ok, nmX4, by decide +kernel, Or.inr ⟨rfl, hnm, rfl⟩⟩
  have lp_16 : zLp s m args meth RX4 16 5 2 .int := ⟨RX4, TX4, 5, "PurseWorld$Transfer", wsX4_init, tyX4, rfl, by decide, hts, inX4, hown, hts (.fieldLink RX4 16 "PurseWorld$Transfer" "payee" "I") (by decide +kernel), fun _ h => h, tyX4_ok, nmX4, by decide +kernel, Or.inr ⟨rfl, hnm, rfl⟩⟩
  have lp_19 : zLp s m args meth RX4 19 5 3 .int := ⟨RX4, TX4, 5, "PurseWorld$Transfer", wsX4_init, tyX4, rfl, by decide, hts, inX4, hown, hts (.fieldLink RX4 19 "PurseWorld$Transfer" "payeeSerial" "I") (by decide +kernel), fun _ h => h, tyX4_ok, nmX4, by decide +kernel, Or.inr ⟨rfl, hnm, rfl⟩⟩
  have lp_22 : zLp s m args meth RX4 22 5 4 .int := ⟨RX4, TX4, 5, "PurseWorld$Transfer", wsX4_init, tyX4, rfl, by decide, hts, inX4, hown, hts (.fieldLink RX4 22 "PurseWorld$Transfer" "amount" "I") (by decide +kernel), fun _ h => h, tyX4_ok, nmX4, by decide +kernel, Or.inr ⟨rfl, hnm, rfl⟩⟩
  refine z_aload_n h0 dX4_init_0 rfl ?_
  refine z_objInit h0 hown (hts (.methodLink RX4 1 objectInit) (by decide +kernel)) (hts (.instanceMethod objectInit) (by decide +kernel)) (hts (.code objectInit ⟨#[0xb1]⟩ 1 none) (by decide +kernel)) dX4_init_1 (Nat.le_of_ble_eq_true rfl) (Nat.le_of_ble_eq_true rfl) ?_
  refine z_aload_n h0 dX4_init_4 rfl ?_
  refine z_iload_n h0 dX4_init_5 rfl ?_
  refine z_putI h0 fI10 lp_7 dX4_init_6 (by assumption) rfl rfl ?_
  refine z_aload_n h0 dX4_init_9 rfl ?_
  refine z_iload_n h0 dX4_init_10 rfl ?_
  refine z_putI h0 fI11 lp_13 dX4_init_11 (by assumption) rfl rfl ?_
  refine z_aload_n h0 dX4_init_14 rfl ?_
  refine z_iload_n h0 dX4_init_15 rfl ?_
  refine z_putI h0 fI12 lp_16 dX4_init_16 (by assumption) rfl rfl ?_
  refine z_aload_n h0 dX4_init_19 rfl ?_
  refine z_iload h0 dX4_init_20 rfl ?_
  refine z_putI h0 fI13 lp_19 dX4_init_22 (by assumption) rfl rfl ?_
  refine z_aload_n h0 dX4_init_25 rfl ?_
  refine z_iload h0 dX4_init_26 rfl ?_
  refine z_putI h0 fI14 lp_22 dX4_init_28 (by assumption) rfl rfl ?_
  exact z_vret h0 hr hlk dX4_init_31 (Nat.le_of_ble_eq_true rfl) (Nat.le_of_ble_eq_true rfl) rfl

abbrev rm_Jx4a65c_size_8abf5 : Room := { frames := 0, cells := 0, slots := 0, locals := 0 }
set_option maxRecDepth 100000 in
set_option maxHeartbeats 4000000 in
theorem c_Jx4a65c_size_8abf5 {l : Launch} {D : va_G} {cI cZ cO : ClassId} {G : Nat → Nat} {S : PS} {a : Nat} (ha : isK S 7 a) : zMi l yJx4a65c_size_8abf5 wsJx4a65c_size_8abf5 rm_Jx4a65c_size_8abf5 [.ref a] D cI cZ cO G S (fun r S' => S' = S ∧ r = pI S 20 a) := by
  refine z_of (cc := cJx4a65c_size_8abf5) (maxL := 1) (ret := (some .int)) (lo := [some (.ref a)]) (by decide) rfl rfl (Nat.le_of_ble_eq_true rfl) rfl ?_
  intro p e s m args below meth c h0 hts hown hr hlk hnm
  have hown : s.vm.findClass RJx4a65c = some m.cls := hown
  have inJx4a65c : ∀ w ∈ u_ws RJx4a65c TJx4a65c 3, w ∈ wsJx4a65c_size_8abf5 := by decide +kernel
  have lk_48 : zLk s m args RJx4a65c 48 0 2 := ⟨RJx4a65c, TJx4a65c, 3, "java/util/ArrayList", wsJx4a65c_size_8abf5, rfl, by decide, hts, inJx4a65c, hown, hts (.fieldLink RJx4a65c 48 "java/util/ArrayList" "size" "I") (by decide +kernel), fun _ h => h⟩
  refine z_aload_n h0 dJx4a65c_size_8abf5_0 rfl ?_
  refine z_getI h0 fI20 lk_48 dJx4a65c_size_8abf5_1 (by assumption) ?_
  exact z_iret h0 hr hlk dJx4a65c_size_8abf5_4 (Nat.le_of_ble_eq_true rfl) (Nat.le_of_ble_eq_true rfl) ⟨rfl, rfl⟩

abbrev rm_Jx4a65c_isEmpty_aae02 : Room := { frames := 0, cells := 0, slots := 0, locals := 0 }
set_option maxRecDepth 100000 in
set_option maxHeartbeats 4000000 in
theorem c_Jx4a65c_isEmpty_aae02 {l : Launch} {D : va_G} {cI cZ cO : ClassId} {G : Nat → Nat} {S : PS} {a : Nat} (ha : isK S 7 a) : zMi l yJx4a65c_isEmpty_aae02 wsJx4a65c_isEmpty_aae02 rm_Jx4a65c_isEmpty_aae02 [.ref a] D cI cZ cO G S (fun r S' => S' = S ∧ r = if pI S 20 a = 0 then 1 else 0) := by
  refine z_of (cc := cJx4a65c_isEmpty_aae02) (maxL := 1) (ret := (some .boolean)) (lo := [some (.ref a)]) (by decide) rfl rfl (Nat.le_of_ble_eq_true rfl) rfl ?_
  intro p e s m args below meth c h0 hts hown hr hlk hnm
  have hown : s.vm.findClass RJx4a65c = some m.cls := hown
  have inJx4a65c : ∀ w ∈ u_ws RJx4a65c TJx4a65c 3, w ∈ wsJx4a65c_isEmpty_aae02 := by decide +kernel
  have lk_48 : zLk s m args RJx4a65c 48 0 2 := ⟨RJx4a65c, TJx4a65c, 3, "java/util/ArrayList", wsJx4a65c_isEmpty_aae02, rfl, by decide, hts, inJx4a65c, hown, hts (.fieldLink RJx4a65c 48 "java/util/ArrayList" "size" "I") (by decide +kernel), fun _ h => h⟩
  refine z_aload_n h0 dJx4a65c_isEmpty_aae02_0 rfl ?_
  refine z_getI h0 fI20 lk_48 dJx4a65c_isEmpty_aae02_1 (by assumption) ?_
  refine z_if_ne (tgt := 11) h0 dJx4a65c_isEmpty_aae02_4 (by decide) (fun h4 => ?_) (fun h4 => ?_)
  · refine z_iconst (v := 0) h0 dJx4a65c_isEmpty_aae02_11 (by decide) ?_
    exact z_zret h0 hr rfl hlk dJx4a65c_isEmpty_aae02_12 (Nat.le_of_ble_eq_true rfl) (Nat.le_of_ble_eq_true rfl) ⟨rfl, by simp_all⟩
  · refine z_iconst (v := 1) h0 dJx4a65c_isEmpty_aae02_7 (by decide) ?_
    refine z_goto (tgt := 12) h0 dJx4a65c_isEmpty_aae02_8 (by decide) ?_
    exact z_zret h0 hr rfl hlk dJx4a65c_isEmpty_aae02_12 (Nat.le_of_ble_eq_true rfl) (Nat.le_of_ble_eq_true rfl) ⟨rfl, by simp_all⟩

end LEAVES
end
