/-! THE SMALL CLASSES: entries, messages, purses, the archive. -/
section SMALL
theorem isK_neK {S : PS} {j k a b : Nat} (ha : isK S j a) (hb : isK S k b) (h : j ≠ k) : a ≠ b := fun z => h (ha.2.symm.trans ((congrArg (pK S) z).trans hb.2))
theorem Fr_K {S S' : PS} {a k b : Nat} (h : Fr S S' a) (hb : isK S k b) : isK S' k b := ⟨(h.1 b hb.1).1, (h.1 b hb.1).2.1.trans hb.2⟩
theorem Fr_I {S S' : PS} {a k b f : Nat} (h : Fr S S' a) (hb : isK S k b) (hne : b ≠ a) : pI S' f b = pI S f b := ((h.1 b hb.1).2.2.2.2.1 hne).1 f
theorem Fr_O {S S' : PS} {a k b f : Nat} (h : Fr S S' a) (hb : isK S k b) (hne : b ≠ a) : pO S' f b = pO S f b := ((h.1 b hb.1).2.2.2.2.1 hne).2 f
theorem any_f {xs : List Nat} {P : Nat → Prop} [DecidablePred P] (h : ∀ (j x : Nat), j < xs.length → xs[j]? = some x → ¬ P x) : xs.any (fun x => decide (P x)) = false := by
  rw [List.any_eq_false]
  intro x hx
  obtain ⟨j, hj⟩ := List.getElem?_of_mem hx
  simpa using h j x (List.getElem?_eq_some_iff.mp hj).1 hj
theorem any_t {xs : List Nat} {P : Nat → Prop} [DecidablePred P] {j x : Nat} (h : xs[j]? = some x) (hP : P x) : xs.any (fun x => decide (P x)) = true := List.any_eq_true.mpr ⟨x, List.mem_of_getElem? h, by simpa using hP⟩
theorem lt_succ_cases {P : Nat → Nat → Prop} {xs : List Nat} {i x : Nat} (h : ∀ (j y : Nat), j < i → xs[j]? = some y → P j y) (hx : xs[i]? = some x) (hP : P i x) : ∀ (j y : Nat), j < i + 1 → xs[j]? = some y → P j y := by
  intro j y hj hy
  rcases Nat.lt_or_eq_of_le (Nat.le_of_lt_succ hj) with g | g
  · exact h j y g hy
  · subst g
    cases Option.some.inj (hx.symm.trans hy)
    exact hP
theorem get_lt {xs : List Nat} {i : Nat} (h : i < xs.length) : ∃ x, xs[i]? = some x := ⟨xs[i], List.getElem?_eq_getElem h⟩
/-- an entry stands at x -/
def enK (S : PS) (x : Nat) : Prop := isK S 1 x ∧ ∃ t, pO S 1 x = some t ∧ isK S 4 t
/-- the transfer of an entry -/
def enT (S : PS) (x : Nat) : T5 := tr S ((pO S 1 x).getD 0)
theorem enT_of {S : PS} {x t : Nat} (h : pO S 1 x = some t) : enT S x = tr S t := by unfold enT; rw [h]; rfl

abbrev rm_X1_init : Room := { frames := 1, cells := 0, slots := 0, locals := 20 }
set_option maxRecDepth 100000 in
set_option maxHeartbeats 4000000 in
theorem c_X1_init {l : Launch} {D : va_G} {cI cZ cO : ClassId} {G : Nat → Nat} {S : PS} {a t : Nat} {x : Int32} (ha : isK S 1 a) : zMv l yX1_init wsX1_init rm_X1_init [.ref a, .int x, .ref t] D cI cZ cO G S (fun S' => S' = sO (sI S 0 a x) 1 a (some t)) := by
  refine z_of (cc := cX1_init) (maxL := 3) (ret := none) (lo := [some (.ref a), some (.int x), some (.ref t)]) (by decide) rfl rfl (Nat.le_of_ble_eq_true rfl) rfl ?_
  intro pp ee ss mi aa bl mh cd h0 hts hown hr hlk hnm
  have hown : ss.vm.findClass RX1 = some mi.cls := hown
  have inX1 : ∀ w ∈ u_ws RX1 TX1 3, w ∈ wsX1_init := by decide +kernel
  have lp_7 : zLp ss mi aa mh RX1 7 2 0 .int := ⟨RX1, TX1, 3, "PurseWorld$Entry", wsX1_init, tyX1, rfl, by decide, hts, inX1, hown, hts (.fieldLink RX1 7 "PurseWorld$Entry" "teller" "I") (by decide +kernel), fun _ h => h, tyX1_ok, nmX1, by decide +kernel, Or.inr ⟨rfl, hnm, rfl⟩⟩
  have lp_13 : zLp ss mi aa mh RX1 13 2 1 (.object "PurseWorld$Transfer") := ⟨RX1, TX1, 3, "PurseWorld$Entry", wsX1_init, tyX1, rfl, by decide, hts, inX1, hown, hts (.fieldLink RX1 13 "PurseWorld$Entry" "terms" "LPurseWorld$Transfer;") (by decide +kernel), fun _ h => h, tyX1_ok, nmX1, by decide +kernel, Or.inr ⟨rfl, hnm, rfl⟩⟩
  refine z_aload_n h0 dX1_init_0 rfl ?_
  refine z_objInit h0 hown (hts (.methodLink RX1 1 objectInit) (by decide +kernel)) (hts (.instanceMethod objectInit) (by decide +kernel)) (hts (.code objectInit ⟨#[0xb1]⟩ 1 none) (by decide +kernel)) dX1_init_1 (Nat.le_of_ble_eq_true rfl) (Nat.le_of_ble_eq_true rfl) ?_
  refine z_aload_n h0 dX1_init_4 rfl ?_
  refine z_iload_n h0 dX1_init_5 rfl ?_
  refine z_putI h0 fI0 lp_7 dX1_init_6 (by assumption) rfl rfl ?_
  refine z_aload_n h0 dX1_init_9 rfl ?_
  refine z_aload_n h0 dX1_init_10 rfl ?_
  refine z_putO h0 fO1 lp_13 dX1_init_11 (by assumption) rfl rfl ?_
  exact z_vret h0 hr hlk dX1_init_14 (Nat.le_of_ble_eq_true rfl) (Nat.le_of_ble_eq_true rfl) rfl

abbrev rm_X2_init : Room := { frames := 1, cells := 0, slots := 0, locals := 20 }
set_option maxRecDepth 100000 in
set_option maxHeartbeats 4000000 in
theorem c_X2_init {l : Launch} {D : va_G} {cI cZ cO : ClassId} {G : Nat → Nat} {S : PS} {a t : Nat} {x1 x2 x3 x4 : Int32} (ha : isK S 2 a) : zMv l yX2_init wsX2_init rm_X2_init [.ref a, .int x1, .int x2, .ref t, .int x3, .int x4] D cI cZ cO G S (fun S' => S' = sI (sI (sO (sI (sI S 2 a x1) 3 a x2) 2 a (some t)) 4 a x3) 5 a x4) := by
  refine z_of (cc := cX2_init) (maxL := 6) (ret := none) (lo := [some (.ref a), some (.int x1), some (.int x2), some (.ref t), some (.int x3), some (.int x4)]) (by decide) rfl rfl (Nat.le_of_ble_eq_true rfl) rfl ?_
  intro pp ee ss mi aa bl mh cd h0 hts hown hr hlk hnm
  have hown : ss.vm.findClass RX2 = some mi.cls := hown
  have inX2 : ∀ w ∈ u_ws RX2 TX2 5, w ∈ wsX2_init := by decide +kernel
  have lp_7 : zLp ss mi aa mh RX2 7 3 0 .int := ⟨RX2, TX2, 5, "PurseWorld$Message", wsX2_init, tyX2, rfl, by decide, hts, inX2, hown, hts (.fieldLink RX2 7 "PurseWorld$Message" "kind" "I") (by decide +kernel), fun _ h => h, tyX2_ok, nmX2, by decide +kernel, Or.inr ⟨rfl, hnm, rfl⟩⟩
  have lp_13 : zLp ss mi aa mh RX2 13 3 1 .int := ⟨RX2, TX2, 5, "PurseWorld$Message", wsX2_init, tyX2, rfl, by decide, hts, inX2, hown, hts (.fieldLink RX2 13 "PurseWorld$Message" "to" "I") (by decide +kernel), fun _ h => h, tyX2_ok, nmX2, by decide +kernel, Or.inr ⟨rfl, hnm, rfl⟩⟩
  have lp_16 : zLp ss mi aa mh RX2 16 3 2 (.object "PurseWorld$Transfer") := ⟨RX2, TX2, 5, "PurseWorld$Message", wsX2_init, tyX2, rfl, by decide, hts, inX2, hown, hts (.fieldLink RX2 16 "PurseWorld$Message" "terms" "LPurseWorld$Transfer;") (by decide +kernel), fun _ h => h, tyX2_ok, nmX2, by decide +kernel, Or.inr ⟨rfl, hnm, rfl⟩⟩
  have lp_20 : zLp ss mi aa mh RX2 20 3 3 .int := ⟨RX2, TX2, 5, "PurseWorld$Message", wsX2_init, tyX2, rfl, by decide, hts, inX2, hown, hts (.fieldLink RX2 20 "PurseWorld$Message" "teller" "I") (by decide +kernel), fun _ h => h, tyX2_ok, nmX2, by decide +kernel, Or.inr ⟨rfl, hnm, rfl⟩⟩
  have lp_23 : zLp ss mi aa mh RX2 23 3 4 .int := ⟨RX2, TX2, 5, "PurseWorld$Message", wsX2_init, tyX2, rfl, by decide, hts, inX2, hown, hts (.fieldLink RX2 23 "PurseWorld$Message" "archived" "I") (by decide +kernel), fun _ h => h, tyX2_ok, nmX2, by decide +kernel, Or.inr ⟨rfl, hnm, rfl⟩⟩
  refine z_aload_n h0 dX2_init_0 rfl ?_
  refine z_objInit h0 hown (hts (.methodLink RX2 1 objectInit) (by decide +kernel)) (hts (.instanceMethod objectInit) (by decide +kernel)) (hts (.code objectInit ⟨#[0xb1]⟩ 1 none) (by decide +kernel)) dX2_init_1 (Nat.le_of_ble_eq_true rfl) (Nat.le_of_ble_eq_true rfl) ?_
  refine z_aload_n h0 dX2_init_4 rfl ?_
  refine z_iload_n h0 dX2_init_5 rfl ?_
  refine z_putI h0 fI2 lp_7 dX2_init_6 (by assumption) rfl rfl ?_
  refine z_aload_n h0 dX2_init_9 rfl ?_
  refine z_iload_n h0 dX2_init_10 rfl ?_
  refine z_putI h0 fI3 lp_13 dX2_init_11 (by assumption) rfl rfl ?_
  refine z_aload_n h0 dX2_init_14 rfl ?_
  refine z_aload_n h0 dX2_init_15 rfl ?_
  refine z_putO h0 fO2 lp_16 dX2_init_16 (by assumption) rfl rfl ?_
  refine z_aload_n h0 dX2_init_19 rfl ?_
  refine z_iload h0 dX2_init_20 rfl ?_
  refine z_putI h0 fI4 lp_20 dX2_init_22 (by assumption) rfl rfl ?_
  refine z_aload_n h0 dX2_init_25 rfl ?_
  refine z_iload h0 dX2_init_26 rfl ?_
  refine z_putI h0 fI5 lp_23 dX2_init_28 (by assumption) rfl rfl ?_
  exact z_vret h0 hr hlk dX2_init_31 (Nat.le_of_ble_eq_true rfl) (Nat.le_of_ble_eq_true rfl) rfl

abbrev rm_X3_init : Room := { frames := 4, cells := 1, slots := 3, locals := 80 }
set_option maxRecDepth 100000 in
set_option maxHeartbeats 4000000 in
theorem c_X3_init {l : Launch} {D : va_G} {cI cZ cO : ClassId} {G : Nat → Nat} {S : PS} {a t : Nat} {x1 x2 : Int32} (ha : isK S 3 a) : zMv l yX3_init wsX3_init rm_X3_init [.ref a, .int x1, .int x2, .ref t] D cI cZ cO G S (fun S' => ∃ q, q ∉ pL S ∧ S' = sO (sI (sI (sO (sO (sI (sN (sO (sI (sI S 6 a x1) 7 a x2) 3 a (some t)) q 7 0) 19 q 0) 20 q (some (G 0))) 4 a (some q)) 8 a 1) 9 a 0) 5 a (some t)) := by
  refine z_of (cc := cX3_init) (maxL := 4) (ret := none) (lo := [some (.ref a), some (.int x1), some (.int x2), some (.ref t)]) (by decide) rfl rfl (Nat.le_of_ble_eq_true rfl) rfl ?_
  intro pp ee ss mi aa bl mh cd h0 hts hown hr hlk hnm
  have hown : ss.vm.findClass RX3 = some mi.cls := hown
  have inX3 : ∀ w ∈ u_ws RX3 TX3 7, w ∈ wsX3_init := by decide +kernel
  have lp_9 : zLp ss mi aa mh RX3 9 4 0 .int := ⟨RX3, TX3, 7, "PurseWorld$Purse", wsX3_init, tyX3, rfl, by decide, hts, inX3, hown, hts (.fieldLink RX3 9 "PurseWorld$Purse" "number" "I") (by decide +kernel), fun _ h => h, tyX3_ok, nmX3, by decide +kernel, Or.inr ⟨rfl, hnm, rfl⟩⟩
  have lp_15 : zLp ss mi aa mh RX3 15 4 3 .int := ⟨RX3, TX3, 7, "PurseWorld$Purse", wsX3_init, tyX3, rfl, by decide, hts, inX3, hown, hts (.fieldLink RX3 15 "PurseWorld$Purse" "balance" "I") (by decide +kernel), fun _ h => h, tyX3_ok, nmX3, by decide +kernel, Or.inl rfl⟩
  have lp_18 : zLp ss mi aa mh RX3 18 4 1 (.object "PurseWorld$Transfer") := ⟨RX3, TX3, 7, "PurseWorld$Purse", wsX3_init, tyX3, rfl, by decide, hts, inX3, hown, hts (.fieldLink RX3 18 "PurseWorld$Purse" "nothing" "LPurseWorld$Transfer;") (by decide +kernel), fun _ h => h, tyX3_ok, nmX3, by decide +kernel, Or.inr ⟨rfl, hnm, rfl⟩⟩
  have lp_25 : zLp ss mi aa mh RX3 25 4 2 (.object "java/util/ArrayList") := ⟨RX3, TX3, 7, "PurseWorld$Purse", wsX3_init, tyX3, rfl, by decide, hts, inX3, hown, hts (.fieldLink RX3 25 "PurseWorld$Purse" "kept" "Ljava/util/ArrayList;") (by decide +kernel), fun _ h => h, tyX3_ok, nmX3, by decide +kernel, Or.inr ⟨rfl, hnm, rfl⟩⟩
  have lp_29 : zLp ss mi aa mh RX3 29 4 4 .int := ⟨RX3, TX3, 7, "PurseWorld$Purse", wsX3_init, tyX3, rfl, by decide, hts, inX3, hown, hts (.fieldLink RX3 29 "PurseWorld$Purse" "serial" "I") (by decide +kernel), fun _ h => h, tyX3_ok, nmX3, by decide +kernel, Or.inl rfl⟩
  have lp_32 : zLp ss mi aa mh RX3 32 4 5 .int := ⟨RX3, TX3, 7, "PurseWorld$Purse", wsX3_init, tyX3, rfl, by decide, hts, inX3, hown, hts (.fieldLink RX3 32 "PurseWorld$Purse" "state" "I") (by decide +kernel), fun _ h => h, tyX3_ok, nmX3, by decide +kernel, Or.inl rfl⟩
  have lp_35 : zLp ss mi aa mh RX3 35 4 6 (.object "PurseWorld$Transfer") := ⟨RX3, TX3, 7, "PurseWorld$Purse", wsX3_init, tyX3, rfl, by decide, hts, inX3, hown, hts (.fieldLink RX3 35 "PurseWorld$Purse" "current" "LPurseWorld$Transfer;") (by decide +kernel), fun _ h => h, tyX3_ok, nmX3, by decide +kernel, Or.inl rfl⟩
  refine z_aload_n h0 dX3_init_0 rfl ?_
  refine z_objInit h0 hown (hts (.methodLink RX3 3 objectInit) (by decide +kernel)) (hts (.instanceMethod objectInit) (by decide +kernel)) (hts (.code objectInit ⟨#[0xb1]⟩ 1 none) (by decide +kernel)) dX3_init_1 (Nat.le_of_ble_eq_true rfl) (Nat.le_of_ble_eq_true rfl) ?_
  refine z_aload_n h0 dX3_init_4 rfl ?_
  refine z_iload_n h0 dX3_init_5 rfl ?_
  refine z_putI h0 fI6 lp_9 dX3_init_6 (by assumption) rfl rfl ?_
  refine z_aload_n h0 dX3_init_9 rfl ?_
  refine z_iload_n h0 dX3_init_10 rfl ?_
  refine z_putI h0 fI7 lp_15 dX3_init_11 (by assumption) rfl rfl ?_
  refine z_aload_n h0 dX3_init_14 rfl ?_
  refine z_aload_n h0 dX3_init_15 rfl ?_
  refine z_putO h0 fO3 lp_18 dX3_init_16 (by assumption) rfl rfl ?_
  refine z_aload_n h0 dX3_init_19 rfl ?_
  refine z_new h0 nOk7 hts (by decide +kernel) tyJx4a65c tyJx4a65c_ok hown (hts (.classLink RX3 22 RJx4a65c) (by decide +kernel)) (hts (.instantiable RJx4a65c 3) (by decide +kernel)) (hts (.initialized RJx4a65c) (by decide +kernel)) rfl (fun j hj => by rcases (show j = 0 ∨ j = 1 ∨ j = 2 by omega) with rfl | rfl | rfl <;> rfl) (Nat.le_of_ble_eq_true rfl) (Nat.le_of_ble_eq_true rfl) dX3_init_20 (fun q20 hq20 => ?_)
  have hqk := isK_new (S := S) (q := q20) (k := 7) (n := 0)
  have hao := isK_old (k := 7) (n := 0) ha hq20
  refine z_dup h0 dX3_init_23 rfl ?_
  refine z_cIv (n := 0) (As := []) h0 hts hown (c_Jx4a65c_init_da8c8 hqk) gX3_init_Jx4a65c_init_da8c8 rfl (by decide +kernel) ⟨Nat.le_of_ble_eq_true rfl, Nat.le_of_ble_eq_true rfl⟩ (hts (.initialized RJx4a65c) (by decide +kernel)) (hts (.methodLink RX3 24 yJx4a65c_init_da8c8) (by decide +kernel)) (hts (.instanceMethod yJx4a65c_init_da8c8) (by decide +kernel)) rfl dX3_init_24 rfl rfl (Nat.le_of_ble_eq_true rfl) ⟨Nat.le_of_ble_eq_true rfl, Nat.le_of_ble_eq_true rfl⟩ (fun S24 hp24 => ?_)
  subst hp24
  refine z_putO h0 fO4 lp_25 dX3_init_27 hao rfl rfl ?_
  refine z_aload_n h0 dX3_init_30 rfl ?_
  refine z_iconst (v := 1) h0 dX3_init_31 (by decide) ?_
  refine z_putI h0 fI8 lp_29 dX3_init_32 hao rfl rfl ?_
  refine z_aload_n h0 dX3_init_35 rfl ?_
  refine z_iconst (v := 0) h0 dX3_init_36 (by decide) ?_
  refine z_putI h0 fI9 lp_32 dX3_init_37 hao rfl rfl ?_
  refine z_aload_n h0 dX3_init_40 rfl ?_
  refine z_aload_n h0 dX3_init_41 rfl ?_
  refine z_putO h0 fO5 lp_35 dX3_init_42 hao rfl rfl ?_
  exact z_vret h0 hr hlk dX3_init_45 (Nat.le_of_ble_eq_true rfl) (Nat.le_of_ble_eq_true rfl) ⟨q20, hq20, rfl⟩

abbrev rm_X3_logIsFull : Room := { frames := 1, cells := 0, slots := 0, locals := 20 }
set_option maxRecDepth 100000 in
set_option maxHeartbeats 4000000 in
theorem c_X3_logIsFull {l : Launch} {D : va_G} {cI cZ cO : ClassId} {G : Nat → Nat} {S : PS} {a b : Nat} {xs : List Nat} (ha : isK S 3 a) (hb : pO S 4 a = some b) (hA : AL G S b xs) : zMi l yX3_logIsFull wsX3_logIsFull rm_X3_logIsFull [.ref a] D cI cZ cO G S (fun r S' => S = S' ∧ r = if xs.length < 5 then 0 else 1) := by
  have hb7 := hA.1
  have hbn := hA.2.1
  have hbl := hA.2.2.1
  refine z_of (cc := cX3_logIsFull) (maxL := 1) (ret := (some .boolean)) (lo := [some (.ref a)]) (by decide) rfl rfl (Nat.le_of_ble_eq_true rfl) rfl ?_
  intro pp ee ss mi aa bl mh cd h0 hts hown hr hlk hnm
  have hown : ss.vm.findClass RX3 = some mi.cls := hown
  have inX3 : ∀ w ∈ u_ws RX3 TX3 7, w ∈ wsX3_logIsFull := by decide +kernel
  have lk_25 : zLk ss mi aa RX3 25 4 2 := ⟨RX3, TX3, 7, "PurseWorld$Purse", wsX3_logIsFull, rfl, by decide, hts, inX3, hown, hts (.fieldLink RX3 25 "PurseWorld$Purse" "kept" "Ljava/util/ArrayList;") (by decide +kernel), fun _ h => h⟩
  refine z_aload_n h0 dX3_logIsFull_0 rfl ?_
  refine z_getO h0 fO4 lk_25 dX3_logIsFull_1 (by assumption) (by assumption) ?_
  refine z_cVi (n := 0) (As := []) h0 hts hown (c_Jx4a65c_size_8abf5 hb7) gX3_logIsFull_Jx4a65c_size_8abf5 rfl (by decide +kernel) ⟨Nat.le_of_ble_eq_true rfl, Nat.le_of_ble_eq_true rfl⟩ kOk7 rfl (by assumption) dX3_logIsFull_4 rfl rfl (Nat.le_of_ble_eq_true rfl) ⟨Nat.le_of_ble_eq_true rfl, Nat.le_of_ble_eq_true rfl⟩ (fun r4 S4 hp4 => ?_)
  obtain ⟨rfl, hr4⟩ := hp4
  rw [hbn] at hr4
  subst hr4
  refine z_iconst (v := 5) h0 dX3_logIsFull_7 (by decide) ?_
  refine z_icmp_lt (tgt := 15) h0 dX3_logIsFull_8 (by decide) (fun h8 => ?_) (fun h8 => ?_)
  · refine z_iconst (v := 0) h0 dX3_logIsFull_15 (by decide) ?_
    exact z_zret h0 hr rfl hlk dX3_logIsFull_16 (Nat.le_of_ble_eq_true rfl) (Nat.le_of_ble_eq_true rfl) ⟨rfl, by rw [if_pos ((nI_ltI (a := xs.length) (b := 5) (by omega) (by omega)).mp h8)]⟩
  · refine z_iconst (v := 1) h0 dX3_logIsFull_11 (by decide) ?_
    refine z_goto (tgt := 16) h0 dX3_logIsFull_12 (by decide) ?_
    exact z_zret h0 hr rfl hlk dX3_logIsFull_16 (Nat.le_of_ble_eq_true rfl) (Nat.le_of_ble_eq_true rfl) ⟨rfl, by rw [if_neg (fun z => h8 ((nI_ltI (a := xs.length) (b := 5) (by omega) (by omega)).mpr z))]⟩

abbrev rm_X3_does : Room := { frames := 1, cells := 0, slots := 0, locals := 21 }
set_option maxRecDepth 100000 in
set_option maxHeartbeats 4000000 in
theorem c_X3_does {l : Launch} {D : va_G} {cI cZ cO : ClassId} {G : Nat → Nat} {S : PS} {a t cu : Nat} {x : Int32} (ha : isK S 3 a) (hcu : pO S 5 a = some cu) (hcu4 : isK S 4 cu) (ht : isK S 4 t) : zMi l yX3_does wsX3_does rm_X3_does [.ref a, .int x, .ref t] D cI cZ cO G S (fun r S' => S = S' ∧ r = if pI S 9 a = x ∧ tr S cu = tr S t then 1 else 0) := by
  refine z_of (cc := cX3_does) (maxL := 3) (ret := (some .boolean)) (lo := [some (.ref a), some (.int x), some (.ref t)]) (by decide) rfl rfl (Nat.le_of_ble_eq_true rfl) rfl ?_
  intro pp ee ss mi aa bl mh cd h0 hts hown hr hlk hnm
  have hown : ss.vm.findClass RX3 = some mi.cls := hown
  have inX3 : ∀ w ∈ u_ws RX3 TX3 7, w ∈ wsX3_does := by decide +kernel
  have lk_32 : zLk ss mi aa RX3 32 4 5 := ⟨RX3, TX3, 7, "PurseWorld$Purse", wsX3_does, rfl, by decide, hts, inX3, hown, hts (.fieldLink RX3 32 "PurseWorld$Purse" "state" "I") (by decide +kernel), fun _ h => h⟩
  have lk_35 : zLk ss mi aa RX3 35 4 6 := ⟨RX3, TX3, 7, "PurseWorld$Purse", wsX3_does, rfl, by decide, hts, inX3, hown, hts (.fieldLink RX3 35 "PurseWorld$Purse" "current" "LPurseWorld$Transfer;") (by decide +kernel), fun _ h => h⟩
  refine z_aload_n h0 dX3_does_0 rfl ?_
  refine z_getI h0 fI9 lk_32 dX3_does_1 (by assumption) ?_
  refine z_iload_n h0 dX3_does_4 rfl ?_
  refine z_icmp_ne (tgt := 23) h0 dX3_does_5 (by decide) (fun h5 => ?_) (fun h5 => ?_)
  · refine z_iconst (v := 0) h0 dX3_does_23 (by decide) ?_
    exact z_zret h0 hr rfl hlk dX3_does_24 (Nat.le_of_ble_eq_true rfl) (Nat.le_of_ble_eq_true rfl) ⟨rfl, by simp_all⟩
  · refine z_aload_n h0 dX3_does_8 rfl ?_
    refine z_getO h0 fO5 lk_35 dX3_does_9 (by assumption) (by assumption) ?_
    refine z_aload_n h0 dX3_does_12 rfl ?_
    refine z_cVi (n := 1) (As := [_]) h0 hts hown (c_X4_same hcu4 ht) gX3_does_X4_same rfl (by decide +kernel) ⟨Nat.le_of_ble_eq_true rfl, Nat.le_of_ble_eq_true rfl⟩ kOk4 rfl (by assumption) dX3_does_13 rfl rfl (Nat.le_of_ble_eq_true rfl) ⟨Nat.le_of_ble_eq_true rfl, Nat.le_of_ble_eq_true rfl⟩ (fun r13 S13 hp13 => ?_)
    obtain ⟨rfl, hr13⟩ := hp13
    refine z_if_eq (tgt := 23) h0 dX3_does_16 (by decide) (fun h16 => ?_) (fun h16 => ?_)
    · refine z_iconst (v := 0) h0 dX3_does_23 (by decide) ?_
      exact z_zret h0 hr rfl hlk dX3_does_24 (Nat.le_of_ble_eq_true rfl) (Nat.le_of_ble_eq_true rfl) ⟨rfl, by simp_all⟩
    · refine z_iconst (v := 1) h0 dX3_does_19 (by decide) ?_
      refine z_goto (tgt := 24) h0 dX3_does_20 (by decide) ?_
      exact z_zret h0 hr rfl hlk dX3_does_24 (Nat.le_of_ble_eq_true rfl) (Nat.le_of_ble_eq_true rfl) ⟨rfl, by simp_all⟩

abbrev rm_X3_hasKept : Room := { frames := 3, cells := 0, slots := 0, locals := 64 }
set_option maxRecDepth 100000 in
set_option maxHeartbeats 4000000 in
theorem c_X3_hasKept {l : Launch} {D : va_G} {cI cZ cO : ClassId} {G : Nat → Nat} {S : PS} {a b t : Nat} {xs : List Nat} (ha : isK S 3 a) (hb : pO S 4 a = some b) (hA : AL G S b xs) (hx : ∀ x ∈ xs, isK S 4 x) (ht : isK S 4 t) : zMi l yX3_hasKept wsX3_hasKept rm_X3_hasKept [.ref a, .ref t] D cI cZ cO G S (fun r S' => S = S' ∧ r = if xs.any (fun x => decide (tr S x = tr S t)) then 1 else 0) := by
  have hb7 := hA.1
  have hbn := hA.2.1
  have hbl := hA.2.2.1
  refine z_of (cc := cX3_hasKept) (maxL := 3) (ret := (some .boolean)) (lo := [some (.ref a), some (.ref t), none]) (by decide) rfl rfl (Nat.le_of_ble_eq_true rfl) rfl ?_
  intro pp ee ss mi aa bl mh cd h0 hts hown hr hlk hnm
  have hown : ss.vm.findClass RX3 = some mi.cls := hown
  have inX3 : ∀ w ∈ u_ws RX3 TX3 7, w ∈ wsX3_hasKept := by decide +kernel
  have lk_25 : zLk ss mi aa RX3 25 4 2 := ⟨RX3, TX3, 7, "PurseWorld$Purse", wsX3_hasKept, rfl, by decide, hts, inX3, hown, hts (.fieldLink RX3 25 "PurseWorld$Purse" "kept" "Ljava/util/ArrayList;") (by decide +kernel), fun _ h => h⟩
  have loop : ∀ (n : Nat) (i : Nat), xs.length - i < n → i ≤ xs.length → (∀ (j y : Nat), j < i → xs[j]? = some y → ¬ tr S y = tr S t) → ZW pp l ee rm_X3_hasKept ss mi aa bl mh cd D cI cZ cO (zA cI cZ cO S ss.heap.size) (MQ bl (zQi D cI cZ cO S (fun r S' => S = S' ∧ r = if xs.any (fun x => decide (tr S x = tr S t)) then 1 else 0) ss.heap.size) aa ss rm_X3_hasKept.cells rm_X3_hasKept.slots (zA cI cZ cO S ss.heap.size)) [] 3 S 0 0 2 [some (.ref a), some (.ref t), some (.int (nI i))] [] := by
    intro n
    induction n with
    | zero => intro i h; exact absurd h (Nat.not_lt_zero _)
    | succ n ih =>
      intro i hm hi hv
      refine z_iload_n h0 dX3_hasKept_2 rfl ?_
      refine z_aload_n h0 dX3_hasKept_3 rfl ?_
      refine z_getO h0 fO4 lk_25 dX3_hasKept_4 (by assumption) (by assumption) ?_
      refine z_cVi (n := 0) (As := []) h0 hts hown (c_Jx4a65c_size_8abf5 hb7) gX3_hasKept_Jx4a65c_size_8abf5 rfl (by decide +kernel) ⟨Nat.le_of_ble_eq_true rfl, Nat.le_of_ble_eq_true rfl⟩ kOk7 rfl (by assumption) dX3_hasKept_7 rfl rfl (Nat.le_of_ble_eq_true rfl) ⟨Nat.le_of_ble_eq_true rfl, Nat.le_of_ble_eq_true rfl⟩ (fun r7 S7 hp7 => ?_)
      obtain ⟨rfl, hr7⟩ := hp7
      rw [hbn] at hr7
      subst hr7
      refine z_icmp_ge (tgt := 39) h0 dX3_hasKept_10 (by decide) (fun h10 => ?_) (fun h10 => ?_)
      · refine z_iconst (v := 0) h0 dX3_hasKept_39 (by decide) ?_
        exact z_zret h0 hr rfl hlk dX3_hasKept_40 (Nat.le_of_ble_eq_true rfl) (Nat.le_of_ble_eq_true rfl) ⟨rfl, by rw [any_f (fun j y hj hy => hv j y (Nat.lt_of_lt_of_le hj (nI_geof h10 (by omega) (by omega))) hy)]; rfl⟩
      · have hlt : i < xs.length := nI_ltof h10 (by omega)
        obtain ⟨x1, hx1⟩ := get_lt hlt
        have hx4 := hx x1 (List.mem_of_getElem? hx1)
        refine z_aload_n h0 dX3_hasKept_13 rfl ?_
        refine z_getO h0 fO4 lk_25 dX3_hasKept_14 (by assumption) (by assumption) ?_
        refine z_iload_n h0 dX3_hasKept_17 rfl ?_
        refine z_cVr (n := 1) (As := [_]) h0 hts hown (c_Jx4a65c_get_915e3 (j := i) hA (nI_toInt (by omega)) hx1) gX3_hasKept_Jx4a65c_get_915e3 rfl (by decide +kernel) ⟨Nat.le_of_ble_eq_true rfl, Nat.le_of_ble_eq_true rfl⟩ kOk7 rfl (by assumption) dX3_hasKept_18 rfl rfl (Nat.le_of_ble_eq_true rfl) ⟨Nat.le_of_ble_eq_true rfl, Nat.le_of_ble_eq_true rfl⟩ (fun r18 S18 hp18 => ?_)
        obtain ⟨rfl, rfl⟩ := hp18
        refine z_cast h0 hown (hts (.classLink RX3 43 "PurseWorld$Transfer") (by decide +kernel)) kOk4 rfl (by assumption) dX3_hasKept_21 ?_
        refine z_aload_n h0 dX3_hasKept_24 rfl ?_
        refine z_cVi (n := 1) (As := [_]) h0 hts hown (c_X4_same hx4 ht) gX3_hasKept_X4_same rfl (by decide +kernel) ⟨Nat.le_of_ble_eq_true rfl, Nat.le_of_ble_eq_true rfl⟩ kOk4 rfl (by assumption) dX3_hasKept_25 rfl rfl (Nat.le_of_ble_eq_true rfl) ⟨Nat.le_of_ble_eq_true rfl, Nat.le_of_ble_eq_true rfl⟩ (fun r25 S25 hp25 => ?_)
        obtain ⟨rfl, hr25⟩ := hp25
        refine z_if_eq (tgt := 33) h0 dX3_hasKept_28 (by decide) (fun h28 => ?_) (fun h28 => ?_)
        · refine z_iinc (lo' := [_, _, _]) (v := nI (i + 1)) h0 dX3_hasKept_33 rfl (nI_1 i) (by decide) rfl rfl ?_
          refine z_goto (tgt := 2) h0 dX3_hasKept_36 (by decide) ?_
          exact ih (i + 1) (by omega) (by omega) (lt_succ_cases hv hx1 (fun z => by rw [if_pos z] at hr25; rw [hr25] at h28; exact absurd h28 (by decide)))
        · refine z_iconst (v := 1) h0 dX3_hasKept_31 (by decide) ?_
          exact z_zret h0 hr rfl hlk dX3_hasKept_32 (Nat.le_of_ble_eq_true rfl) (Nat.le_of_ble_eq_true rfl) ⟨rfl, by rw [any_t hx1 (by by_cases z : tr S r18 = tr S t <;> simp_all)]; rfl⟩
  refine z_iconst (v := 0) h0 dX3_hasKept_0 (by decide) ?_
  refine z_istore_n (lo' := [_, _, _]) h0 dX3_hasKept_1 (by decide) rfl rfl ?_
  exact loop (xs.length + 1) 0 (by omega) (Nat.zero_le _) (fun j y h => absurd h (Nat.not_lt_zero _))

abbrev rm_X3_start : Room := { frames := 0, cells := 0, slots := 0, locals := 0 }
set_option maxRecDepth 100000 in
set_option maxHeartbeats 4000000 in
theorem c_X3_start {l : Launch} {D : va_G} {cI cZ cO : ClassId} {G : Nat → Nat} {S : PS} {a t : Nat} {x : Int32} (ha : isK S 3 a) : zMv l yX3_start wsX3_start rm_X3_start [.ref a, .int x, .ref t] D cI cZ cO G S (fun S' => S' = sI (sO (sI S 9 a x) 5 a (some t)) 8 a (pI S 8 a + 1)) := by
  refine z_of (cc := cX3_start) (maxL := 3) (ret := none) (lo := [some (.ref a), some (.int x), some (.ref t)]) (by decide) rfl rfl (Nat.le_of_ble_eq_true rfl) rfl ?_
  intro pp ee ss mi aa bl mh cd h0 hts hown hr hlk hnm
  have hown : ss.vm.findClass RX3 = some mi.cls := hown
  have inX3 : ∀ w ∈ u_ws RX3 TX3 7, w ∈ wsX3_start := by decide +kernel
  have lk_29 : zLk ss mi aa RX3 29 4 4 := ⟨RX3, TX3, 7, "PurseWorld$Purse", wsX3_start, rfl, by decide, hts, inX3, hown, hts (.fieldLink RX3 29 "PurseWorld$Purse" "serial" "I") (by decide +kernel), fun _ h => h⟩
  have lp_29 : zLp ss mi aa mh RX3 29 4 4 .int := ⟨RX3, TX3, 7, "PurseWorld$Purse", wsX3_start, tyX3, rfl, by decide, hts, inX3, hown, hts (.fieldLink RX3 29 "PurseWorld$Purse" "serial" "I") (by decide +kernel), fun _ h => h, tyX3_ok, nmX3, by decide +kernel, Or.inl rfl⟩
  have lp_32 : zLp ss mi aa mh RX3 32 4 5 .int := ⟨RX3, TX3, 7, "PurseWorld$Purse", wsX3_start, tyX3, rfl, by decide, hts, inX3, hown, hts (.fieldLink RX3 32 "PurseWorld$Purse" "state" "I") (by decide +kernel), fun _ h => h, tyX3_ok, nmX3, by decide +kernel, Or.inl rfl⟩
  have lp_35 : zLp ss mi aa mh RX3 35 4 6 (.object "PurseWorld$Transfer") := ⟨RX3, TX3, 7, "PurseWorld$Purse", wsX3_start, tyX3, rfl, by decide, hts, inX3, hown, hts (.fieldLink RX3 35 "PurseWorld$Purse" "current" "LPurseWorld$Transfer;") (by decide +kernel), fun _ h => h, tyX3_ok, nmX3, by decide +kernel, Or.inl rfl⟩
  refine z_aload_n h0 dX3_start_0 rfl ?_
  refine z_iload_n h0 dX3_start_1 rfl ?_
  refine z_putI h0 fI9 lp_32 dX3_start_2 (by assumption) rfl rfl ?_
  refine z_aload_n h0 dX3_start_5 rfl ?_
  refine z_aload_n h0 dX3_start_6 rfl ?_
  refine z_putO h0 fO5 lp_35 dX3_start_7 (by assumption) rfl rfl ?_
  refine z_aload_n h0 dX3_start_10 rfl ?_
  refine z_dup h0 dX3_start_11 rfl ?_
  refine z_getI h0 fI8 lk_29 dX3_start_12 (by assumption) ?_
  refine z_top (y := pI S 8 a) (pI_f (S := S) (f := 9) (g := 8) (a := a) (v := x) (by decide)) ?_
  refine z_iconst (v := 1) h0 dX3_start_15 (by decide) ?_
  refine z_iadd h0 dX3_start_16 ?_
  refine z_putI h0 fI8 lp_29 dX3_start_17 (by assumption) rfl rfl ?_
  exact z_vret h0 hr hlk dX3_start_20 (Nat.le_of_ble_eq_true rfl) (Nat.le_of_ble_eq_true rfl) rfl

abbrev rm_X3_rest : Room := { frames := 0, cells := 0, slots := 0, locals := 0 }
set_option maxRecDepth 100000 in
set_option maxHeartbeats 4000000 in
theorem c_X3_rest {l : Launch} {D : va_G} {cI cZ cO : ClassId} {G : Nat → Nat} {S : PS} {a n0 : Nat} (ha : isK S 3 a) (hn : pO S 3 a = some n0) : zMv l yX3_rest wsX3_rest rm_X3_rest [.ref a] D cI cZ cO G S (fun S' => S' = sO (sI S 9 a 0) 5 a (some n0)) := by
  refine z_of (cc := cX3_rest) (maxL := 1) (ret := none) (lo := [some (.ref a)]) (by decide) rfl rfl (Nat.le_of_ble_eq_true rfl) rfl ?_
  intro pp ee ss mi aa bl mh cd h0 hts hown hr hlk hnm
  have hown : ss.vm.findClass RX3 = some mi.cls := hown
  have inX3 : ∀ w ∈ u_ws RX3 TX3 7, w ∈ wsX3_rest := by decide +kernel
  have lk_18 : zLk ss mi aa RX3 18 4 1 := ⟨RX3, TX3, 7, "PurseWorld$Purse", wsX3_rest, rfl, by decide, hts, inX3, hown, hts (.fieldLink RX3 18 "PurseWorld$Purse" "nothing" "LPurseWorld$Transfer;") (by decide +kernel), fun _ h => h⟩
  have lp_32 : zLp ss mi aa mh RX3 32 4 5 .int := ⟨RX3, TX3, 7, "PurseWorld$Purse", wsX3_rest, tyX3, rfl, by decide, hts, inX3, hown, hts (.fieldLink RX3 32 "PurseWorld$Purse" "state" "I") (by decide +kernel), fun _ h => h, tyX3_ok, nmX3, by decide +kernel, Or.inl rfl⟩
  have lp_35 : zLp ss mi aa mh RX3 35 4 6 (.object "PurseWorld$Transfer") := ⟨RX3, TX3, 7, "PurseWorld$Purse", wsX3_rest, tyX3, rfl, by decide, hts, inX3, hown, hts (.fieldLink RX3 35 "PurseWorld$Purse" "current" "LPurseWorld$Transfer;") (by decide +kernel), fun _ h => h, tyX3_ok, nmX3, by decide +kernel, Or.inl rfl⟩
  refine z_aload_n h0 dX3_rest_0 rfl ?_
  refine z_iconst (v := 0) h0 dX3_rest_1 (by decide) ?_
  refine z_putI h0 fI9 lp_32 dX3_rest_2 (by assumption) rfl rfl ?_
  refine z_aload_n h0 dX3_rest_5 rfl ?_
  refine z_aload_n h0 dX3_rest_6 rfl ?_
  refine z_getO h0 fO3 lk_18 dX3_rest_7 (by assumption) (by assumption) ?_
  refine z_putO h0 fO5 lp_35 dX3_rest_10 (by assumption) rfl rfl ?_
  exact z_vret h0 hr hlk dX3_rest_13 (Nat.le_of_ble_eq_true rfl) (Nat.le_of_ble_eq_true rfl) rfl

/-- a purse that rests again, its serial one more -/
abbrev fin (S : PS) (a n0 : Nat) : PS := sO (sI (sI S 8 a (pI S 8 a + 1)) 9 a 0) 5 a (some n0)
/-- what end() does -/
def EndR (G : Nat → Nat) (S S' : PS) (a n0 b cu : Nat) (xs : List Nat) : Prop := (pI S 9 a = 0 ∧ S = S') ∨ (pI S 9 a = 1 ∧ S' = fin S a n0) ∨ ((pI S 9 a = 2 ∨ pI S 9 a = 3) ∧ ∃ S1, Added G S S1 b xs cu ∧ S' = fin S1 a n0)

abbrev rm_X3_end : Room := { frames := 7, cells := 1, slots := 1500, locals := 191 }
set_option maxRecDepth 100000 in
set_option maxHeartbeats 4000000 in
theorem c_X3_end {l : Launch} {D : va_G} {cI cZ cO : ClassId} {G : Nat → Nat} {S : PS} {a n0 b cu : Nat} {xs : List Nat} (ha : isK S 3 a) (hn : pO S 3 a = some n0) (hb : pO S 4 a = some b) (hcu : pO S 5 a = some cu) (hA : AL G S b xs) (hle : xs.length < 1000) (hcu4 : isK S 4 cu) (hst : pI S 9 a = 0 ∨ pI S 9 a = 1 ∨ pI S 9 a = 2 ∨ pI S 9 a = 3) : zMv l yX3_end wsX3_end rm_X3_end [.ref a] D cI cZ cO G S (fun S' => EndR G S S' a n0 b cu xs) := by
  have hb7 := hA.1
  have hne : a ≠ b := isK_neK ha hb7 (by decide)
  refine z_of (cc := cX3_end) (maxL := 1) (ret := none) (lo := [some (.ref a)]) (by decide) rfl rfl (Nat.le_of_ble_eq_true rfl) rfl ?_
  intro pp ee ss mi aa bl mh cd h0 hts hown hr hlk hnm
  have hown : ss.vm.findClass RX3 = some mi.cls := hown
  have inX3 : ∀ w ∈ u_ws RX3 TX3 7, w ∈ wsX3_end := by decide +kernel
  have lk_25 : zLk ss mi aa RX3 25 4 2 := ⟨RX3, TX3, 7, "PurseWorld$Purse", wsX3_end, rfl, by decide, hts, inX3, hown, hts (.fieldLink RX3 25 "PurseWorld$Purse" "kept" "Ljava/util/ArrayList;") (by decide +kernel), fun _ h => h⟩
  have lk_29 : zLk ss mi aa RX3 29 4 4 := ⟨RX3, TX3, 7, "PurseWorld$Purse", wsX3_end, rfl, by decide, hts, inX3, hown, hts (.fieldLink RX3 29 "PurseWorld$Purse" "serial" "I") (by decide +kernel), fun _ h => h⟩
  have lk_32 : zLk ss mi aa RX3 32 4 5 := ⟨RX3, TX3, 7, "PurseWorld$Purse", wsX3_end, rfl, by decide, hts, inX3, hown, hts (.fieldLink RX3 32 "PurseWorld$Purse" "state" "I") (by decide +kernel), fun _ h => h⟩
  have lk_35 : zLk ss mi aa RX3 35 4 6 := ⟨RX3, TX3, 7, "PurseWorld$Purse", wsX3_end, rfl, by decide, hts, inX3, hown, hts (.fieldLink RX3 35 "PurseWorld$Purse" "current" "LPurseWorld$Transfer;") (by decide +kernel), fun _ h => h⟩
  have lp_29 : zLp ss mi aa mh RX3 29 4 4 .int := ⟨RX3, TX3, 7, "PurseWorld$Purse", wsX3_end, tyX3, rfl, by decide, hts, inX3, hown, hts (.fieldLink RX3 29 "PurseWorld$Purse" "serial" "I") (by decide +kernel), fun _ h => h, tyX3_ok, nmX3, by decide +kernel, Or.inl rfl⟩
  refine z_aload_n h0 dX3_end_0 rfl ?_
  refine z_getI h0 fI9 lk_32 dX3_end_1 (by assumption) ?_
  refine z_if_ne (tgt := 8) h0 dX3_end_4 (by decide) (fun h4 => ?_) (fun h4 => ?_)
  · refine z_aload_n h0 dX3_end_8 rfl ?_
    refine z_getI h0 fI9 lk_32 dX3_end_9 (by assumption) ?_
    refine z_iconst (v := 2) h0 dX3_end_12 (by decide) ?_
    refine z_icmp_eq (tgt := 24) h0 dX3_end_13 (by decide) (fun h13 => ?_) (fun h13 => ?_)
    · refine z_aload_n h0 dX3_end_24 rfl ?_
      refine z_getO h0 fO4 lk_25 dX3_end_25 (by assumption) (by assumption) ?_
      refine z_aload_n h0 dX3_end_28 rfl ?_
      refine z_getO h0 fO5 lk_35 dX3_end_29 (by assumption) (by assumption) ?_
      refine z_cVi (n := 1) (As := [_]) h0 hts hown (c_Jx4a65c_add_9ea2d hA hle ⟨4, by simp, hcu4⟩) gX3_end_Jx4a65c_add_9ea2d rfl (by decide +kernel) ⟨Nat.le_of_ble_eq_true rfl, Nat.le_of_ble_eq_true rfl⟩ kOk7 rfl (by assumption) dX3_end_32 rfl rfl (Nat.le_of_ble_eq_true rfl) ⟨Nat.le_of_ble_eq_true rfl, Nat.le_of_ble_eq_true rfl⟩ (fun r32 S32 hp32 => ?_)
      obtain ⟨hp32, -⟩ := hp32
      have ha1 := Fr_K hp32.2 ha
      have hn1 : pO S32 3 a = some n0 := (Fr_O hp32.2 ha hne).trans hn
      refine z_pop h0 dX3_end_35 rfl ?_
      refine z_aload_n h0 dX3_end_36 rfl ?_
      refine z_dup h0 dX3_end_37 rfl ?_
      refine z_getI h0 fI8 lk_29 dX3_end_38 (by assumption) ?_
      refine z_iconst (v := 1) h0 dX3_end_41 (by decide) ?_
      refine z_iadd h0 dX3_end_42 ?_
      refine z_putI h0 fI8 lp_29 dX3_end_43 (by assumption) rfl rfl ?_
      refine z_aload_n h0 dX3_end_46 rfl ?_
      refine z_cVv (n := 0) (As := []) h0 hts hown (c_X3_rest (n0 := n0) (by assumption) (by assumption)) gX3_end_X3_rest rfl (by decide +kernel) ⟨Nat.le_of_ble_eq_true rfl, Nat.le_of_ble_eq_true rfl⟩ kOk3 rfl (by assumption) dX3_end_47 rfl rfl (Nat.le_of_ble_eq_true rfl) ⟨Nat.le_of_ble_eq_true rfl, Nat.le_of_ble_eq_true rfl⟩ (fun S47 hp47 => ?_)
      subst hp47
      exact z_vret h0 hr hlk dX3_end_50 (Nat.le_of_ble_eq_true rfl) (Nat.le_of_ble_eq_true rfl) (Or.inr (Or.inr ⟨Or.inl h13, S32, hp32, rfl⟩))
    · refine z_aload_n h0 dX3_end_16 rfl ?_
      refine z_getI h0 fI9 lk_32 dX3_end_17 (by assumption) ?_
      refine z_iconst (v := 3) h0 dX3_end_20 (by decide) ?_
      refine z_icmp_ne (tgt := 36) h0 dX3_end_21 (by decide) (fun h21 => ?_) (fun h21 => ?_)
      · refine z_aload_n h0 dX3_end_36 rfl ?_
        refine z_dup h0 dX3_end_37 rfl ?_
        refine z_getI h0 fI8 lk_29 dX3_end_38 (by assumption) ?_
        refine z_iconst (v := 1) h0 dX3_end_41 (by decide) ?_
        refine z_iadd h0 dX3_end_42 ?_
        refine z_putI h0 fI8 lp_29 dX3_end_43 (by assumption) rfl rfl ?_
        refine z_aload_n h0 dX3_end_46 rfl ?_
        refine z_cVv (n := 0) (As := []) h0 hts hown (c_X3_rest (n0 := n0) (by assumption) (by assumption)) gX3_end_X3_rest rfl (by decide +kernel) ⟨Nat.le_of_ble_eq_true rfl, Nat.le_of_ble_eq_true rfl⟩ kOk3 rfl (by assumption) dX3_end_47 rfl rfl (Nat.le_of_ble_eq_true rfl) ⟨Nat.le_of_ble_eq_true rfl, Nat.le_of_ble_eq_true rfl⟩ (fun S47 hp47 => ?_)
        subst hp47
        exact z_vret h0 hr hlk dX3_end_50 (Nat.le_of_ble_eq_true rfl) (Nat.le_of_ble_eq_true rfl) (Or.inr (Or.inl ⟨by simp_all, rfl⟩))
      · refine z_aload_n h0 dX3_end_24 rfl ?_
        refine z_getO h0 fO4 lk_25 dX3_end_25 (by assumption) (by assumption) ?_
        refine z_aload_n h0 dX3_end_28 rfl ?_
        refine z_getO h0 fO5 lk_35 dX3_end_29 (by assumption) (by assumption) ?_
        refine z_cVi (n := 1) (As := [_]) h0 hts hown (c_Jx4a65c_add_9ea2d hA hle ⟨4, by simp, hcu4⟩) gX3_end_Jx4a65c_add_9ea2d rfl (by decide +kernel) ⟨Nat.le_of_ble_eq_true rfl, Nat.le_of_ble_eq_true rfl⟩ kOk7 rfl (by assumption) dX3_end_32 rfl rfl (Nat.le_of_ble_eq_true rfl) ⟨Nat.le_of_ble_eq_true rfl, Nat.le_of_ble_eq_true rfl⟩ (fun r32 S32 hp32 => ?_)
        obtain ⟨hp32, -⟩ := hp32
        have ha1 := Fr_K hp32.2 ha
        have hn1 : pO S32 3 a = some n0 := (Fr_O hp32.2 ha hne).trans hn
        refine z_pop h0 dX3_end_35 rfl ?_
        refine z_aload_n h0 dX3_end_36 rfl ?_
        refine z_dup h0 dX3_end_37 rfl ?_
        refine z_getI h0 fI8 lk_29 dX3_end_38 (by assumption) ?_
        refine z_iconst (v := 1) h0 dX3_end_41 (by decide) ?_
        refine z_iadd h0 dX3_end_42 ?_
        refine z_putI h0 fI8 lp_29 dX3_end_43 (by assumption) rfl rfl ?_
        refine z_aload_n h0 dX3_end_46 rfl ?_
        refine z_cVv (n := 0) (As := []) h0 hts hown (c_X3_rest (n0 := n0) (by assumption) (by assumption)) gX3_end_X3_rest rfl (by decide +kernel) ⟨Nat.le_of_ble_eq_true rfl, Nat.le_of_ble_eq_true rfl⟩ kOk3 rfl (by assumption) dX3_end_47 rfl rfl (Nat.le_of_ble_eq_true rfl) ⟨Nat.le_of_ble_eq_true rfl, Nat.le_of_ble_eq_true rfl⟩ (fun S47 hp47 => ?_)
        subst hp47
        exact z_vret h0 hr hlk dX3_end_50 (Nat.le_of_ble_eq_true rfl) (Nat.le_of_ble_eq_true rfl) (Or.inr (Or.inr ⟨Or.inr h21, S32, hp32, rfl⟩))
  · exact z_vret h0 hr hlk dX3_end_7 (Nat.le_of_ble_eq_true rfl) (Nat.le_of_ble_eq_true rfl) (Or.inl ⟨h4, rfl⟩)

theorem take_get {xs : List Nat} {k i x : Nat} (h : (xs.take k)[i]? = some x) : i < k ∧ xs[i]? = some x := by
  rw [List.getElem?_take] at h
  split at h
  · next g => exact ⟨g, h⟩
  · cases h
theorem take_of {xs : List Nat} {k i x : Nat} (hk : i < k) (h : xs[i]? = some x) : (xs.take k)[i]? = some x := by rw [List.getElem?_take, if_pos hk]; exact h

abbrev rm_X0_init : Room := { frames := 4, cells := 1, slots := 3, locals := 80 }
set_option maxRecDepth 100000 in
set_option maxHeartbeats 4000000 in
theorem c_X0_init {l : Launch} {D : va_G} {cI cZ cO : ClassId} {G : Nat → Nat} {S : PS} {a : Nat} (ha : isK S 0 a) : zMv l yX0_init wsX0_init rm_X0_init [.ref a] D cI cZ cO G S (fun S' => ∃ q, q ∉ pL S ∧ S' = sO (sO (sI (sN S q 7 0) 19 q 0) 20 q (some (G 0))) 0 a (some q)) := by
  refine z_of (cc := cX0_init) (maxL := 1) (ret := none) (lo := [some (.ref a)]) (by decide) rfl rfl (Nat.le_of_ble_eq_true rfl) rfl ?_
  intro pp ee ss mi aa bl mh cd h0 hts hown hr hlk hnm
  have hown : ss.vm.findClass RX0 = some mi.cls := hown
  have inX0 : ∀ w ∈ u_ws RX0 TX0 1, w ∈ wsX0_init := by decide +kernel
  have lp_10 : zLp ss mi aa mh RX0 10 1 0 (.object "java/util/ArrayList") := ⟨RX0, TX0, 1, "PurseWorld$Archive", wsX0_init, tyX0, rfl, by decide, hts, inX0, hown, hts (.fieldLink RX0 10 "PurseWorld$Archive" "rows" "Ljava/util/ArrayList;") (by decide +kernel), fun _ h => h, tyX0_ok, nmX0, by decide +kernel, Or.inr ⟨rfl, hnm, rfl⟩⟩
  refine z_aload_n h0 dX0_init_0 rfl ?_
  refine z_objInit h0 hown (hts (.methodLink RX0 1 objectInit) (by decide +kernel)) (hts (.instanceMethod objectInit) (by decide +kernel)) (hts (.code objectInit ⟨#[0xb1]⟩ 1 none) (by decide +kernel)) dX0_init_1 (Nat.le_of_ble_eq_true rfl) (Nat.le_of_ble_eq_true rfl) ?_
  refine z_aload_n h0 dX0_init_4 rfl ?_
  refine z_new h0 nOk7 hts (by decide +kernel) tyJx4a65c tyJx4a65c_ok hown (hts (.classLink RX0 7 RJx4a65c) (by decide +kernel)) (hts (.instantiable RJx4a65c 3) (by decide +kernel)) (hts (.initialized RJx4a65c) (by decide +kernel)) rfl (fun j hj => by rcases (show j = 0 ∨ j = 1 ∨ j = 2 by omega) with rfl | rfl | rfl <;> rfl) (Nat.le_of_ble_eq_true rfl) (Nat.le_of_ble_eq_true rfl) dX0_init_5 (fun q5 hq5 => ?_)
  have hqk := isK_new (S := S) (q := q5) (k := 7) (n := 0)
  have hao := isK_old (k := 7) (n := 0) ha hq5
  refine z_dup h0 dX0_init_8 rfl ?_
  refine z_cIv (n := 0) (As := []) h0 hts hown (c_Jx4a65c_init_da8c8 hqk) gX0_init_Jx4a65c_init_da8c8 rfl (by decide +kernel) ⟨Nat.le_of_ble_eq_true rfl, Nat.le_of_ble_eq_true rfl⟩ (hts (.initialized RJx4a65c) (by decide +kernel)) (hts (.methodLink RX0 9 yJx4a65c_init_da8c8) (by decide +kernel)) (hts (.instanceMethod yJx4a65c_init_da8c8) (by decide +kernel)) rfl dX0_init_9 rfl rfl (Nat.le_of_ble_eq_true rfl) ⟨Nat.le_of_ble_eq_true rfl, Nat.le_of_ble_eq_true rfl⟩ (fun S9 hp9 => ?_)
  subst hp9
  refine z_putO h0 fO0 lp_10 dX0_init_12 hao rfl rfl ?_
  exact z_vret h0 hr hlk dX0_init_15 (Nat.le_of_ble_eq_true rfl) (Nat.le_of_ble_eq_true rfl) ⟨q5, hq5, rfl⟩

abbrev rm_X0_size : Room := { frames := 1, cells := 0, slots := 0, locals := 20 }
set_option maxRecDepth 100000 in
set_option maxHeartbeats 4000000 in
theorem c_X0_size {l : Launch} {D : va_G} {cI cZ cO : ClassId} {G : Nat → Nat} {S : PS} {a b : Nat} {xs : List Nat} (ha : isK S 0 a) (hb : pO S 0 a = some b) (hA : AL G S b xs) : zMi l yX0_size wsX0_size rm_X0_size [.ref a] D cI cZ cO G S (fun r S' => S = S' ∧ r = nI xs.length) := by
  have hb7 := hA.1
  have hbn := hA.2.1
  have hbl := hA.2.2.1
  refine z_of (cc := cX0_size) (maxL := 1) (ret := (some .int)) (lo := [some (.ref a)]) (by decide) rfl rfl (Nat.le_of_ble_eq_true rfl) rfl ?_
  intro pp ee ss mi aa bl mh cd h0 hts hown hr hlk hnm
  have hown : ss.vm.findClass RX0 = some mi.cls := hown
  have inX0 : ∀ w ∈ u_ws RX0 TX0 1, w ∈ wsX0_size := by decide +kernel
  have lk_10 : zLk ss mi aa RX0 10 1 0 := ⟨RX0, TX0, 1, "PurseWorld$Archive", wsX0_size, rfl, by decide, hts, inX0, hown, hts (.fieldLink RX0 10 "PurseWorld$Archive" "rows" "Ljava/util/ArrayList;") (by decide +kernel), fun _ h => h⟩
  refine z_aload_n h0 dX0_size_0 rfl ?_
  refine z_getO h0 fO0 lk_10 dX0_size_1 (by assumption) (by assumption) ?_
  refine z_cVi (n := 0) (As := []) h0 hts hown (c_Jx4a65c_size_8abf5 hb7) gX0_size_Jx4a65c_size_8abf5 rfl (by decide +kernel) ⟨Nat.le_of_ble_eq_true rfl, Nat.le_of_ble_eq_true rfl⟩ kOk7 rfl (by assumption) dX0_size_4 rfl rfl (Nat.le_of_ble_eq_true rfl) ⟨Nat.le_of_ble_eq_true rfl, Nat.le_of_ble_eq_true rfl⟩ (fun r4 S4 hp4 => ?_)
  exact z_iret h0 hr hlk dX0_size_7 (Nat.le_of_ble_eq_true rfl) (Nat.le_of_ble_eq_true rfl) ⟨hp4.1, hp4.2.trans hbn⟩

abbrev rm_X0_hadAmong : Room := { frames := 3, cells := 0, slots := 0, locals := 64 }
set_option maxRecDepth 100000 in
set_option maxHeartbeats 4000000 in
theorem c_X0_hadAmong {l : Launch} {D : va_G} {cI cZ cO : ClassId} {G : Nat → Nat} {S : PS} {a b : Nat} {xs : List Nat} (ha : isK S 0 a) (hb : pO S 0 a = some b) (hA : AL G S b xs) {t k : Nat} {tl : Int32} (hen : ∀ x ∈ xs, enK S x) (ht : isK S 4 t) (hk : k < 2 ^ 31) : zMi l yX0_hadAmong wsX0_hadAmong rm_X0_hadAmong [.ref a, .int (nI k), .int tl, .ref t] D cI cZ cO G S (fun r S' => S = S' ∧ r = if (xs.take k).any (fun x => decide (pI S 0 x = tl ∧ enT S x = tr S t)) then 1 else 0) := by
  have hb7 := hA.1
  have hbn := hA.2.1
  have hbl := hA.2.2.1
  refine z_of (cc := cX0_hadAmong) (maxL := 6) (ret := (some .boolean)) (lo := [some (.ref a), some (.int (nI k)), some (.int tl), some (.ref t), none, none]) (by decide) rfl rfl (Nat.le_of_ble_eq_true rfl) rfl ?_
  intro pp ee ss mi aa bl mh cd h0 hts hown hr hlk hnm
  have hown : ss.vm.findClass RX0 = some mi.cls := hown
  have inX0 : ∀ w ∈ u_ws RX0 TX0 1, w ∈ wsX0_hadAmong := by decide +kernel
  have inX1 : ∀ w ∈ u_ws RX1 TX1 3, w ∈ wsX0_hadAmong := by decide +kernel
  have lk_10 : zLk ss mi aa RX0 10 1 0 := ⟨RX0, TX0, 1, "PurseWorld$Archive", wsX0_hadAmong, rfl, by decide, hts, inX0, hown, hts (.fieldLink RX0 10 "PurseWorld$Archive" "rows" "Ljava/util/ArrayList;") (by decide +kernel), fun _ h => h⟩
  have lk_26 : zLk ss mi aa RX0 26 2 0 := ⟨RX1, TX1, 3, "PurseWorld$Entry", wsX0_hadAmong, rfl, by decide, hts, inX1, hown, hts (.fieldLink RX0 26 "PurseWorld$Entry" "teller" "I") (by decide +kernel), fun _ h => h⟩
  have lk_30 : zLk ss mi aa RX0 30 2 1 := ⟨RX1, TX1, 3, "PurseWorld$Entry", wsX0_hadAmong, rfl, by decide, hts, inX1, hown, hts (.fieldLink RX0 30 "PurseWorld$Entry" "terms" "LPurseWorld$Transfer;") (by decide +kernel), fun _ h => h⟩
  have loop : ∀ (n : Nat) (o5 : Option Value) (i : Nat), xs.length - i < n → i ≤ xs.length → (∀ (j y : Nat), j < i → xs[j]? = some y → ¬ (pI S 0 y = tl ∧ enT S y = tr S t)) → ZW pp l ee rm_X0_hadAmong ss mi aa bl mh cd D cI cZ cO (zA cI cZ cO S ss.heap.size) (MQ bl (zQi D cI cZ cO S (fun r S' => S = S' ∧ r = if (xs.take k).any (fun x => decide (pI S 0 x = tl ∧ enT S x = tr S t)) then 1 else 0) ss.heap.size) aa ss rm_X0_hadAmong.cells rm_X0_hadAmong.slots (zA cI cZ cO S ss.heap.size)) [] 6 S 0 0 3 [some (.ref a), some (.int (nI k)), some (.int tl), some (.ref t), some (.int (nI i)), o5] [] := by
    intro n
    induction n with
    | zero => intro o5 i h; exact absurd h (Nat.not_lt_zero _)
    | succ n ih =>
      intro o5 i hm hi hv
      refine z_iload h0 dX0_hadAmong_3 rfl ?_
      refine z_iload_n h0 dX0_hadAmong_5 rfl ?_
      refine z_icmp_ge (tgt := 64) h0 dX0_hadAmong_6 (by decide) (fun h6 => ?_) (fun h6 => ?_)
      · refine z_iconst (v := 0) h0 dX0_hadAmong_64 (by decide) ?_
        exact z_zret h0 hr rfl hlk dX0_hadAmong_65 (Nat.le_of_ble_eq_true rfl) (Nat.le_of_ble_eq_true rfl) ⟨rfl, by rw [any_f (fun j y hj hy => hv j y (Nat.lt_of_lt_of_le (take_get hy).1 (nI_geof h6 hk (by omega))) (take_get hy).2)]; rfl⟩
      · have hik : i < k := nI_ltof h6 (by omega)
        refine z_iload h0 dX0_hadAmong_9 rfl ?_
        refine z_aload_n h0 dX0_hadAmong_11 rfl ?_
        refine z_getO h0 fO0 lk_10 dX0_hadAmong_12 (by assumption) (by assumption) ?_
        refine z_cVi (n := 0) (As := []) h0 hts hown (c_Jx4a65c_size_8abf5 hb7) gX0_hadAmong_Jx4a65c_size_8abf5 rfl (by decide +kernel) ⟨Nat.le_of_ble_eq_true rfl, Nat.le_of_ble_eq_true rfl⟩ kOk7 rfl (by assumption) dX0_hadAmong_15 rfl rfl (Nat.le_of_ble_eq_true rfl) ⟨Nat.le_of_ble_eq_true rfl, Nat.le_of_ble_eq_true rfl⟩ (fun r15 S15 hp15 => ?_)
        obtain ⟨rfl, hr15⟩ := hp15
        rw [hbn] at hr15
        subst hr15
        refine z_icmp_ge (tgt := 64) h0 dX0_hadAmong_18 (by decide) (fun h18 => ?_) (fun h18 => ?_)
        · refine z_iconst (v := 0) h0 dX0_hadAmong_64 (by decide) ?_
          exact z_zret h0 hr rfl hlk dX0_hadAmong_65 (Nat.le_of_ble_eq_true rfl) (Nat.le_of_ble_eq_true rfl) ⟨rfl, by rw [any_f (fun j y hj hy => hv j y (Nat.lt_of_lt_of_le (List.getElem?_eq_some_iff.mp (take_get hy).2).1 (nI_geof h18 (by omega) (by omega))) (take_get hy).2)]; rfl⟩
        · have hlt : i < xs.length := nI_ltof h18 (by omega)
          obtain ⟨x1, hx1⟩ := get_lt hlt
          obtain ⟨hk1, t1, ht1, ht4⟩ := hen x1 (List.mem_of_getElem? hx1)
          refine z_aload_n h0 dX0_hadAmong_21 rfl ?_
          refine z_getO h0 fO0 lk_10 dX0_hadAmong_22 (by assumption) (by assumption) ?_
          refine z_iload h0 dX0_hadAmong_25 rfl ?_
          refine z_cVr (n := 1) (As := [_]) h0 hts hown (c_Jx4a65c_get_915e3 (j := i) hA (nI_toInt (by omega)) hx1) gX0_hadAmong_Jx4a65c_get_915e3 rfl (by decide +kernel) ⟨Nat.le_of_ble_eq_true rfl, Nat.le_of_ble_eq_true rfl⟩ kOk7 rfl (by assumption) dX0_hadAmong_27 rfl rfl (Nat.le_of_ble_eq_true rfl) ⟨Nat.le_of_ble_eq_true rfl, Nat.le_of_ble_eq_true rfl⟩ (fun r27 S27 hp27 => ?_)
          obtain ⟨rfl, rfl⟩ := hp27
          refine z_cast h0 hown (hts (.classLink RX0 24 "PurseWorld$Entry") (by decide +kernel)) kOk1 rfl (by assumption) dX0_hadAmong_30 ?_
          refine z_astore (lo' := [_, _, _, _, _, _]) h0 dX0_hadAmong_33 (by decide) rfl rfl ?_
          refine z_aload h0 dX0_hadAmong_35 rfl ?_
          refine z_getI h0 fI0 lk_26 dX0_hadAmong_37 (by assumption) ?_
          refine z_iload_n h0 dX0_hadAmong_40 rfl ?_
          refine z_icmp_ne (tgt := 58) h0 dX0_hadAmong_41 (by decide) (fun h41 => ?_) (fun h41 => ?_)
          · refine z_iinc (lo' := [_, _, _, _, _, _]) (v := nI (i + 1)) h0 dX0_hadAmong_58 rfl (nI_1 i) (by decide) rfl rfl ?_
            refine z_goto (tgt := 3) h0 dX0_hadAmong_61 (by decide) ?_
            exact ih _ (i + 1) (by omega) (by omega) (lt_succ_cases hv hx1 (fun z => h41 z.1))
          · refine z_aload h0 dX0_hadAmong_44 rfl ?_
            refine z_getO h0 fO1 lk_30 dX0_hadAmong_46 (by assumption) (by assumption) ?_
            refine z_aload_n h0 dX0_hadAmong_49 rfl ?_
            refine z_cVi (n := 1) (As := [_]) h0 hts hown (c_X4_same ht4 ht) gX0_hadAmong_X4_same rfl (by decide +kernel) ⟨Nat.le_of_ble_eq_true rfl, Nat.le_of_ble_eq_true rfl⟩ kOk4 rfl (by assumption) dX0_hadAmong_50 rfl rfl (Nat.le_of_ble_eq_true rfl) ⟨Nat.le_of_ble_eq_true rfl, Nat.le_of_ble_eq_true rfl⟩ (fun r50 S50 hp50 => ?_)
            obtain ⟨rfl, hr50⟩ := hp50
            refine z_if_eq (tgt := 58) h0 dX0_hadAmong_53 (by decide) (fun h53 => ?_) (fun h53 => ?_)
            · refine z_iinc (lo' := [_, _, _, _, _, _]) (v := nI (i + 1)) h0 dX0_hadAmong_58 rfl (nI_1 i) (by decide) rfl rfl ?_
              refine z_goto (tgt := 3) h0 dX0_hadAmong_61 (by decide) ?_
              exact ih _ (i + 1) (by omega) (by omega) (lt_succ_cases hv hx1 (fun z => by rw [← enT_of ht1, if_pos z.2] at hr50; rw [hr50] at h53; exact absurd h53 (by decide)))
            · refine z_iconst (v := 1) h0 dX0_hadAmong_56 (by decide) ?_
              exact z_zret h0 hr rfl hlk dX0_hadAmong_57 (Nat.le_of_ble_eq_true rfl) (Nat.le_of_ble_eq_true rfl) ⟨rfl, by rw [any_t (take_of hik hx1) ⟨by simp_all, by rw [enT_of ht1]; by_cases z : tr S t1 = tr S t <;> simp_all⟩]; rfl⟩
  refine z_iconst (v := 0) h0 dX0_hadAmong_0 (by decide) ?_
  refine z_istore (lo' := [_, _, _, _, _, _]) h0 dX0_hadAmong_1 (by decide) rfl rfl ?_
  exact loop (xs.length + 1) none 0 (by omega) (Nat.zero_le _) (fun j y h => absurd h (Nat.not_lt_zero _))

abbrev rm_X0_has : Room := { frames := 4, cells := 0, slots := 0, locals := 89 }
set_option maxRecDepth 100000 in
set_option maxHeartbeats 4000000 in
theorem c_X0_has {l : Launch} {D : va_G} {cI cZ cO : ClassId} {G : Nat → Nat} {S : PS} {a b : Nat} {xs : List Nat} (ha : isK S 0 a) (hb : pO S 0 a = some b) (hA : AL G S b xs) {t : Nat} {tl : Int32} (hen : ∀ x ∈ xs, enK S x) (ht : isK S 4 t) : zMi l yX0_has wsX0_has rm_X0_has [.ref a, .int tl, .ref t] D cI cZ cO G S (fun r S' => S = S' ∧ r = if xs.any (fun x => decide (pI S 0 x = tl ∧ enT S x = tr S t)) then 1 else 0) := by
  have hb7 := hA.1
  have hbn := hA.2.1
  have hbl := hA.2.2.1
  refine z_of (cc := cX0_has) (maxL := 3) (ret := (some .boolean)) (lo := [some (.ref a), some (.int tl), some (.ref t)]) (by decide) rfl rfl (Nat.le_of_ble_eq_true rfl) rfl ?_
  intro pp ee ss mi aa bl mh cd h0 hts hown hr hlk hnm
  have hown : ss.vm.findClass RX0 = some mi.cls := hown
  have inX0 : ∀ w ∈ u_ws RX0 TX0 1, w ∈ wsX0_has := by decide +kernel
  have lk_10 : zLk ss mi aa RX0 10 1 0 := ⟨RX0, TX0, 1, "PurseWorld$Archive", wsX0_has, rfl, by decide, hts, inX0, hown, hts (.fieldLink RX0 10 "PurseWorld$Archive" "rows" "Ljava/util/ArrayList;") (by decide +kernel), fun _ h => h⟩
  refine z_aload_n h0 dX0_has_0 rfl ?_
  refine z_aload_n h0 dX0_has_1 rfl ?_
  refine z_getO h0 fO0 lk_10 dX0_has_2 (by assumption) (by assumption) ?_
  refine z_cVi (n := 0) (As := []) h0 hts hown (c_Jx4a65c_size_8abf5 hb7) gX0_has_Jx4a65c_size_8abf5 rfl (by decide +kernel) ⟨Nat.le_of_ble_eq_true rfl, Nat.le_of_ble_eq_true rfl⟩ kOk7 rfl (by assumption) dX0_has_5 rfl rfl (Nat.le_of_ble_eq_true rfl) ⟨Nat.le_of_ble_eq_true rfl, Nat.le_of_ble_eq_true rfl⟩ (fun r5 S5 hp5 => ?_)
  obtain ⟨rfl, hr5⟩ := hp5
  rw [hbn] at hr5
  subst hr5
  refine z_iload_n h0 dX0_has_8 rfl ?_
  refine z_aload_n h0 dX0_has_9 rfl ?_
  refine z_cVi (n := 3) (As := [_, _, _]) h0 hts hown (c_X0_hadAmong (k := xs.length) ha hb hA hen ht (by omega)) gX0_has_X0_hadAmong rfl (by decide +kernel) ⟨Nat.le_of_ble_eq_true rfl, Nat.le_of_ble_eq_true rfl⟩ kOk0 rfl (by assumption) dX0_has_10 rfl rfl (Nat.le_of_ble_eq_true rfl) ⟨Nat.le_of_ble_eq_true rfl, Nat.le_of_ble_eq_true rfl⟩ (fun r10 S10 hp10 => ?_)
  rw [List.take_length] at hp10
  exact z_zret h0 hr (by rw [hp10.2]; split <;> rfl) hlk dX0_has_13 (Nat.le_of_ble_eq_true rfl) (Nat.le_of_ble_eq_true rfl) hp10

abbrev rm_X0_hasAnyOf : Room := { frames := 3, cells := 0, slots := 0, locals := 64 }
set_option maxRecDepth 100000 in
set_option maxHeartbeats 4000000 in
theorem c_X0_hasAnyOf {l : Launch} {D : va_G} {cI cZ cO : ClassId} {G : Nat → Nat} {S : PS} {a b : Nat} {xs : List Nat} (ha : isK S 0 a) (hb : pO S 0 a = some b) (hA : AL G S b xs) {tl : Int32} (hen : ∀ x ∈ xs, enK S x) : zMi l yX0_hasAnyOf wsX0_hasAnyOf rm_X0_hasAnyOf [.ref a, .int tl] D cI cZ cO G S (fun r S' => S = S' ∧ r = if xs.any (fun x => decide (pI S 0 x = tl)) then 1 else 0) := by
  have hb7 := hA.1
  have hbn := hA.2.1
  have hbl := hA.2.2.1
  refine z_of (cc := cX0_hasAnyOf) (maxL := 3) (ret := (some .boolean)) (lo := [some (.ref a), some (.int tl), none]) (by decide) rfl rfl (Nat.le_of_ble_eq_true rfl) rfl ?_
  intro pp ee ss mi aa bl mh cd h0 hts hown hr hlk hnm
  have hown : ss.vm.findClass RX0 = some mi.cls := hown
  have inX0 : ∀ w ∈ u_ws RX0 TX0 1, w ∈ wsX0_hasAnyOf := by decide +kernel
  have inX1 : ∀ w ∈ u_ws RX1 TX1 3, w ∈ wsX0_hasAnyOf := by decide +kernel
  have lk_10 : zLk ss mi aa RX0 10 1 0 := ⟨RX0, TX0, 1, "PurseWorld$Archive", wsX0_hasAnyOf, rfl, by decide, hts, inX0, hown, hts (.fieldLink RX0 10 "PurseWorld$Archive" "rows" "Ljava/util/ArrayList;") (by decide +kernel), fun _ h => h⟩
  have lk_26 : zLk ss mi aa RX0 26 2 0 := ⟨RX1, TX1, 3, "PurseWorld$Entry", wsX0_hasAnyOf, rfl, by decide, hts, inX1, hown, hts (.fieldLink RX0 26 "PurseWorld$Entry" "teller" "I") (by decide +kernel), fun _ h => h⟩
  have loop : ∀ (n : Nat) (i : Nat), xs.length - i < n → i ≤ xs.length → (∀ (j y : Nat), j < i → xs[j]? = some y → ¬ pI S 0 y = tl) → ZW pp l ee rm_X0_hasAnyOf ss mi aa bl mh cd D cI cZ cO (zA cI cZ cO S ss.heap.size) (MQ bl (zQi D cI cZ cO S (fun r S' => S = S' ∧ r = if xs.any (fun x => decide (pI S 0 x = tl)) then 1 else 0) ss.heap.size) aa ss rm_X0_hasAnyOf.cells rm_X0_hasAnyOf.slots (zA cI cZ cO S ss.heap.size)) [] 3 S 0 0 2 [some (.ref a), some (.int tl), some (.int (nI i))] [] := by
    intro n
    induction n with
    | zero => intro i h; exact absurd h (Nat.not_lt_zero _)
    | succ n ih =>
      intro i hm hi hv
      refine z_iload_n h0 dX0_hasAnyOf_2 rfl ?_
      refine z_aload_n h0 dX0_hasAnyOf_3 rfl ?_
      refine z_getO h0 fO0 lk_10 dX0_hasAnyOf_4 (by assumption) (by assumption) ?_
      refine z_cVi (n := 0) (As := []) h0 hts hown (c_Jx4a65c_size_8abf5 hb7) gX0_hasAnyOf_Jx4a65c_size_8abf5 rfl (by decide +kernel) ⟨Nat.le_of_ble_eq_true rfl, Nat.le_of_ble_eq_true rfl⟩ kOk7 rfl (by assumption) dX0_hasAnyOf_7 rfl rfl (Nat.le_of_ble_eq_true rfl) ⟨Nat.le_of_ble_eq_true rfl, Nat.le_of_ble_eq_true rfl⟩ (fun r7 S7 hp7 => ?_)
      obtain ⟨rfl, hr7⟩ := hp7
      rw [hbn] at hr7
      subst hr7
      refine z_icmp_ge (tgt := 39) h0 dX0_hasAnyOf_10 (by decide) (fun h10 => ?_) (fun h10 => ?_)
      · refine z_iconst (v := 0) h0 dX0_hasAnyOf_39 (by decide) ?_
        exact z_zret h0 hr rfl hlk dX0_hasAnyOf_40 (Nat.le_of_ble_eq_true rfl) (Nat.le_of_ble_eq_true rfl) ⟨rfl, by rw [any_f (fun j y hj hy => hv j y (Nat.lt_of_lt_of_le hj (nI_geof h10 (by omega) (by omega))) hy)]; rfl⟩
      · have hlt : i < xs.length := nI_ltof h10 (by omega)
        obtain ⟨x1, hx1⟩ := get_lt hlt
        obtain ⟨hk1, t1, ht1, ht4⟩ := hen x1 (List.mem_of_getElem? hx1)
        refine z_aload_n h0 dX0_hasAnyOf_13 rfl ?_
        refine z_getO h0 fO0 lk_10 dX0_hasAnyOf_14 (by assumption) (by assumption) ?_
        refine z_iload_n h0 dX0_hasAnyOf_17 rfl ?_
        refine z_cVr (n := 1) (As := [_]) h0 hts hown (c_Jx4a65c_get_915e3 (j := i) hA (nI_toInt (by omega)) hx1) gX0_hasAnyOf_Jx4a65c_get_915e3 rfl (by decide +kernel) ⟨Nat.le_of_ble_eq_true rfl, Nat.le_of_ble_eq_true rfl⟩ kOk7 rfl (by assumption) dX0_hasAnyOf_18 rfl rfl (Nat.le_of_ble_eq_true rfl) ⟨Nat.le_of_ble_eq_true rfl, Nat.le_of_ble_eq_true rfl⟩ (fun r18 S18 hp18 => ?_)
        obtain ⟨rfl, rfl⟩ := hp18
        refine z_cast h0 hown (hts (.classLink RX0 24 "PurseWorld$Entry") (by decide +kernel)) kOk1 rfl (by assumption) dX0_hasAnyOf_21 ?_
        refine z_getI h0 fI0 lk_26 dX0_hasAnyOf_24 (by assumption) ?_
        refine z_iload_n h0 dX0_hasAnyOf_27 rfl ?_
        refine z_icmp_ne (tgt := 33) h0 dX0_hasAnyOf_28 (by decide) (fun h28 => ?_) (fun h28 => ?_)
        · refine z_iinc (lo' := [_, _, _]) (v := nI (i + 1)) h0 dX0_hasAnyOf_33 rfl (nI_1 i) (by decide) rfl rfl ?_
          refine z_goto (tgt := 2) h0 dX0_hasAnyOf_36 (by decide) ?_
          exact ih (i + 1) (by omega) (by omega) (lt_succ_cases hv hx1 h28)
        · refine z_iconst (v := 1) h0 dX0_hasAnyOf_31 (by decide) ?_
          exact z_zret h0 hr rfl hlk dX0_hasAnyOf_32 (Nat.le_of_ble_eq_true rfl) (Nat.le_of_ble_eq_true rfl) ⟨rfl, by rw [any_t hx1 h28]; rfl⟩
  refine z_iconst (v := 0) h0 dX0_hasAnyOf_0 (by decide) ?_
  refine z_istore_n (lo' := [_, _, _]) h0 dX0_hasAnyOf_1 (by decide) rfl rfl ?_
  exact loop (xs.length + 1) 0 (by omega) (Nat.zero_le _) (fun j y h => absurd h (Nat.not_lt_zero _))

abbrev rm_X0_hasRefunded : Room := { frames := 3, cells := 0, slots := 0, locals := 64 }
set_option maxRecDepth 100000 in
set_option maxHeartbeats 4000000 in
theorem c_X0_hasRefunded {l : Launch} {D : va_G} {cI cZ cO : ClassId} {G : Nat → Nat} {S : PS} {a b : Nat} {xs : List Nat} (ha : isK S 0 a) (hb : pO S 0 a = some b) (hA : AL G S b xs) {t : Nat} (hen : ∀ x ∈ xs, enK S x) (ht : isK S 4 t) : zMi l yX0_hasRefunded wsX0_hasRefunded rm_X0_hasRefunded [.ref a, .ref t] D cI cZ cO G S (fun r S' => S = S' ∧ r = if xs.any (fun x => decide (¬ pI S 1 x = 0 ∧ enT S x = tr S t)) then 1 else 0) := by
  have hb7 := hA.1
  have hbn := hA.2.1
  have hbl := hA.2.2.1
  refine z_of (cc := cX0_hasRefunded) (maxL := 4) (ret := (some .boolean)) (lo := [some (.ref a), some (.ref t), none, none]) (by decide) rfl rfl (Nat.le_of_ble_eq_true rfl) rfl ?_
  intro pp ee ss mi aa bl mh cd h0 hts hown hr hlk hnm
  have hown : ss.vm.findClass RX0 = some mi.cls := hown
  have inX0 : ∀ w ∈ u_ws RX0 TX0 1, w ∈ wsX0_hasRefunded := by decide +kernel
  have inX1 : ∀ w ∈ u_ws RX1 TX1 3, w ∈ wsX0_hasRefunded := by decide +kernel
  have lk_10 : zLk ss mi aa RX0 10 1 0 := ⟨RX0, TX0, 1, "PurseWorld$Archive", wsX0_hasRefunded, rfl, by decide, hts, inX0, hown, hts (.fieldLink RX0 10 "PurseWorld$Archive" "rows" "Ljava/util/ArrayList;") (by decide +kernel), fun _ h => h⟩
  have lk_30 : zLk ss mi aa RX0 30 2 1 := ⟨RX1, TX1, 3, "PurseWorld$Entry", wsX0_hasRefunded, rfl, by decide, hts, inX1, hown, hts (.fieldLink RX0 30 "PurseWorld$Entry" "terms" "LPurseWorld$Transfer;") (by decide +kernel), fun _ h => h⟩
  have lk_44 : zLk ss mi aa RX0 44 2 2 := ⟨RX1, TX1, 3, "PurseWorld$Entry", wsX0_hasRefunded, rfl, by decide, hts, inX1, hown, hts (.fieldLink RX0 44 "PurseWorld$Entry" "refunded" "Z") (by decide +kernel), fun _ h => h⟩
  have loop : ∀ (n : Nat) (o5 : Option Value) (i : Nat), xs.length - i < n → i ≤ xs.length → (∀ (j y : Nat), j < i → xs[j]? = some y → ¬ (¬ pI S 1 y = 0 ∧ enT S y = tr S t)) → ZW pp l ee rm_X0_hasRefunded ss mi aa bl mh cd D cI cZ cO (zA cI cZ cO S ss.heap.size) (MQ bl (zQi D cI cZ cO S (fun r S' => S = S' ∧ r = if xs.any (fun x => decide (¬ pI S 1 x = 0 ∧ enT S x = tr S t)) then 1 else 0) ss.heap.size) aa ss rm_X0_hasRefunded.cells rm_X0_hasRefunded.slots (zA cI cZ cO S ss.heap.size)) [] 4 S 0 0 2 [some (.ref a), some (.ref t), some (.int (nI i)), o5] [] := by
    intro n
    induction n with
    | zero => intro o5 i h; exact absurd h (Nat.not_lt_zero _)
    | succ n ih =>
      intro o5 i hm hi hv
      refine z_iload_n h0 dX0_hasRefunded_2 rfl ?_
      refine z_aload_n h0 dX0_hasRefunded_3 rfl ?_
      refine z_getO h0 fO0 lk_10 dX0_hasRefunded_4 (by assumption) (by assumption) ?_
      refine z_cVi (n := 0) (As := []) h0 hts hown (c_Jx4a65c_size_8abf5 hb7) gX0_hasRefunded_Jx4a65c_size_8abf5 rfl (by decide +kernel) ⟨Nat.le_of_ble_eq_true rfl, Nat.le_of_ble_eq_true rfl⟩ kOk7 rfl (by assumption) dX0_hasRefunded_7 rfl rfl (Nat.le_of_ble_eq_true rfl) ⟨Nat.le_of_ble_eq_true rfl, Nat.le_of_ble_eq_true rfl⟩ (fun r7 S7 hp7 => ?_)
      obtain ⟨rfl, hr7⟩ := hp7
      rw [hbn] at hr7
      subst hr7
      refine z_icmp_ge (tgt := 51) h0 dX0_hasRefunded_10 (by decide) (fun h10 => ?_) (fun h10 => ?_)
      · refine z_iconst (v := 0) h0 dX0_hasRefunded_51 (by decide) ?_
        exact z_zret h0 hr rfl hlk dX0_hasRefunded_52 (Nat.le_of_ble_eq_true rfl) (Nat.le_of_ble_eq_true rfl) ⟨rfl, by rw [any_f (fun j y hj hy => hv j y (Nat.lt_of_lt_of_le hj (nI_geof h10 (by omega) (by omega))) hy)]; rfl⟩
      · have hlt : i < xs.length := nI_ltof h10 (by omega)
        obtain ⟨x1, hx1⟩ := get_lt hlt
        obtain ⟨hk1, t1, ht1, ht4⟩ := hen x1 (List.mem_of_getElem? hx1)
        refine z_aload_n h0 dX0_hasRefunded_13 rfl ?_
        refine z_getO h0 fO0 lk_10 dX0_hasRefunded_14 (by assumption) (by assumption) ?_
        refine z_iload_n h0 dX0_hasRefunded_17 rfl ?_
        refine z_cVr (n := 1) (As := [_]) h0 hts hown (c_Jx4a65c_get_915e3 (j := i) hA (nI_toInt (by omega)) hx1) gX0_hasRefunded_Jx4a65c_get_915e3 rfl (by decide +kernel) ⟨Nat.le_of_ble_eq_true rfl, Nat.le_of_ble_eq_true rfl⟩ kOk7 rfl (by assumption) dX0_hasRefunded_18 rfl rfl (Nat.le_of_ble_eq_true rfl) ⟨Nat.le_of_ble_eq_true rfl, Nat.le_of_ble_eq_true rfl⟩ (fun r18 S18 hp18 => ?_)
        obtain ⟨rfl, rfl⟩ := hp18
        refine z_cast h0 hown (hts (.classLink RX0 24 "PurseWorld$Entry") (by decide +kernel)) kOk1 rfl (by assumption) dX0_hasRefunded_21 ?_
        refine z_astore_n (lo' := [_, _, _, _]) h0 dX0_hasRefunded_24 (by decide) rfl rfl ?_
        refine z_aload_n h0 dX0_hasRefunded_25 rfl ?_
        refine z_getI h0 fI1 lk_44 dX0_hasRefunded_26 (by assumption) ?_
        refine z_if_eq (tgt := 45) h0 dX0_hasRefunded_29 (by decide) (fun h29 => ?_) (fun h29 => ?_)
        · refine z_iinc (lo' := [_, _, _, _]) (v := nI (i + 1)) h0 dX0_hasRefunded_45 rfl (nI_1 i) (by decide) rfl rfl ?_
          refine z_goto (tgt := 2) h0 dX0_hasRefunded_48 (by decide) ?_
          exact ih _ (i + 1) (by omega) (by omega) (lt_succ_cases hv hx1 (fun z => z.1 h29))
        · refine z_aload_n h0 dX0_hasRefunded_32 rfl ?_
          refine z_getO h0 fO1 lk_30 dX0_hasRefunded_33 (by assumption) (by assumption) ?_
          refine z_aload_n h0 dX0_hasRefunded_36 rfl ?_
          refine z_cVi (n := 1) (As := [_]) h0 hts hown (c_X4_same ht4 ht) gX0_hasRefunded_X4_same rfl (by decide +kernel) ⟨Nat.le_of_ble_eq_true rfl, Nat.le_of_ble_eq_true rfl⟩ kOk4 rfl (by assumption) dX0_hasRefunded_37 rfl rfl (Nat.le_of_ble_eq_true rfl) ⟨Nat.le_of_ble_eq_true rfl, Nat.le_of_ble_eq_true rfl⟩ (fun r37 S37 hp37 => ?_)
          obtain ⟨rfl, hr37⟩ := hp37
          refine z_if_eq (tgt := 45) h0 dX0_hasRefunded_40 (by decide) (fun h40 => ?_) (fun h40 => ?_)
          · refine z_iinc (lo' := [_, _, _, _]) (v := nI (i + 1)) h0 dX0_hasRefunded_45 rfl (nI_1 i) (by decide) rfl rfl ?_
            refine z_goto (tgt := 2) h0 dX0_hasRefunded_48 (by decide) ?_
            exact ih _ (i + 1) (by omega) (by omega) (lt_succ_cases hv hx1 (fun z => by rw [← enT_of ht1, if_pos z.2] at hr37; rw [hr37] at h40; exact absurd h40 (by decide)))
          · refine z_iconst (v := 1) h0 dX0_hasRefunded_43 (by decide) ?_
            exact z_zret h0 hr rfl hlk dX0_hasRefunded_44 (Nat.le_of_ble_eq_true rfl) (Nat.le_of_ble_eq_true rfl) ⟨rfl, by rw [any_t hx1 ⟨h29, by rw [enT_of ht1]; by_cases z : tr S t1 = tr S t <;> simp_all⟩]; rfl⟩
  refine z_iconst (v := 0) h0 dX0_hasRefunded_0 (by decide) ?_
  refine z_istore_n (lo' := [_, _, _, _]) h0 dX0_hasRefunded_1 (by decide) rfl rfl ?_
  exact loop (xs.length + 1) none 0 (by omega) (Nat.zero_le _) (fun j y h => absurd h (Nat.not_lt_zero _))

/-- the entries of the transfer T among the first i are marked -/
def mark (S : PS) (xs : List Nat) (T : T5) (i : Nat) : PS := (pL S, pK S, pN S, (fun f b => if f = 1 ∧ b ∈ xs.take i ∧ enT S b = T then 1 else pI S f b), pO S, pR S, pQ S)
theorem mark_0 {S : PS} {xs : List Nat} {T : T5} : mark S xs T 0 = S := by simp [mark]
theorem mark_I {S : PS} {xs : List Nat} {T : T5} {i f b : Nat} (h : f ≠ 1) : pI (mark S xs T i) f b = pI S f b := by simp [mark, pI, h]
theorem mark_tr {S : PS} {xs : List Nat} {T : T5} {i t : Nat} : tr (mark S xs T i) t = tr S t := by simp [tr, mark, pI]
theorem mark_no {S : PS} {xs : List Nat} {T : T5} {i x : Nat} (hx : xs[i]? = some x) (h : ¬ enT S x = T) : mark S xs T (i + 1) = mark S xs T i := by
  have hlt := (List.getElem?_eq_some_iff.mp hx).1
  have hx' : xs[i] = x := (List.getElem?_eq_some_iff.mp hx).2
  have : ∀ f b, (f = 1 ∧ b ∈ xs.take (i + 1) ∧ enT S b = T) ↔ (f = 1 ∧ b ∈ xs.take i ∧ enT S b = T) := by
    intro f b
    rw [List.take_succ_eq_append_getElem hlt, List.mem_append, List.mem_singleton, hx']
    constructor
    · rintro ⟨h1, h2 | rfl, h3⟩
      · exact ⟨h1, h2, h3⟩
      · exact absurd h3 h
    · rintro ⟨h1, h2, h3⟩
      exact ⟨h1, Or.inl h2, h3⟩
  simp only [mark, this]
theorem mark_yes {S : PS} {xs : List Nat} {T : T5} {i x : Nat} (hx : xs[i]? = some x) (h : enT S x = T) : mark S xs T (i + 1) = sI (mark S xs T i) 1 x 1 := by
  have hlt := (List.getElem?_eq_some_iff.mp hx).1
  have hx' : xs[i] = x := (List.getElem?_eq_some_iff.mp hx).2
  have : (fun (f b : Nat) => if f = 1 ∧ b ∈ xs.take (i + 1) ∧ enT S b = T then (1 : Int32) else pI S f b) = up2 (fun f b => if f = 1 ∧ b ∈ xs.take i ∧ enT S b = T then 1 else pI S f b) 1 x 1 := by
    funext f b
    simp only [up2, List.take_succ_eq_append_getElem hlt, List.mem_append, List.mem_singleton, hx']
    by_cases hf : f = 1
    · by_cases hb : b = x
      · subst hb; simp [hf, h]
      · simp [hf, hb]
    · simp [hf]
  simp only [mark, this]

abbrev rm_X0_markRefunded : Room := { frames := 3, cells := 0, slots := 0, locals := 64 }
set_option maxRecDepth 100000 in
set_option maxHeartbeats 4000000 in
theorem c_X0_markRefunded {l : Launch} {D : va_G} {cI cZ cO : ClassId} {G : Nat → Nat} {S : PS} {a b : Nat} {xs : List Nat} (ha : isK S 0 a) (hb : pO S 0 a = some b) (hA : AL G S b xs) {t : Nat} (hen : ∀ x ∈ xs, enK S x) (ht : isK S 4 t) : zMv l yX0_markRefunded wsX0_markRefunded rm_X0_markRefunded [.ref a, .ref t] D cI cZ cO G S (fun S' => S' = mark S xs (tr S t) xs.length) := by
  have hb7 := hA.1
  have hbn := hA.2.1
  have hbl := hA.2.2.1
  refine z_of (cc := cX0_markRefunded) (maxL := 4) (ret := none) (lo := [some (.ref a), some (.ref t), none, none]) (by decide) rfl rfl (Nat.le_of_ble_eq_true rfl) rfl ?_
  intro pp ee ss mi aa bl mh cd h0 hts hown hr hlk hnm
  have hown : ss.vm.findClass RX0 = some mi.cls := hown
  have inX0 : ∀ w ∈ u_ws RX0 TX0 1, w ∈ wsX0_markRefunded := by decide +kernel
  have inX1 : ∀ w ∈ u_ws RX1 TX1 3, w ∈ wsX0_markRefunded := by decide +kernel
  have lk_10 : zLk ss mi aa RX0 10 1 0 := ⟨RX0, TX0, 1, "PurseWorld$Archive", wsX0_markRefunded, rfl, by decide, hts, inX0, hown, hts (.fieldLink RX0 10 "PurseWorld$Archive" "rows" "Ljava/util/ArrayList;") (by decide +kernel), fun _ h => h⟩
  have lk_30 : zLk ss mi aa RX0 30 2 1 := ⟨RX1, TX1, 3, "PurseWorld$Entry", wsX0_markRefunded, rfl, by decide, hts, inX1, hown, hts (.fieldLink RX0 30 "PurseWorld$Entry" "terms" "LPurseWorld$Transfer;") (by decide +kernel), fun _ h => h⟩
  have lp_44 : zLp ss mi aa mh RX0 44 2 2 .boolean := ⟨RX1, TX1, 3, "PurseWorld$Entry", wsX0_markRefunded, tyX1, rfl, by decide, hts, inX1, hown, hts (.fieldLink RX0 44 "PurseWorld$Entry" "refunded" "Z") (by decide +kernel), fun _ h => h, tyX1_ok, nmX1, by decide +kernel, Or.inl rfl⟩
  have loop : ∀ (n i : Nat) (o5 : Option Value), xs.length - i < n → i ≤ xs.length → ZW pp l ee rm_X0_markRefunded ss mi aa bl mh cd D cI cZ cO (zA cI cZ cO S ss.heap.size) (MQ bl (zQv D cI cZ cO S (fun S' => S' = mark S xs (tr S t) xs.length) ss.heap.size) aa ss rm_X0_markRefunded.cells rm_X0_markRefunded.slots (zA cI cZ cO S ss.heap.size)) [] 4 (mark S xs (tr S t) i) 0 0 2 [some (.ref a), some (.ref t), some (.int (nI i)), o5] [] := by
    intro n
    induction n with
    | zero => intro i o5 h; exact absurd h (Nat.not_lt_zero _)
    | succ n ih =>
      intro i o5 hm hi
      have hAm : AL G (mark S xs (tr S t) i) b xs := ⟨hA.1, (mark_I (by decide)).trans hA.2.1, hA.2.2⟩
      have hbn : pI (mark S xs (tr S t) i) 20 b = nI xs.length := hAm.2.1
      refine z_iload_n h0 dX0_markRefunded_2 rfl ?_
      refine z_aload_n h0 dX0_markRefunded_3 rfl ?_
      refine z_getO h0 fO0 lk_10 dX0_markRefunded_4 (by assumption) (by assumption) ?_
      refine z_cVi (n := 0) (As := []) h0 hts hown (c_Jx4a65c_size_8abf5 (S := mark S xs (tr S t) i) hb7) gX0_markRefunded_Jx4a65c_size_8abf5 rfl (by decide +kernel) ⟨Nat.le_of_ble_eq_true rfl, Nat.le_of_ble_eq_true rfl⟩ kOk7 rfl (by assumption) dX0_markRefunded_7 rfl rfl (Nat.le_of_ble_eq_true rfl) ⟨Nat.le_of_ble_eq_true rfl, Nat.le_of_ble_eq_true rfl⟩ (fun r7 S7 hp7 => ?_)
      obtain ⟨rfl, hr7⟩ := hp7
      rw [hbn] at hr7
      subst hr7
      refine z_icmp_ge (tgt := 47) h0 dX0_markRefunded_10 (by decide) (fun h10 => ?_) (fun h10 => ?_)
      · exact z_vret h0 hr hlk dX0_markRefunded_47 (Nat.le_of_ble_eq_true rfl) (Nat.le_of_ble_eq_true rfl) (by rw [Nat.le_antisymm hi (nI_geof h10 (by omega) (by omega))])
      · have hlt : i < xs.length := nI_ltof h10 (by omega)
        obtain ⟨x1, hx1⟩ := get_lt hlt
        obtain ⟨hk1, t1, ht1, ht4⟩ := hen x1 (List.mem_of_getElem? hx1)
        refine z_aload_n h0 dX0_markRefunded_13 rfl ?_
        refine z_getO h0 fO0 lk_10 dX0_markRefunded_14 (by assumption) (by assumption) ?_
        refine z_iload_n h0 dX0_markRefunded_17 rfl ?_
        refine z_cVr (n := 1) (As := [_]) h0 hts hown (c_Jx4a65c_get_915e3 (S := mark S xs (tr S t) i) (j := i) hAm (nI_toInt (by omega)) hx1) gX0_markRefunded_Jx4a65c_get_915e3 rfl (by decide +kernel) ⟨Nat.le_of_ble_eq_true rfl, Nat.le_of_ble_eq_true rfl⟩ kOk7 rfl (by assumption) dX0_markRefunded_18 rfl rfl (Nat.le_of_ble_eq_true rfl) ⟨Nat.le_of_ble_eq_true rfl, Nat.le_of_ble_eq_true rfl⟩ (fun r18 S18 hp18 => ?_)
        obtain ⟨rfl, rfl⟩ := hp18
        refine z_cast h0 hown (hts (.classLink RX0 24 "PurseWorld$Entry") (by decide +kernel)) kOk1 rfl (by assumption) dX0_markRefunded_21 ?_
        refine z_astore_n (lo' := [_, _, _, _]) h0 dX0_markRefunded_24 (by decide) rfl rfl ?_
        refine z_aload_n h0 dX0_markRefunded_25 rfl ?_
        refine z_getO h0 fO1 lk_30 dX0_markRefunded_26 (by assumption) (by assumption) ?_
        refine z_aload_n h0 dX0_markRefunded_29 rfl ?_
        refine z_cVi (n := 1) (As := [_]) h0 hts hown (c_X4_same (S := mark S xs (tr S t) i) ht4 ht) gX0_markRefunded_X4_same rfl (by decide +kernel) ⟨Nat.le_of_ble_eq_true rfl, Nat.le_of_ble_eq_true rfl⟩ kOk4 rfl (by assumption) dX0_markRefunded_30 rfl rfl (Nat.le_of_ble_eq_true rfl) ⟨Nat.le_of_ble_eq_true rfl, Nat.le_of_ble_eq_true rfl⟩ (fun r30 S30 hp30 => ?_)
        obtain ⟨rfl, hr30⟩ := hp30
        rw [mark_tr, mark_tr, ← enT_of ht1] at hr30
        refine z_if_eq (tgt := 41) h0 dX0_markRefunded_33 (by decide) (fun h33 => ?_) (fun h33 => ?_)
        · refine z_iinc (lo' := [_, _, _, _]) (v := nI (i + 1)) h0 dX0_markRefunded_41 rfl (nI_1 i) (by decide) rfl rfl ?_
          refine z_goto (tgt := 2) h0 dX0_markRefunded_44 (by decide) ?_
          rw [← mark_no hx1 (fun z => by rw [if_pos z] at hr30; rw [hr30] at h33; exact absurd h33 (by decide))]
          exact ih (i + 1) _ (by omega) (by omega)
        · refine z_aload_n h0 dX0_markRefunded_36 rfl ?_
          refine z_iconst (v := 1) h0 dX0_markRefunded_37 (by decide) ?_
          refine z_putI h0 fI1 lp_44 dX0_markRefunded_38 (by assumption) rfl rfl ?_
          refine z_iinc (lo' := [_, _, _, _]) (v := nI (i + 1)) h0 dX0_markRefunded_41 rfl (nI_1 i) (by decide) rfl rfl ?_
          refine z_goto (tgt := 2) h0 dX0_markRefunded_44 (by decide) ?_
          rw [← mark_yes hx1 (by by_cases z : enT S r18 = tr S t <;> simp_all)]
          exact ih (i + 1) _ (by omega) (by omega)
  refine z_iconst (v := 0) h0 dX0_markRefunded_0 (by decide) ?_
  refine z_istore_n (lo' := [_, _, _, _]) h0 dX0_markRefunded_1 (by decide) rfl rfl ?_
  refine (show _ from ?_)
  have h := loop (xs.length + 1) 0 none (by omega) (Nat.zero_le _)
  rw [mark_0] at h
  exact h

abbrev rm_X0_takeRecord : Room := { frames := 7, cells := 2, slots := 1503, locals := 191 }
set_option maxRecDepth 100000 in
set_option maxHeartbeats 4000000 in
theorem c_X0_takeRecord {l : Launch} {D : va_G} {cI cZ cO : ClassId} {G : Nat → Nat} {S : PS} {a b : Nat} {xs : List Nat} (ha : isK S 0 a) (hb : pO S 0 a = some b) (hA : AL G S b xs) {t : Nat} {tl : Int32} (hen : ∀ x ∈ xs, enK S x) (ht : isK S 4 t) (hle : xs.length < 1000) : zMi l yX0_takeRecord wsX0_takeRecord rm_X0_takeRecord [.ref a, .int tl, .ref t] D cI cZ cO G S (fun r S' => (xs.any (fun x => decide (pI S 0 x = tl ∧ enT S x = tr S t)) = true ∧ S = S' ∧ r = 0) ∨ (xs.any (fun x => decide (pI S 0 x = tl ∧ enT S x = tr S t)) = false ∧ r = 1 ∧ ∃ q, q ∉ pL S ∧ Added G (sO (sI (sN S q 1 0) 0 q tl) 1 q (some t)) S' b xs q)) := by
  have hb7 := hA.1
  have hbn := hA.2.1
  have hbl := hA.2.2.1
  refine z_of (cc := cX0_takeRecord) (maxL := 3) (ret := (some .boolean)) (lo := [some (.ref a), some (.int tl), some (.ref t)]) (by decide) rfl rfl (Nat.le_of_ble_eq_true rfl) rfl ?_
  intro pp ee ss mi aa bl mh cd h0 hts hown hr hlk hnm
  have hown : ss.vm.findClass RX0 = some mi.cls := hown
  have inX0 : ∀ w ∈ u_ws RX0 TX0 1, w ∈ wsX0_takeRecord := by decide +kernel
  have lk_10 : zLk ss mi aa RX0 10 1 0 := ⟨RX0, TX0, 1, "PurseWorld$Archive", wsX0_takeRecord, rfl, by decide, hts, inX0, hown, hts (.fieldLink RX0 10 "PurseWorld$Archive" "rows" "Ljava/util/ArrayList;") (by decide +kernel), fun _ h => h⟩
  refine z_aload_n h0 dX0_takeRecord_0 rfl ?_
  refine z_iload_n h0 dX0_takeRecord_1 rfl ?_
  refine z_aload_n h0 dX0_takeRecord_2 rfl ?_
  refine z_cVi (n := 2) (As := [_, _]) h0 hts hown (c_X0_has ha hb hA hen ht) gX0_takeRecord_X0_has rfl (by decide +kernel) ⟨Nat.le_of_ble_eq_true rfl, Nat.le_of_ble_eq_true rfl⟩ kOk0 rfl (by assumption) dX0_takeRecord_3 rfl rfl (Nat.le_of_ble_eq_true rfl) ⟨Nat.le_of_ble_eq_true rfl, Nat.le_of_ble_eq_true rfl⟩ (fun r3 S3 hp3 => ?_)
  obtain ⟨rfl, hr3⟩ := hp3
  refine z_if_eq (tgt := 11) h0 dX0_takeRecord_6 (by decide) (fun h6 => ?_) (fun h6 => ?_)
  · refine z_aload_n h0 dX0_takeRecord_11 rfl ?_
    refine z_getO h0 fO0 lk_10 dX0_takeRecord_12 (by assumption) (by assumption) ?_
    refine z_new h0 nOk1 hts (by decide +kernel) tyX1 tyX1_ok hown (hts (.classLink RX0 24 "PurseWorld$Entry") (by decide +kernel)) (hts (.instantiable RX1 3) (by decide +kernel)) (hts (.initialized RX1) (by decide +kernel)) rfl (fun j hj => by rcases (show j = 0 ∨ j = 1 ∨ j = 2 by omega) with rfl | rfl | rfl <;> rfl) (Nat.le_of_ble_eq_true rfl) (Nat.le_of_ble_eq_true rfl) dX0_takeRecord_15 (fun q15 hq15 => ?_)
    have hqk := isK_new (S := S) (q := q15) (k := 1) (n := 0)
    have hAo : AL G (sO (sI (sN S q15 1 0) 0 q15 tl) 1 q15 (some t)) b xs := AL_ent hA hq15
    refine z_dup h0 dX0_takeRecord_18 rfl ?_
    refine z_iload_n h0 dX0_takeRecord_19 rfl ?_
    refine z_aload_n h0 dX0_takeRecord_20 rfl ?_
    refine z_cIv (n := 2) (As := [_, _]) h0 hts hown (c_X1_init hqk) gX0_takeRecord_X1_init rfl (by decide +kernel) ⟨Nat.le_of_ble_eq_true rfl, Nat.le_of_ble_eq_true rfl⟩ (hts (.initialized RX1) (by decide +kernel)) (hts (.methodLink RX0 52 yX1_init) (by decide +kernel)) (hts (.instanceMethod yX1_init) (by decide +kernel)) rfl dX0_takeRecord_21 rfl rfl (Nat.le_of_ble_eq_true rfl) ⟨Nat.le_of_ble_eq_true rfl, Nat.le_of_ble_eq_true rfl⟩ (fun S21 hp21 => ?_)
    subst hp21
    refine z_cVi (n := 1) (As := [_]) h0 hts hown (c_Jx4a65c_add_9ea2d hAo hle ⟨1, by simp, hqk⟩) gX0_takeRecord_Jx4a65c_add_9ea2d rfl (by decide +kernel) ⟨Nat.le_of_ble_eq_true rfl, Nat.le_of_ble_eq_true rfl⟩ kOk7 rfl hAo.1 dX0_takeRecord_24 rfl rfl (Nat.le_of_ble_eq_true rfl) ⟨Nat.le_of_ble_eq_true rfl, Nat.le_of_ble_eq_true rfl⟩ (fun r24 S24 hp24 => ?_)
    obtain ⟨hp24, -⟩ := hp24
    refine z_pop h0 dX0_takeRecord_27 rfl ?_
    refine z_iconst (v := 1) h0 dX0_takeRecord_28 (by decide) ?_
    exact z_zret h0 hr rfl hlk dX0_takeRecord_29 (Nat.le_of_ble_eq_true rfl) (Nat.le_of_ble_eq_true rfl) (Or.inr ⟨by by_cases z : xs.any (fun x => decide (pI S 0 x = tl ∧ enT S x = tr S t)) = true <;> simp_all, rfl, q15, hq15, hp24⟩)
  · refine z_iconst (v := 0) h0 dX0_takeRecord_9 (by decide) ?_
    exact z_zret h0 hr rfl hlk dX0_takeRecord_10 (Nat.le_of_ble_eq_true rfl) (Nat.le_of_ble_eq_true rfl) (Or.inl ⟨by by_cases z : xs.any (fun x => decide (pI S 0 x = tl ∧ enT S x = tr S t)) = true <;> simp_all, rfl, rfl⟩)

end SMALL
