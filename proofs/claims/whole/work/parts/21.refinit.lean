/-! THE REFERENCE'S CONSTRUCTOR. -/
section REFINIT
section NEWROWS
variable {p : Program} {l : Launch} {e : Env} {R : Room} {s : State} {m : MethodId} {args : Array Value} {below : List Frame} {meth : Method} {c : Code} {D : va_G} {cI cZ cO : ClassId} {A : Nat → Prop} {Q : State → Prop} {X : va_W} {nL : Nat} {S : PS} {cells slots pc : Nat} {lo : List (Option Value)} {st : List Value} {cc : ByteArray} {G : Nat → Nat}
theorem z_newI (h0 : ZC p s c cc nL D cI cZ cO A G) {N' : Nat} {n : Int32} (harr : (Cond.arrayClass .int).before args s = true) (hn : n.toInt = (N' : Int)) (hb : N' ≤ 100000) (hcells : cells + 1 ≤ R.cells) (hslots : slots + N' ≤ R.slots) (hd : decode cc pc = .ok (.newarray .int, 2))
    (kk : ∀ q : Nat, q ∉ pL S → ZW p l e R s m args below meth c D cI cZ cO A Q X nL (sN S q 8 N') (cells + 1) (slots + N') (pc + 2) lo (.ref q :: st)) : ZW p l e R s m args below meth c D cI cZ cO A Q X nL S cells slots pc lo (.int n :: st) := by
  intro H locs ls hP hD hS hl9
  refine va_newa h0.1 h0.2.1 (atype := .int) harr (ty := .int) rfl h0.2.2.2.1 hP hD hS h0.2.2.2.2.1 (n := n) (N' := N') (a0 := (N', .inl (fun _ => 0))) (fun _ => rfl) (by rw [Int32.lt_iff_toInt_lt, Int32.toInt_zero]; omega) (zi_clamp hn) (by show N' * 4 ≤ _; omega) hcells hslots hd (fun q cA H1 gK g1 g2 g3 => ?_)
  have hq : q ∉ pL S := va_pl_fresh2 g2
  have hcA : cA = cI := by
    have h1 : s.vm.findClass ("[" ++ FieldType.int.toString) = some cA := (gK.2 3 (cA, .int) rfl).2
    have h2 : s.vm.findClass ("[" ++ FieldType.int.toString) = some cI := (h0.2.2.2.1.2 0 (cI, .int) rfl).2
    exact Option.some.inj (h1.symm.trans h2)
  subst hcA
  have hx : pE cA cZ cO (sN S q 8 N') 8 q = .inl (cA, N', .inl (fun _ => 0)) := by simp [pE, sN, pN, pR, va_up_self]
  rw [zN_eq hx hq] at g1 g2
  exact kk q hq H1 locs ls g1 g2 g3 hl9
theorem z_newZ (h0 : ZC p s c cc nL D cI cZ cO A G) {N' : Nat} {n : Int32} (harr : (Cond.arrayClass .boolean).before args s = true) (hn : n.toInt = (N' : Int)) (hb : N' ≤ 100000) (hcells : cells + 1 ≤ R.cells) (hslots : slots + N' ≤ R.slots) (hd : decode cc pc = .ok (.newarray .boolean, 2))
    (kk : ∀ q : Nat, q ∉ pL S → ZW p l e R s m args below meth c D cI cZ cO A Q X nL (sN S q 9 N') (cells + 1) (slots + N') (pc + 2) lo (.ref q :: st)) : ZW p l e R s m args below meth c D cI cZ cO A Q X nL S cells slots pc lo (.int n :: st) := by
  intro H locs ls hP hD hS hl9
  refine va_newa h0.1 h0.2.1 (atype := .boolean) harr (ty := .boolean) rfl h0.2.2.2.1 hP hD hS h0.2.2.2.2.1 (n := n) (N' := N') (a0 := (N', .inl (fun _ => 0))) (fun _ => rfl) (by rw [Int32.lt_iff_toInt_lt, Int32.toInt_zero]; omega) (zi_clamp hn) (by show N' * 1 ≤ _; omega) hcells hslots hd (fun q cA H1 gK g1 g2 g3 => ?_)
  have hq : q ∉ pL S := va_pl_fresh2 g2
  have hcA : cA = cZ := by
    have h1 : s.vm.findClass ("[" ++ FieldType.boolean.toString) = some cA := (gK.2 3 (cA, .boolean) rfl).2
    have h2 : s.vm.findClass ("[" ++ FieldType.boolean.toString) = some cZ := (h0.2.2.2.1.2 1 (cZ, .boolean) rfl).2
    exact Option.some.inj (h1.symm.trans h2)
  subst hcA
  have hx : pE cI cA cO (sN S q 9 N') 9 q = .inl (cA, N', .inl (fun _ => 0)) := by simp [pE, sN, pN, pR, va_up_self]
  rw [zN_eq hx hq] at g1 g2
  exact kk q hq H1 locs ls g1 g2 g3 hl9
end NEWROWS
/-- what was there is as it was, but for m; new are int[] and boolean[] alone -/
def Ext (S S' : PS) (m : Nat) : Prop := (∀ b ∈ pL S, b ∈ pL S' ∧ pK S' b = pK S b ∧ pN S' b = pN S b ∧ pR S' b = pR S b ∧ pQ S' b = pQ S b ∧ (b ≠ m → ∀ f, pI S' f b = pI S f b ∧ pO S' f b = pO S f b)) ∧ ∀ b ∈ pL S', b ∈ pL S ∨ pK S' b = 8 ∨ pK S' b = 9
/-- the first k arrays stand -/
def IN (k : Nat) (S S1 : PS) (m : Nat) (A : Nat → Nat) : Prop := isK S1 6 m ∧ (∀ f, 15 ≤ f → f < 19 → pI S1 f m = 0) ∧ (∀ j, j < k → pO S1 (10 + j) m = some (A j) ∧ isK S1 (rKd j) (A j) ∧ pN S1 (A j) = rLen j ∧ pR S1 (A j) = fun _ => 0) ∧ (∀ i j, i < k → j < k → A i = A j → i = j) ∧ Ext S S1 m
theorem rKd_89 (k : Nat) : rKd k = 8 ∨ rKd k = 9 := by unfold rKd; split <;> simp
theorem IN_step {k q : Nat} {S S1 : PS} {m : Nat} {A : Nat → Nat} (h : IN k S S1 m A) (hq : q ∉ pL S1) (kd n : Nat) (hkd : kd = rKd k) (hn : n = rLen k) (f : Nat) (hf : f = 10 + k) : IN (k + 1) S (sO (sN S1 q kd n) f m (some q)) m (va_up A k q) := by
  subst hkd; subst hn; subst hf
  obtain ⟨h1, h2, h3, h4, h5, h6⟩ := h
  have hm : m ≠ q := isK_ne h1 hq
  have hA : ∀ j, j < k → A j ≠ q := fun j hj => isK_ne (h3 j hj).2.1 hq
  refine ⟨isK_old (n := rLen k) h1 hq, fun f g1 g2 => ?_, fun j hj => ?_, fun i j hi hj e => ?_, fun b hb => ?_, fun b hb => ?_⟩
  · show upA (pI S1) q 0 f m = 0
    rw [upA_a _ _ _ hm]; exact h2 f g1 g2
  · by_cases hjk : j = k
    · subst hjk
      rw [va_up_self]
      exact ⟨up2_s _ _ _ _, isK_new (n := rLen j), va_up_self _ _ _, va_up_self _ _ _⟩
    · rw [va_up_ne _ _ hjk]
      obtain ⟨g1, g2, g3, g4⟩ := h3 j (by omega)
      refine ⟨?_, isK_old (n := rLen k) g2 hq, (va_up_ne _ _ (hA j (by omega))).trans g3, (va_up_ne _ _ (hA j (by omega))).trans g4⟩
      show up2 (upA (pO S1) q none) (10 + k) m (some q) (10 + j) m = _
      rw [up2_f _ _ _ _ (by omega), upA_a _ _ _ hm]; exact g1
  · by_cases hik : i = k
    · by_cases hjk : j = k
      · omega
      · subst hik; rw [va_up_self, va_up_ne _ _ hjk] at e; exact absurd e.symm (hA j (by omega))
    · by_cases hjk : j = k
      · subst hjk; rw [va_up_self, va_up_ne _ _ hik] at e; exact absurd e (hA i (by omega))
      · rw [va_up_ne _ _ hik, va_up_ne _ _ hjk] at e; exact h4 i j (by omega) (by omega) e
  · obtain ⟨g1, g2, g3, g4, g5, g6⟩ := h5 b hb
    have hbq : b ≠ q := fun z => hq (z ▸ g1)
    refine ⟨List.mem_append_left _ g1, (va_up_ne _ _ hbq).trans g2, (va_up_ne _ _ hbq).trans g3, (va_up_ne _ _ hbq).trans g4, (va_up_ne _ _ hbq).trans g5, fun hbm f => ⟨?_, ?_⟩⟩
    · show upA (pI S1) q 0 f b = _
      rw [upA_a _ _ _ hbq]; exact (g6 hbm f).1
    · show up2 (upA (pO S1) q none) (10 + k) m (some q) f b = _
      rw [up2_a _ _ _ _ hbm, upA_a _ _ _ hbq]; exact (g6 hbm f).2
  · rcases List.mem_append.mp hb with hb | hb
    · have hbq : b ≠ q := fun z => hq (z ▸ hb)
      rcases h6 b hb with g | g
      · exact Or.inl g
      · right; rw [show pK (sN S1 q (rKd k) (rLen k)) b = pK S1 b from va_up_ne _ _ hbq]; exact g
    · rw [List.mem_singleton] at hb; subst hb
      right; rw [show pK (sN S1 b (rKd k) (rLen k)) b = rKd k from va_up_self _ _ _]; exact rKd_89 k
/-- the state at the start -/
def M0 : MS := (0, 0, 0, fun _ _ => 0, fun _ => (0, 0, 0, 0, 0))
theorem IN_done {S S1 : PS} {m : Nat} {A : Nat → Nat} (h : IN 10 S S1 m A) : RX S1 S1 m A M0 := by
  obtain ⟨h1, h2, h3, h4, -⟩ := h
  refine ⟨h1, fun k hk => (h3 k hk).1, fun k hk => (h3 k hk).2.1, fun k hk => (h3 k hk).2.2.1, fun j k hj hk e => h4 j k hj hk e, ⟨h2 16 (by omega) (by omega), h2 17 (by omega) (by omega), h2 18 (by omega) (by omega)⟩, fun k j hk => ?_, fun p k hk => ?_, rfl, rfl, rfl, rfl, rfl, fun _ _ _ => rfl⟩
  · rw [(h3 k (by omega)).2.2.2]; rfl
  · rw [(h3 9 (by omega)).2.2.2]
    rcases (show k = 0 ∨ k = 1 ∨ k = 2 ∨ k = 3 ∨ k = 4 by omega) with rfl | rfl | rfl | rfl | rfl <;> rfl

abbrev rm_X6_init : Room := { frames := 1, cells := 10, slots := 12408, locals := 20 }
set_option maxRecDepth 100000 in
set_option maxHeartbeats 4000000 in
theorem c_X6_init {l : Launch} {D : va_G} {cI cZ cO : ClassId} {G : Nat → Nat} {S : PS} {m : Nat} (hm : isK S 6 m) (hz : ∀ f, 15 ≤ f → f < 19 → pI S f m = 0) : zMv l yX6_init wsX6_init rm_X6_init [.ref m] D cI cZ cO G S (fun S' => ∃ A, RX S' S' m A M0 ∧ Ext S S' m) := by
  refine z_of (cc := cX6_init) (maxL := 1) (ret := none) (lo := [some (.ref m)]) (by decide) rfl rfl (Nat.le_of_ble_eq_true rfl) rfl ?_
  intro pp ee ss mi aa bl mh cd h0 hts hown hr hlk hnm
  have hown : ss.vm.findClass RX6 = some mi.cls := hown
  have inX6 : ∀ w ∈ u_ws RX6 TX6 14, w ∈ wsX6_init := by decide +kernel
  have lp_7 : zLp ss mi aa mh RX6 7 7 2 (.array .int) := ⟨RX6, TX6, 14, "PurseWorldModel", wsX6_init, tyX6, rfl, by decide, hts, inX6, hown, hts (.fieldLink RX6 7 "PurseWorldModel" "balances" "[I") (by decide +kernel), fun _ h => h, tyX6_ok, nmX6, by decide +kernel, Or.inr ⟨rfl, hnm, rfl⟩⟩
  have lp_13 : zLp ss mi aa mh RX6 13 7 3 (.array .int) := ⟨RX6, TX6, 14, "PurseWorldModel", wsX6_init, tyX6, rfl, by decide, hts, inX6, hown, hts (.fieldLink RX6 13 "PurseWorldModel" "serials" "[I") (by decide +kernel), fun _ h => h, tyX6_ok, nmX6, by decide +kernel, Or.inr ⟨rfl, hnm, rfl⟩⟩
  have lp_16 : zLp ss mi aa mh RX6 16 7 4 (.array .int) := ⟨RX6, TX6, 14, "PurseWorldModel", wsX6_init, tyX6, rfl, by decide, hts, inX6, hown, hts (.fieldLink RX6 16 "PurseWorldModel" "states" "[I") (by decide +kernel), fun _ h => h, tyX6_ok, nmX6, by decide +kernel, Or.inr ⟨rfl, hnm, rfl⟩⟩
  have lp_19 : zLp ss mi aa mh RX6 19 7 5 (.array .int) := ⟨RX6, TX6, 14, "PurseWorldModel", wsX6_init, tyX6, rfl, by decide, hts, inX6, hown, hts (.fieldLink RX6 19 "PurseWorldModel" "logSize" "[I") (by decide +kernel), fun _ h => h, tyX6_ok, nmX6, by decide +kernel, Or.inr ⟨rfl, hnm, rfl⟩⟩
  have lp_22 : zLp ss mi aa mh RX6 22 7 7 (.array .int) := ⟨RX6, TX6, 14, "PurseWorldModel", wsX6_init, tyX6, rfl, by decide, hts, inX6, hown, hts (.fieldLink RX6 22 "PurseWorldModel" "kinds" "[I") (by decide +kernel), fun _ h => h, tyX6_ok, nmX6, by decide +kernel, Or.inr ⟨rfl, hnm, rfl⟩⟩
  have lp_25 : zLp ss mi aa mh RX6 25 7 8 (.array .int) := ⟨RX6, TX6, 14, "PurseWorldModel", wsX6_init, tyX6, rfl, by decide, hts, inX6, hown, hts (.fieldLink RX6 25 "PurseWorldModel" "targets" "[I") (by decide +kernel), fun _ h => h, tyX6_ok, nmX6, by decide +kernel, Or.inr ⟨rfl, hnm, rfl⟩⟩
  have lp_28 : zLp ss mi aa mh RX6 28 7 9 (.array .int) := ⟨RX6, TX6, 14, "PurseWorldModel", wsX6_init, tyX6, rfl, by decide, hts, inX6, hown, hts (.fieldLink RX6 28 "PurseWorldModel" "of" "[I") (by decide +kernel), fun _ h => h, tyX6_ok, nmX6, by decide +kernel, Or.inr ⟨rfl, hnm, rfl⟩⟩
  have lp_31 : zLp ss mi aa mh RX6 31 7 11 (.array .int) := ⟨RX6, TX6, 14, "PurseWorldModel", wsX6_init, tyX6, rfl, by decide, hts, inX6, hown, hts (.fieldLink RX6 31 "PurseWorldModel" "tellers" "[I") (by decide +kernel), fun _ h => h, tyX6_ok, nmX6, by decide +kernel, Or.inr ⟨rfl, hnm, rfl⟩⟩
  have lp_34 : zLp ss mi aa mh RX6 34 7 12 (.array .boolean) := ⟨RX6, TX6, 14, "PurseWorldModel", wsX6_init, tyX6, rfl, by decide, hts, inX6, hown, hts (.fieldLink RX6 34 "PurseWorldModel" "refunded" "[Z") (by decide +kernel), fun _ h => h, tyX6_ok, nmX6, by decide +kernel, Or.inr ⟨rfl, hnm, rfl⟩⟩
  have lp_38 : zLp ss mi aa mh RX6 38 7 13 (.array .int) := ⟨RX6, TX6, 14, "PurseWorldModel", wsX6_init, tyX6, rfl, by decide, hts, inX6, hown, hts (.fieldLink RX6 38 "PurseWorldModel" "transfers" "[I") (by decide +kernel), fun _ h => h, tyX6_ok, nmX6, by decide +kernel, Or.inr ⟨rfl, hnm, rfl⟩⟩
  have hI : IN 0 S S m (fun _ => 0) := ⟨hm, hz, fun j hj => absurd hj (Nat.not_lt_zero _), fun i j hi => absurd hi (Nat.not_lt_zero _), fun b hb => ⟨hb, rfl, rfl, rfl, rfl, fun _ _ => ⟨rfl, rfl⟩⟩, fun b hb => Or.inl hb⟩
  refine z_aload_n h0 dX6_init_0 rfl ?_
  refine z_objInit h0 hown (hts (.methodLink RX6 1 objectInit) (by decide +kernel)) (hts (.instanceMethod objectInit) (by decide +kernel)) (hts (.code objectInit ⟨#[0xb1]⟩ 1 none) (by decide +kernel)) dX6_init_1 (Nat.le_of_ble_eq_true rfl) (Nat.le_of_ble_eq_true rfl) ?_
  refine z_aload_n h0 dX6_init_4 rfl ?_
  refine z_bipush (v := 12) h0 dX6_init_5 (by decide) ?_
  refine z_newI h0 (hts (.arrayClass .int) (by decide +kernel)) (N' := 12) (by decide) (Nat.le_of_ble_eq_true rfl) (Nat.le_of_ble_eq_true rfl) (Nat.le_of_ble_eq_true rfl) dX6_init_7 (fun q7 hq7 => ?_)
  have hi6 : isK (sN _ q7 8 12) 6 m := isK_old hI.1 hq7
  refine z_putO h0 fO10 lp_7 dX6_init_9 hi6 rfl rfl ?_
  have hI := IN_step hI hq7 8 12 rfl rfl 10 rfl
  generalize hS7 : (sO (sN _ q7 8 12) 10 m (some q7) : PS) = S7 at hI ⊢
  refine z_aload_n h0 dX6_init_12 rfl ?_
  refine z_bipush (v := 12) h0 dX6_init_13 (by decide) ?_
  refine z_newI h0 (hts (.arrayClass .int) (by decide +kernel)) (N' := 12) (by decide) (Nat.le_of_ble_eq_true rfl) (Nat.le_of_ble_eq_true rfl) (Nat.le_of_ble_eq_true rfl) dX6_init_15 (fun q15 hq15 => ?_)
  have hi6 : isK (sN _ q15 8 12) 6 m := isK_old hI.1 hq15
  refine z_putO h0 fO11 lp_13 dX6_init_17 hi6 rfl rfl ?_
  have hI := IN_step hI hq15 8 12 rfl rfl 11 rfl
  generalize hS15 : (sO (sN _ q15 8 12) 11 m (some q15) : PS) = S15 at hI ⊢
  refine z_aload_n h0 dX6_init_20 rfl ?_
  refine z_bipush (v := 12) h0 dX6_init_21 (by decide) ?_
  refine z_newI h0 (hts (.arrayClass .int) (by decide +kernel)) (N' := 12) (by decide) (Nat.le_of_ble_eq_true rfl) (Nat.le_of_ble_eq_true rfl) (Nat.le_of_ble_eq_true rfl) dX6_init_23 (fun q23 hq23 => ?_)
  have hi6 : isK (sN _ q23 8 12) 6 m := isK_old hI.1 hq23
  refine z_putO h0 fO12 lp_16 dX6_init_25 hi6 rfl rfl ?_
  have hI := IN_step hI hq23 8 12 rfl rfl 12 rfl
  generalize hS23 : (sO (sN _ q23 8 12) 12 m (some q23) : PS) = S23 at hI ⊢
  refine z_aload_n h0 dX6_init_28 rfl ?_
  refine z_bipush (v := 12) h0 dX6_init_29 (by decide) ?_
  refine z_newI h0 (hts (.arrayClass .int) (by decide +kernel)) (N' := 12) (by decide) (Nat.le_of_ble_eq_true rfl) (Nat.le_of_ble_eq_true rfl) (Nat.le_of_ble_eq_true rfl) dX6_init_31 (fun q31 hq31 => ?_)
  have hi6 : isK (sN _ q31 8 12) 6 m := isK_old hI.1 hq31
  refine z_putO h0 fO13 lp_19 dX6_init_33 hi6 rfl rfl ?_
  have hI := IN_step hI hq31 8 12 rfl rfl 13 rfl
  generalize hS31 : (sO (sN _ q31 8 12) 13 m (some q31) : PS) = S31 at hI ⊢
  refine z_aload_n h0 dX6_init_36 rfl ?_
  refine z_sipush (v := 800) h0 dX6_init_37 (by decide) ?_
  refine z_newI h0 (hts (.arrayClass .int) (by decide +kernel)) (N' := 800) (by decide) (Nat.le_of_ble_eq_true rfl) (Nat.le_of_ble_eq_true rfl) (Nat.le_of_ble_eq_true rfl) dX6_init_40 (fun q40 hq40 => ?_)
  have hi6 : isK (sN _ q40 8 800) 6 m := isK_old hI.1 hq40
  refine z_putO h0 fO14 lp_22 dX6_init_42 hi6 rfl rfl ?_
  have hI := IN_step hI hq40 8 800 rfl rfl 14 rfl
  generalize hS40 : (sO (sN _ q40 8 800) 14 m (some q40) : PS) = S40 at hI ⊢
  refine z_aload_n h0 dX6_init_45 rfl ?_
  refine z_sipush (v := 800) h0 dX6_init_46 (by decide) ?_
  refine z_newI h0 (hts (.arrayClass .int) (by decide +kernel)) (N' := 800) (by decide) (Nat.le_of_ble_eq_true rfl) (Nat.le_of_ble_eq_true rfl) (Nat.le_of_ble_eq_true rfl) dX6_init_49 (fun q49 hq49 => ?_)
  have hi6 : isK (sN _ q49 8 800) 6 m := isK_old hI.1 hq49
  refine z_putO h0 fO15 lp_25 dX6_init_51 hi6 rfl rfl ?_
  have hI := IN_step hI hq49 8 800 rfl rfl 15 rfl
  generalize hS49 : (sO (sN _ q49 8 800) 15 m (some q49) : PS) = S49 at hI ⊢
  refine z_aload_n h0 dX6_init_54 rfl ?_
  refine z_sipush (v := 800) h0 dX6_init_55 (by decide) ?_
  refine z_newI h0 (hts (.arrayClass .int) (by decide +kernel)) (N' := 800) (by decide) (Nat.le_of_ble_eq_true rfl) (Nat.le_of_ble_eq_true rfl) (Nat.le_of_ble_eq_true rfl) dX6_init_58 (fun q58 hq58 => ?_)
  have hi6 : isK (sN _ q58 8 800) 6 m := isK_old hI.1 hq58
  refine z_putO h0 fO16 lp_28 dX6_init_60 hi6 rfl rfl ?_
  have hI := IN_step hI hq58 8 800 rfl rfl 16 rfl
  generalize hS58 : (sO (sN _ q58 8 800) 16 m (some q58) : PS) = S58 at hI ⊢
  refine z_aload_n h0 dX6_init_63 rfl ?_
  refine z_sipush (v := 800) h0 dX6_init_64 (by decide) ?_
  refine z_newI h0 (hts (.arrayClass .int) (by decide +kernel)) (N' := 800) (by decide) (Nat.le_of_ble_eq_true rfl) (Nat.le_of_ble_eq_true rfl) (Nat.le_of_ble_eq_true rfl) dX6_init_67 (fun q67 hq67 => ?_)
  have hi6 : isK (sN _ q67 8 800) 6 m := isK_old hI.1 hq67
  refine z_putO h0 fO17 lp_31 dX6_init_69 hi6 rfl rfl ?_
  have hI := IN_step hI hq67 8 800 rfl rfl 17 rfl
  generalize hS67 : (sO (sN _ q67 8 800) 17 m (some q67) : PS) = S67 at hI ⊢
  refine z_aload_n h0 dX6_init_72 rfl ?_
  refine z_sipush (v := 800) h0 dX6_init_73 (by decide) ?_
  refine z_newZ h0 (hts (.arrayClass .boolean) (by decide +kernel)) (N' := 800) (by decide) (Nat.le_of_ble_eq_true rfl) (Nat.le_of_ble_eq_true rfl) (Nat.le_of_ble_eq_true rfl) dX6_init_76 (fun q76 hq76 => ?_)
  have hi6 : isK (sN _ q76 9 800) 6 m := isK_old hI.1 hq76
  refine z_putO h0 fO18 lp_34 dX6_init_78 hi6 rfl rfl ?_
  have hI := IN_step hI hq76 9 800 rfl rfl 18 rfl
  generalize hS76 : (sO (sN _ q76 9 800) 18 m (some q76) : PS) = S76 at hI ⊢
  refine z_aload_n h0 dX6_init_81 rfl ?_
  refine z_sipush (v := 8360) h0 dX6_init_82 (by decide) ?_
  refine z_newI h0 (hts (.arrayClass .int) (by decide +kernel)) (N' := 8360) (by decide) (Nat.le_of_ble_eq_true rfl) (Nat.le_of_ble_eq_true rfl) (Nat.le_of_ble_eq_true rfl) dX6_init_85 (fun q85 hq85 => ?_)
  have hi6 : isK (sN _ q85 8 8360) 6 m := isK_old hI.1 hq85
  refine z_putO h0 fO19 lp_38 dX6_init_87 hi6 rfl rfl ?_
  have hI := IN_step hI hq85 8 8360 rfl rfl 19 rfl
  generalize hS85 : (sO (sN _ q85 8 8360) 19 m (some q85) : PS) = S85 at hI ⊢
  exact z_vret h0 hr hlk dX6_init_90 (Nat.le_of_ble_eq_true rfl) (Nat.le_of_ble_eq_true rfl) ⟨_, IN_done hI, hI.2.2.2.2⟩

end REFINIT
