/-! LEAVES: transfers, the list's reads. -/
section LEAVES
abbrev T5 : Type := Int32 × Int32 × Int32 × Int32 × Int32
/-- what a transfer holds -/
def tr (S : PS) (t : Nat) : T5 := (pI S 10 t, pI S 11 t, pI S 12 t, pI S 13 t, pI S 14 t)

abbrev rm_X4_same : Room := { frames := 0, cells := 0, slots := 0, locals := 0 }
set_option maxRecDepth 100000 in
set_option maxHeartbeats 4000000 in
theorem c_X4_same {l : Launch} {D : va_G} {cI cZ cO : ClassId} {G : Nat → Nat} {S : PS} {a b : Nat} (ha : isK S 4 a) (hb : isK S 4 b) : zMi l yX4_same wsX4_same rm_X4_same [.ref a, .ref b] D cI cZ cO G S (fun r S' => S = S' ∧ r = if tr S a = tr S b then 1 else 0) := by
  refine z_of (cc := cX4_same) (maxL := 2) (ret := (some .boolean)) (lo := [some (.ref a), some (.ref b)]) (by decide) rfl rfl (Nat.le_of_ble_eq_true rfl) rfl ?_
  intro pp ee ss mi aa bl mh cd h0 hts hown hr hlk hnm
  have hown : ss.vm.findClass RX4 = some mi.cls := hown
  have inX4 : ∀ w ∈ u_ws RX4 TX4 5, w ∈ wsX4_same := by decide +kernel
  have lk_7 : zLk ss mi aa RX4 7 5 0 := ⟨RX4, TX4, 5, "PurseWorld$Transfer", wsX4_same, rfl, by decide, hts, inX4, hown, hts (.fieldLink RX4 7 "PurseWorld$Transfer" "payer" "I") (by decide +kernel), fun _ h => h⟩
  have lk_13 : zLk ss mi aa RX4 13 5 1 := ⟨RX4, TX4, 5, "PurseWorld$Transfer", wsX4_same, rfl, by decide, hts, inX4, hown, hts (.fieldLink RX4 13 "PurseWorld$Transfer" "payerSerial" "I") (by decide +kernel), fun _ h => h⟩
  have lk_16 : zLk ss mi aa RX4 16 5 2 := ⟨RX4, TX4, 5, "PurseWorld$Transfer", wsX4_same, rfl, by decide, hts, inX4, hown, hts (.fieldLink RX4 16 "PurseWorld$Transfer" "payee" "I") (by decide +kernel), fun _ h => h⟩
  have lk_19 : zLk ss mi aa RX4 19 5 3 := ⟨RX4, TX4, 5, "PurseWorld$Transfer", wsX4_same, rfl, by decide, hts, inX4, hown, hts (.fieldLink RX4 19 "PurseWorld$Transfer" "payeeSerial" "I") (by decide +kernel), fun _ h => h⟩
  have lk_22 : zLk ss mi aa RX4 22 5 4 := ⟨RX4, TX4, 5, "PurseWorld$Transfer", wsX4_same, rfl, by decide, hts, inX4, hown, hts (.fieldLink RX4 22 "PurseWorld$Transfer" "amount" "I") (by decide +kernel), fun _ h => h⟩
  refine z_aload_n h0 dX4_same_0 rfl ?_
  refine z_getI h0 fI10 lk_7 dX4_same_1 (by assumption) ?_
  refine z_aload_n h0 dX4_same_4 rfl ?_
  refine z_getI h0 fI10 lk_7 dX4_same_5 (by assumption) ?_
  refine z_icmp_ne (tgt := 59) h0 dX4_same_8 (by decide) (fun h8 => ?_) (fun h8 => ?_)
  · refine z_iconst (v := 0) h0 dX4_same_59 (by decide) ?_
    exact z_zret h0 hr rfl hlk dX4_same_60 (Nat.le_of_ble_eq_true rfl) (Nat.le_of_ble_eq_true rfl) ⟨rfl, by simp_all [tr]⟩
  · refine z_aload_n h0 dX4_same_11 rfl ?_
    refine z_getI h0 fI11 lk_13 dX4_same_12 (by assumption) ?_
    refine z_aload_n h0 dX4_same_15 rfl ?_
    refine z_getI h0 fI11 lk_13 dX4_same_16 (by assumption) ?_
    refine z_icmp_ne (tgt := 59) h0 dX4_same_19 (by decide) (fun h19 => ?_) (fun h19 => ?_)
    · refine z_iconst (v := 0) h0 dX4_same_59 (by decide) ?_
      exact z_zret h0 hr rfl hlk dX4_same_60 (Nat.le_of_ble_eq_true rfl) (Nat.le_of_ble_eq_true rfl) ⟨rfl, by simp_all [tr]⟩
    · refine z_aload_n h0 dX4_same_22 rfl ?_
      refine z_getI h0 fI12 lk_16 dX4_same_23 (by assumption) ?_
      refine z_aload_n h0 dX4_same_26 rfl ?_
      refine z_getI h0 fI12 lk_16 dX4_same_27 (by assumption) ?_
      refine z_icmp_ne (tgt := 59) h0 dX4_same_30 (by decide) (fun h30 => ?_) (fun h30 => ?_)
      · refine z_iconst (v := 0) h0 dX4_same_59 (by decide) ?_
        exact z_zret h0 hr rfl hlk dX4_same_60 (Nat.le_of_ble_eq_true rfl) (Nat.le_of_ble_eq_true rfl) ⟨rfl, by simp_all [tr]⟩
      · refine z_aload_n h0 dX4_same_33 rfl ?_
        refine z_getI h0 fI13 lk_19 dX4_same_34 (by assumption) ?_
        refine z_aload_n h0 dX4_same_37 rfl ?_
        refine z_getI h0 fI13 lk_19 dX4_same_38 (by assumption) ?_
        refine z_icmp_ne (tgt := 59) h0 dX4_same_41 (by decide) (fun h41 => ?_) (fun h41 => ?_)
        · refine z_iconst (v := 0) h0 dX4_same_59 (by decide) ?_
          exact z_zret h0 hr rfl hlk dX4_same_60 (Nat.le_of_ble_eq_true rfl) (Nat.le_of_ble_eq_true rfl) ⟨rfl, by simp_all [tr]⟩
        · refine z_aload_n h0 dX4_same_44 rfl ?_
          refine z_getI h0 fI14 lk_22 dX4_same_45 (by assumption) ?_
          refine z_aload_n h0 dX4_same_48 rfl ?_
          refine z_getI h0 fI14 lk_22 dX4_same_49 (by assumption) ?_
          refine z_icmp_ne (tgt := 59) h0 dX4_same_52 (by decide) (fun h52 => ?_) (fun h52 => ?_)
          · refine z_iconst (v := 0) h0 dX4_same_59 (by decide) ?_
            exact z_zret h0 hr rfl hlk dX4_same_60 (Nat.le_of_ble_eq_true rfl) (Nat.le_of_ble_eq_true rfl) ⟨rfl, by simp_all [tr]⟩
          · refine z_iconst (v := 1) h0 dX4_same_55 (by decide) ?_
            refine z_goto (tgt := 60) h0 dX4_same_56 (by decide) ?_
            exact z_zret h0 hr rfl hlk dX4_same_60 (Nat.le_of_ble_eq_true rfl) (Nat.le_of_ble_eq_true rfl) ⟨rfl, by simp_all [tr]⟩

abbrev rm_X4_init : Room := { frames := 1, cells := 0, slots := 0, locals := 20 }
set_option maxRecDepth 100000 in
set_option maxHeartbeats 4000000 in
theorem c_X4_init {l : Launch} {D : va_G} {cI cZ cO : ClassId} {G : Nat → Nat} {S : PS} {a : Nat} {x1 x2 x3 x4 x5 : Int32} (ha : isK S 4 a) : zMv l yX4_init wsX4_init rm_X4_init [.ref a, .int x1, .int x2, .int x3, .int x4, .int x5] D cI cZ cO G S (fun S' => S' = sI (sI (sI (sI (sI S 10 a x1) 11 a x2) 12 a x3) 13 a x4) 14 a x5) := by
  refine z_of (cc := cX4_init) (maxL := 6) (ret := none) (lo := [some (.ref a), some (.int x1), some (.int x2), some (.int x3), some (.int x4), some (.int x5)]) (by decide) rfl rfl (Nat.le_of_ble_eq_true rfl) rfl ?_
  intro pp ee ss mi aa bl mh cd h0 hts hown hr hlk hnm
  have hown : ss.vm.findClass RX4 = some mi.cls := hown
  have inX4 : ∀ w ∈ u_ws RX4 TX4 5, w ∈ wsX4_init := by decide +kernel
  have lp_7 : zLp ss mi aa mh RX4 7 5 0 .int := ⟨RX4, TX4, 5, "PurseWorld$Transfer", wsX4_init, tyX4, rfl, by decide, hts, inX4, hown, hts (.fieldLink RX4 7 "PurseWorld$Transfer" "payer" "I") (by decide +kernel), fun _ h => h, tyX4_ok, nmX4, by decide +kernel, Or.inr ⟨rfl, hnm, rfl⟩⟩
  have lp_13 : zLp ss mi aa mh RX4 13 5 1 .int := ⟨RX4, TX4, 5, "PurseWorld$Transfer", wsX4_init, tyX4, rfl, by decide, hts, inX4, hown, hts (.fieldLink RX4 13 "PurseWorld$Transfer" "payerSerial" "I") (by decide +kernel), fun _ h => h, tyX4_ok, nmX4, by decide +kernel, Or.inr ⟨rfl, hnm, rfl⟩⟩
  have lp_16 : zLp ss mi aa mh RX4 16 5 2 .int := ⟨RX4, TX4, 5, "PurseWorld$Transfer", wsX4_init, tyX4, rfl, by decide, hts, inX4, hown, hts (.fieldLink RX4 16 "PurseWorld$Transfer" "payee" "I") (by decide +kernel), fun _ h => h, tyX4_ok, nmX4, by decide +kernel, Or.inr ⟨rfl, hnm, rfl⟩⟩
  have lp_19 : zLp ss mi aa mh RX4 19 5 3 .int := ⟨RX4, TX4, 5, "PurseWorld$Transfer", wsX4_init, tyX4, rfl, by decide, hts, inX4, hown, hts (.fieldLink RX4 19 "PurseWorld$Transfer" "payeeSerial" "I") (by decide +kernel), fun _ h => h, tyX4_ok, nmX4, by decide +kernel, Or.inr ⟨rfl, hnm, rfl⟩⟩
  have lp_22 : zLp ss mi aa mh RX4 22 5 4 .int := ⟨RX4, TX4, 5, "PurseWorld$Transfer", wsX4_init, tyX4, rfl, by decide, hts, inX4, hown, hts (.fieldLink RX4 22 "PurseWorld$Transfer" "amount" "I") (by decide +kernel), fun _ h => h, tyX4_ok, nmX4, by decide +kernel, Or.inr ⟨rfl, hnm, rfl⟩⟩
  refine z_aload_n h0 dX4_init_0 rfl ?_
  refine z_objInit h0 hown (hts (.methodLink RX4 1 objectInit) (by decide +kernel)) (hts (.instanceMethod objectInit) (by decide +kernel)) (hts (.code objectInit ⟨#[0xb1]⟩ 1 none) (by decide +kernel)) dX4_init_1 (Nat.le_of_ble_eq_true rfl) (Nat.le_of_ble_eq_true rfl) ?_
  refine z_aload_n h0 dX4_init_4 rfl ?_
  refine z_iload_n h0 dX4_init_5 rfl ?_
  refine z_putI h0 fI10 lp_7 dX4_init_6 (by assumption) rfl rfl ?_
  refine z_aload_n h0 dX4_init_9 rfl ?_
  refine z_iload_n h0 dX4_init_10 rfl ?_
  refine z_putI h0 fI11 lp_13 dX4_init_11 (by assumption) rfl rfl ?_
  refine z_aload_n h0 dX4_init_14 rfl ?_
  refine z_iload_n h0 dX4_init_15 rfl ?_
  refine z_putI h0 fI12 lp_16 dX4_init_16 (by assumption) rfl rfl ?_
  refine z_aload_n h0 dX4_init_19 rfl ?_
  refine z_iload h0 dX4_init_20 rfl ?_
  refine z_putI h0 fI13 lp_19 dX4_init_22 (by assumption) rfl rfl ?_
  refine z_aload_n h0 dX4_init_25 rfl ?_
  refine z_iload h0 dX4_init_26 rfl ?_
  refine z_putI h0 fI14 lp_22 dX4_init_28 (by assumption) rfl rfl ?_
  exact z_vret h0 hr hlk dX4_init_31 (Nat.le_of_ble_eq_true rfl) (Nat.le_of_ble_eq_true rfl) rfl

abbrev rm_Jx4a65c_size_8abf5 : Room := { frames := 0, cells := 0, slots := 0, locals := 0 }
set_option maxRecDepth 100000 in
set_option maxHeartbeats 4000000 in
theorem c_Jx4a65c_size_8abf5 {l : Launch} {D : va_G} {cI cZ cO : ClassId} {G : Nat → Nat} {S : PS} {a : Nat} (ha : isK S 7 a) : zMi l yJx4a65c_size_8abf5 wsJx4a65c_size_8abf5 rm_Jx4a65c_size_8abf5 [.ref a] D cI cZ cO G S (fun r S' => S = S' ∧ r = pI S 20 a) := by
  refine z_of (cc := cJx4a65c_size_8abf5) (maxL := 1) (ret := (some .int)) (lo := [some (.ref a)]) (by decide) rfl rfl (Nat.le_of_ble_eq_true rfl) rfl ?_
  intro pp ee ss mi aa bl mh cd h0 hts hown hr hlk hnm
  have hown : ss.vm.findClass RJx4a65c = some mi.cls := hown
  have inJx4a65c : ∀ w ∈ u_ws RJx4a65c TJx4a65c 3, w ∈ wsJx4a65c_size_8abf5 := by decide +kernel
  have lk_48 : zLk ss mi aa RJx4a65c 48 0 2 := ⟨RJx4a65c, TJx4a65c, 3, "java/util/ArrayList", wsJx4a65c_size_8abf5, rfl, by decide, hts, inJx4a65c, hown, hts (.fieldLink RJx4a65c 48 "java/util/ArrayList" "size" "I") (by decide +kernel), fun _ h => h⟩
  refine z_aload_n h0 dJx4a65c_size_8abf5_0 rfl ?_
  refine z_getI h0 fI20 lk_48 dJx4a65c_size_8abf5_1 (by assumption) ?_
  exact z_iret h0 hr hlk dJx4a65c_size_8abf5_4 (Nat.le_of_ble_eq_true rfl) (Nat.le_of_ble_eq_true rfl) ⟨rfl, rfl⟩

abbrev rm_Jx4a65c_isEmpty_aae02 : Room := { frames := 0, cells := 0, slots := 0, locals := 0 }
set_option maxRecDepth 100000 in
set_option maxHeartbeats 4000000 in
theorem c_Jx4a65c_isEmpty_aae02 {l : Launch} {D : va_G} {cI cZ cO : ClassId} {G : Nat → Nat} {S : PS} {a : Nat} (ha : isK S 7 a) : zMi l yJx4a65c_isEmpty_aae02 wsJx4a65c_isEmpty_aae02 rm_Jx4a65c_isEmpty_aae02 [.ref a] D cI cZ cO G S (fun r S' => S = S' ∧ r = if pI S 20 a = 0 then 1 else 0) := by
  refine z_of (cc := cJx4a65c_isEmpty_aae02) (maxL := 1) (ret := (some .boolean)) (lo := [some (.ref a)]) (by decide) rfl rfl (Nat.le_of_ble_eq_true rfl) rfl ?_
  intro pp ee ss mi aa bl mh cd h0 hts hown hr hlk hnm
  have hown : ss.vm.findClass RJx4a65c = some mi.cls := hown
  have inJx4a65c : ∀ w ∈ u_ws RJx4a65c TJx4a65c 3, w ∈ wsJx4a65c_isEmpty_aae02 := by decide +kernel
  have lk_48 : zLk ss mi aa RJx4a65c 48 0 2 := ⟨RJx4a65c, TJx4a65c, 3, "java/util/ArrayList", wsJx4a65c_isEmpty_aae02, rfl, by decide, hts, inJx4a65c, hown, hts (.fieldLink RJx4a65c 48 "java/util/ArrayList" "size" "I") (by decide +kernel), fun _ h => h⟩
  refine z_aload_n h0 dJx4a65c_isEmpty_aae02_0 rfl ?_
  refine z_getI h0 fI20 lk_48 dJx4a65c_isEmpty_aae02_1 (by assumption) ?_
  refine z_if_ne (tgt := 11) h0 dJx4a65c_isEmpty_aae02_4 (by decide) (fun h4 => ?_) (fun h4 => ?_)
  · refine z_iconst (v := 0) h0 dJx4a65c_isEmpty_aae02_11 (by decide) ?_
    exact z_zret h0 hr rfl hlk dJx4a65c_isEmpty_aae02_12 (Nat.le_of_ble_eq_true rfl) (Nat.le_of_ble_eq_true rfl) ⟨rfl, by simp_all⟩
  · refine z_iconst (v := 1) h0 dJx4a65c_isEmpty_aae02_7 (by decide) ?_
    refine z_goto (tgt := 12) h0 dJx4a65c_isEmpty_aae02_8 (by decide) ?_
    exact z_zret h0 hr rfl hlk dJx4a65c_isEmpty_aae02_12 (Nat.le_of_ble_eq_true rfl) (Nat.le_of_ble_eq_true rfl) ⟨rfl, by simp_all⟩

end LEAVES
