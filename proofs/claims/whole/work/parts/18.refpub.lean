/-! THE REFERENCE'S CALLS. -/
section REFPUB
abbrev rm_X6_purse : Room := { frames := 1, cells := 0, slots := 0, locals := 22 }
set_option maxRecDepth 100000 in
set_option maxHeartbeats 4000000 in
theorem c_X6_purse {l : Launch} {D : va_G} {cI cZ cO : ClassId} {G : Nat → Nat} {S : PS} {m c : Nat} {A : Nat → Nat} {M : MS} (hR : RF S S m A M) (hI : MI c M) (hc : c < 512) {x : Int32} : zMi l yX6_purse wsX6_purse rm_X6_purse [.ref m, .int x] D cI cZ cO G S (fun r S' => rP S m A (oPurse M x) r S') := by
  refine z_of (cc := cX6_purse) (maxL := 2) (ret := (some .int)) (lo := [some (.ref m), some (.int x)]) (by decide) rfl rfl (Nat.le_of_ble_eq_true rfl) rfl ?_
  intro pp ee ss mi aa bl mh cd h0 hts hown hr hlk hnm
  have hown : ss.vm.findClass RX6 = some mi.cls := hown
  have inX6 : ∀ w ∈ u_ws RX6 TX6 14, w ∈ wsX6_purse := by decide +kernel
  have lk_7 : zLk ss mi aa RX6 7 7 2 := ⟨RX6, TX6, 14, "PurseWorldModel", wsX6_purse, rfl, by decide, hts, inX6, hown, hts (.fieldLink RX6 7 "PurseWorldModel" "balances" "[I") (by decide +kernel), fun _ h => h⟩
  have lk_13 : zLk ss mi aa RX6 13 7 3 := ⟨RX6, TX6, 14, "PurseWorldModel", wsX6_purse, rfl, by decide, hts, inX6, hown, hts (.fieldLink RX6 13 "PurseWorldModel" "serials" "[I") (by decide +kernel), fun _ h => h⟩
  have lk_41 : zLk ss mi aa RX6 41 7 0 := ⟨RX6, TX6, 14, "PurseWorldModel", wsX6_purse, rfl, by decide, hts, inX6, hown, hts (.fieldLink RX6 41 "PurseWorldModel" "code" "I") (by decide +kernel), fun _ h => h⟩
  have lk_45 : zLk ss mi aa RX6 45 7 1 := ⟨RX6, TX6, 14, "PurseWorldModel", wsX6_purse, rfl, by decide, hts, inX6, hown, hts (.fieldLink RX6 45 "PurseWorldModel" "purses" "I") (by decide +kernel), fun _ h => h⟩
  have lp_41 : zLp ss mi aa mh RX6 41 7 0 .int := ⟨RX6, TX6, 14, "PurseWorldModel", wsX6_purse, tyX6, rfl, by decide, hts, inX6, hown, hts (.fieldLink RX6 41 "PurseWorldModel" "code" "I") (by decide +kernel), fun _ h => h, tyX6_ok, nmX6, by decide +kernel, Or.inl rfl⟩
  have lp_45 : zLp ss mi aa mh RX6 45 7 1 .int := ⟨RX6, TX6, 14, "PurseWorldModel", wsX6_purse, tyX6, rfl, by decide, hts, inX6, hown, hts (.fieldLink RX6 45 "PurseWorldModel" "purses" "I") (by decide +kernel), fun _ h => h, tyX6_ok, nmX6, by decide +kernel, Or.inl rfl⟩
  refine z_aload_n h0 dX6_purse_0 rfl ?_
  refine z_iload_n h0 dX6_purse_1 rfl ?_
  refine z_iconst (v := 0) h0 dX6_purse_2 (by decide) ?_
  refine z_ldc h0 hown (hts (.constant RX6 84 (1000000000)) (by decide +kernel)) dX6_purse_3 ?_
  refine z_cSi (n := 3) (As := [_, _, _]) h0 hts hown c_X6_in gX6_purse_X6_in rfl (by decide +kernel) ⟨Nat.le_of_ble_eq_true rfl, Nat.le_of_ble_eq_true rfl⟩ dX6_purse_5 rfl rfl (Nat.le_of_ble_eq_true rfl) ⟨Nat.le_of_ble_eq_true rfl, Nat.le_of_ble_eq_true rfl⟩ (fun r5 S5 hp5 => ?_)
  obtain ⟨rfl, hr5⟩ := hp5
  refine z_if_ne (tgt := 15) h0 dX6_purse_8 (by decide) (fun h8 => ?_) (fun h8 => ?_)
  · refine z_aload_n h0 dX6_purse_15 rfl ?_
    refine z_getSP h0 hR fI16 lk_45 dX6_purse_16 ?_
    refine z_bipush (v := 12) h0 dX6_purse_19 (by decide) ?_
    refine z_icmp_ne (tgt := 28) h0 dX6_purse_21 (by decide) (fun h21 => ?_) (fun h21 => ?_)
    · refine z_iconst (v := 0) h0 dX6_purse_28 (by decide) ?_
      refine z_putC h0 hR.1 fI15 lp_41 dX6_purse_29 (fun S29 hX hR hcode => ?_)
      have := MI_p hI; have := MI_m hI; have := MI_e hI
      refine z_aload_n h0 dX6_purse_32 rfl ?_
      refine z_getI h0 fI15 lk_41 dX6_purse_33 (RF_m hR) ?_
      refine z_top hcode ?_
      refine z_if_le (tgt := 41) h0 dX6_purse_36 (by decide) (fun h36 => ?_) (fun h36 => absurd (by decide) h36)
      have hP : mP M < 12 := Nat.lt_of_le_of_ne (by omega) (fun z => h21 (by rw [z]; rfl))
      refine z_aload_n h0 dX6_purse_41 rfl ?_
      refine z_getA h0 hR 0 (by decide) fO10 rfl lk_7 dX6_purse_42 ?_
      refine z_aload_n h0 dX6_purse_45 rfl ?_
      refine z_getSP h0 hR fI16 lk_45 dX6_purse_46 ?_
      refine z_iload_n h0 dX6_purse_49 rfl ?_
      refine z_iastR h0 hR 0 (by decide) rfl dX6_purse_50 (nI_toInt (by first | omega | (dsimp only [sA, sT, mP, mM, mE] at *; omega))) (by simp only [rLen]; first | omega | (dsimp only [sA, sT, mP, mM, mE] at *; omega)) (fun hR => ?_)
      refine z_aload_n h0 dX6_purse_51 rfl ?_
      refine z_getA h0 hR 1 (by decide) fO11 rfl lk_13 dX6_purse_52 ?_
      refine z_aload_n h0 dX6_purse_55 rfl ?_
      refine z_getSP h0 hR fI16 lk_45 dX6_purse_56 ?_
      refine z_iconst (v := 1) h0 dX6_purse_59 (by decide) ?_
      refine z_iastR h0 hR 1 (by decide) rfl dX6_purse_60 (nI_toInt (by first | omega | (dsimp only [sA, sT, mP, mM, mE] at *; omega))) (by simp only [rLen]; first | omega | (dsimp only [sA, sT, mP, mM, mE] at *; omega)) (fun hR => ?_)
      refine z_aload_n h0 dX6_purse_61 rfl ?_
      refine z_dup h0 dX6_purse_62 rfl ?_
      refine z_getSP h0 hR fI16 lk_45 dX6_purse_63 ?_
      refine z_iconst (v := 1) h0 dX6_purse_66 (by decide) ?_
      refine z_iadd h0 dX6_purse_67 ?_
      refine z_putP h0 hR fI16 lp_45 dX6_purse_68 (nI_1 _) (fun hR => ?_)
      refine z_aload_n h0 dX6_purse_71 rfl ?_
      refine z_getSP h0 hR fI16 lk_45 dX6_purse_72 ?_
      refine z_iconst (v := 1) h0 dX6_purse_75 (by decide) ?_
      refine z_isub h0 dX6_purse_76 ?_
      refine z_top (y := nI (mP M)) (nI_pred _) ?_
      exact z_iret h0 hr hlk dX6_purse_77 (Nat.le_of_ble_eq_true rfl) (Nat.le_of_ble_eq_true rfl) (rP_yes (by unfold oPurse; rw [if_neg (fun z => z (ite_t hr5 h8)), if_neg (by omega)]) (RX_trans hX hR.1) (hR.2.trans hcode))
    · refine z_iconst (v := 2) h0 dX6_purse_24 (by decide) ?_
      refine z_goto (tgt := 29) h0 dX6_purse_25 (by decide) ?_
      refine z_putC h0 hR.1 fI15 lp_41 dX6_purse_29 (fun S29 hX hR hcode => ?_)
      have := MI_p hI; have := MI_m hI; have := MI_e hI
      refine z_aload_n h0 dX6_purse_32 rfl ?_
      refine z_getI h0 fI15 lk_41 dX6_purse_33 (RF_m hR) ?_
      refine z_top hcode ?_
      refine z_if_le (tgt := 41) h0 dX6_purse_36 (by decide) (fun h36 => absurd h36 (by decide)) (fun h36 => ?_)
      refine z_iconst (v := 0) h0 dX6_purse_39 (by decide) ?_
      exact z_iret h0 hr hlk dX6_purse_40 (Nat.le_of_ble_eq_true rfl) (Nat.le_of_ble_eq_true rfl) (by first | exact (rP_no (c := 0) (by unfold oPurse; rw [if_pos (ite_f hr5 h8)]) hX hcode) | exact (rP_no (c := 1) (by unfold oPurse; rw [if_neg (fun z => z (ite_t hr5 h8)), if_pos ((nI_eq (b := 12) (by omega) (by decide)).mp h21)]) hX hcode))
  · refine z_iconst (v := 1) h0 dX6_purse_11 (by decide) ?_
    refine z_goto (tgt := 29) h0 dX6_purse_12 (by decide) ?_
    refine z_putC h0 hR.1 fI15 lp_41 dX6_purse_29 (fun S29 hX hR hcode => ?_)
    have := MI_p hI; have := MI_m hI; have := MI_e hI
    refine z_aload_n h0 dX6_purse_32 rfl ?_
    refine z_getI h0 fI15 lk_41 dX6_purse_33 (RF_m hR) ?_
    refine z_top hcode ?_
    refine z_if_le (tgt := 41) h0 dX6_purse_36 (by decide) (fun h36 => absurd h36 (by decide)) (fun h36 => ?_)
    refine z_iconst (v := 0) h0 dX6_purse_39 (by decide) ?_
    exact z_iret h0 hr hlk dX6_purse_40 (Nat.le_of_ble_eq_true rfl) (Nat.le_of_ble_eq_true rfl) (by first | exact (rP_no (c := 0) (by unfold oPurse; rw [if_pos (ite_f hr5 h8)]) hX hcode) | exact (rP_no (c := 1) (by unfold oPurse; rw [if_neg (fun z => z (ite_t hr5 h8)), if_pos ((nI_eq (b := 12) (by omega) (by decide)).mp h21)]) hX hcode))

abbrev rm_X6_begin : Room := { frames := 2, cells := 0, slots := 0, locals := 46 }
set_option maxRecDepth 100000 in
set_option maxHeartbeats 4000000 in
theorem c_X6_begin {l : Launch} {D : va_G} {cI cZ cO : ClassId} {G : Nat → Nat} {S : PS} {m c : Nat} {A : Nat → Nat} {M : MS} (hR : RF S S m A M) (hI : MI c M) (hc : c < 512) {x y z : Int32} : zMi l yX6_begin wsX6_begin rm_X6_begin [.ref m, .int x, .int y, .int z] D cI cZ cO G S (fun r S' => rP S m A (oBegin M x y z) r S') := by
  refine z_of (cc := cX6_begin) (maxL := 4) (ret := (some .int)) (lo := [some (.ref m), some (.int x), some (.int y), some (.int z)]) (by decide) rfl rfl (Nat.le_of_ble_eq_true rfl) rfl ?_
  intro pp ee ss mi aa bl mh cd h0 hts hown hr hlk hnm
  have hown : ss.vm.findClass RX6 = some mi.cls := hown
  have inX6 : ∀ w ∈ u_ws RX6 TX6 14, w ∈ wsX6_begin := by decide +kernel
  have lk_13 : zLk ss mi aa RX6 13 7 3 := ⟨RX6, TX6, 14, "PurseWorldModel", wsX6_begin, rfl, by decide, hts, inX6, hown, hts (.fieldLink RX6 13 "PurseWorldModel" "serials" "[I") (by decide +kernel), fun _ h => h⟩
  have lk_41 : zLk ss mi aa RX6 41 7 0 := ⟨RX6, TX6, 14, "PurseWorldModel", wsX6_begin, rfl, by decide, hts, inX6, hown, hts (.fieldLink RX6 41 "PurseWorldModel" "code" "I") (by decide +kernel), fun _ h => h⟩
  have lk_59 : zLk ss mi aa RX6 59 7 6 := ⟨RX6, TX6, 14, "PurseWorldModel", wsX6_begin, rfl, by decide, hts, inX6, hown, hts (.fieldLink RX6 59 "PurseWorldModel" "messages" "I") (by decide +kernel), fun _ h => h⟩
  have lp_41 : zLp ss mi aa mh RX6 41 7 0 .int := ⟨RX6, TX6, 14, "PurseWorldModel", wsX6_begin, tyX6, rfl, by decide, hts, inX6, hown, hts (.fieldLink RX6 41 "PurseWorldModel" "code" "I") (by decide +kernel), fun _ h => h, tyX6_ok, nmX6, by decide +kernel, Or.inl rfl⟩
  refine z_aload_n h0 dX6_begin_0 rfl ?_
  refine z_aload_n h0 dX6_begin_1 rfl ?_
  refine z_iload_n h0 dX6_begin_2 rfl ?_
  refine z_cVi (n := 1) (As := [_]) h0 hts hown (c_X6_isPurse hR (by have := MI_p hI; omega)) gX6_begin_X6_isPurse rfl (by decide +kernel) ⟨Nat.le_of_ble_eq_true rfl, Nat.le_of_ble_eq_true rfl⟩ kOk6 rfl (RF_m hR) dX6_begin_3 rfl rfl (Nat.le_of_ble_eq_true rfl) ⟨Nat.le_of_ble_eq_true rfl, Nat.le_of_ble_eq_true rfl⟩ (fun r3 S3 hp3 => ?_)
  obtain ⟨rfl, hr3⟩ := hp3
  refine z_if_eq (tgt := 17) h0 dX6_begin_6 (by decide) (fun h6 => ?_) (fun h6 => ?_)
  · refine z_iconst (v := 1) h0 dX6_begin_17 (by decide) ?_
    refine z_goto (tgt := 57) h0 dX6_begin_18 (by decide) ?_
    refine z_putC h0 hR.1 fI15 lp_41 dX6_begin_57 (fun S57 hX hR hcode => ?_)
    refine z_aload_n h0 dX6_begin_60 rfl ?_
    refine z_getI h0 fI15 lk_41 dX6_begin_61 (RF_m hR) ?_
    refine z_top hcode ?_
    refine z_if_le (tgt := 69) h0 dX6_begin_64 (by decide) (fun h64 => absurd h64 (by decide)) (fun h64 => ?_)
    refine z_iconst (v := 0) h0 dX6_begin_67 (by decide) ?_
    exact z_iret h0 hr hlk dX6_begin_68 (Nat.le_of_ble_eq_true rfl) (Nat.le_of_ble_eq_true rfl) (by have := MI_m hI; first | exact (rP_no (c := 0) (by unfold oBegin; rw [if_pos (fun z => ite_f hr3 h6 z.1)]) hX hcode) | exact (rP_no (c := 0) (by unfold oBegin; rw [if_pos (fun z => ite_f hr11 h14 z.2)]) hX hcode) | exact (rP_no (c := 1) (by unfold oBegin; rw [if_neg (fun z => z ⟨ite_t hr3 h6, ite_t hr11 h14⟩), if_pos (Or.inl h23)]) hX hcode) | exact (rP_no (c := 1) (by unfold oBegin; rw [if_neg (fun z => z ⟨ite_t hr3 h6, ite_t hr11 h14⟩), if_pos (Or.inr (ite_f hr30 h33))]) hX hcode) | exact (rP_no (c := 2) (by unfold oBegin; rw [if_neg (fun z => z ⟨ite_t hr3 h6, ite_t hr11 h14⟩), if_neg (fun z => z.elim h23 (fun w => w (ite_t hr30 h33))), if_pos (Nat.lt_of_not_ge (fun w => h49 (nI_le (b := 800) w (by decide))))]) hX hcode))
  · refine z_aload_n h0 dX6_begin_9 rfl ?_
    refine z_iload_n h0 dX6_begin_10 rfl ?_
    refine z_cVi (n := 1) (As := [_]) h0 hts hown (c_X6_isPurse hR (by have := MI_p hI; omega)) gX6_begin_X6_isPurse rfl (by decide +kernel) ⟨Nat.le_of_ble_eq_true rfl, Nat.le_of_ble_eq_true rfl⟩ kOk6 rfl (RF_m hR) dX6_begin_11 rfl rfl (Nat.le_of_ble_eq_true rfl) ⟨Nat.le_of_ble_eq_true rfl, Nat.le_of_ble_eq_true rfl⟩ (fun r11 S11 hp11 => ?_)
    obtain ⟨rfl, hr11⟩ := hp11
    refine z_if_ne (tgt := 21) h0 dX6_begin_14 (by decide) (fun h14 => ?_) (fun h14 => ?_)
    · refine z_iload_n h0 dX6_begin_21 rfl ?_
      refine z_iload_n h0 dX6_begin_22 rfl ?_
      refine z_icmp_eq (tgt := 36) h0 dX6_begin_23 (by decide) (fun h23 => ?_) (fun h23 => ?_)
      · refine z_iconst (v := 2) h0 dX6_begin_36 (by decide) ?_
        refine z_goto (tgt := 57) h0 dX6_begin_37 (by decide) ?_
        refine z_putC h0 hR.1 fI15 lp_41 dX6_begin_57 (fun S57 hX hR hcode => ?_)
        refine z_aload_n h0 dX6_begin_60 rfl ?_
        refine z_getI h0 fI15 lk_41 dX6_begin_61 (RF_m hR) ?_
        refine z_top hcode ?_
        refine z_if_le (tgt := 69) h0 dX6_begin_64 (by decide) (fun h64 => absurd h64 (by decide)) (fun h64 => ?_)
        refine z_iconst (v := 0) h0 dX6_begin_67 (by decide) ?_
        exact z_iret h0 hr hlk dX6_begin_68 (Nat.le_of_ble_eq_true rfl) (Nat.le_of_ble_eq_true rfl) (by have := MI_m hI; first | exact (rP_no (c := 0) (by unfold oBegin; rw [if_pos (fun z => ite_f hr3 h6 z.1)]) hX hcode) | exact (rP_no (c := 0) (by unfold oBegin; rw [if_pos (fun z => ite_f hr11 h14 z.2)]) hX hcode) | exact (rP_no (c := 1) (by unfold oBegin; rw [if_neg (fun z => z ⟨ite_t hr3 h6, ite_t hr11 h14⟩), if_pos (Or.inl h23)]) hX hcode) | exact (rP_no (c := 1) (by unfold oBegin; rw [if_neg (fun z => z ⟨ite_t hr3 h6, ite_t hr11 h14⟩), if_pos (Or.inr (ite_f hr30 h33))]) hX hcode) | exact (rP_no (c := 2) (by unfold oBegin; rw [if_neg (fun z => z ⟨ite_t hr3 h6, ite_t hr11 h14⟩), if_neg (fun z => z.elim h23 (fun w => w (ite_t hr30 h33))), if_pos (Nat.lt_of_not_ge (fun w => h49 (nI_le (b := 800) w (by decide))))]) hX hcode))
      · refine z_iload_n h0 dX6_begin_26 rfl ?_
        refine z_iconst (v := 1) h0 dX6_begin_27 (by decide) ?_
        refine z_ldc h0 hown (hts (.constant RX6 89 (1000000)) (by decide +kernel)) dX6_begin_28 ?_
        refine z_cSi (n := 3) (As := [_, _, _]) h0 hts hown c_X6_in gX6_begin_X6_in rfl (by decide +kernel) ⟨Nat.le_of_ble_eq_true rfl, Nat.le_of_ble_eq_true rfl⟩ dX6_begin_30 rfl rfl (Nat.le_of_ble_eq_true rfl) ⟨Nat.le_of_ble_eq_true rfl, Nat.le_of_ble_eq_true rfl⟩ (fun r30 S30 hp30 => ?_)
        obtain ⟨rfl, hr30⟩ := hp30
        refine z_if_ne (tgt := 40) h0 dX6_begin_33 (by decide) (fun h33 => ?_) (fun h33 => ?_)
        · refine z_aload_n h0 dX6_begin_40 rfl ?_
          refine z_getSM h0 hR fI17 lk_59 dX6_begin_41 ?_
          refine z_iconst (v := 2) h0 dX6_begin_44 (by decide) ?_
          refine z_iadd h0 dX6_begin_45 ?_
          refine z_top (y := nI (mM M + 2)) (nI_add _ 2) ?_
          refine z_sipush (v := 800) h0 dX6_begin_46 (by decide) ?_
          refine z_icmp_le (tgt := 56) h0 dX6_begin_49 (by decide) (fun h49 => ?_) (fun h49 => ?_)
          · refine z_iconst (v := 0) h0 dX6_begin_56 (by decide) ?_
            refine z_putC h0 hR.1 fI15 lp_41 dX6_begin_57 (fun S57 hX hR hcode => ?_)
            refine z_aload_n h0 dX6_begin_60 rfl ?_
            refine z_getI h0 fI15 lk_41 dX6_begin_61 (RF_m hR) ?_
            refine z_top hcode ?_
            refine z_if_le (tgt := 69) h0 dX6_begin_64 (by decide) (fun h64 => ?_) (fun h64 => absurd (by decide) h64)
            have := MI_p hI; have := MI_m hI; have := MI_e hI
            have hm2 : mM M + 2 ≤ 800 := (nI_leI (b := 800) (by omega) (by decide)).mp h49
            have g1 := ite_t hr3 h6
            have g2 := ite_t hr11 h14
            obtain ⟨a, ha, rfl⟩ := inR_nI g1 (by omega)
            obtain ⟨b, hb, rfl⟩ := inR_nI g2 (by omega)
            refine z_aload_n h0 dX6_begin_69 rfl ?_
            refine z_bipush (v := 72) h0 dX6_begin_70 (by decide) ?_
            refine z_aload_n h0 dX6_begin_72 rfl ?_
            refine z_getSM h0 hR fI17 lk_59 dX6_begin_73 ?_
            refine z_iadd h0 dX6_begin_76 ?_
            refine z_top (y := nI (72 + mM M)) (by rw [zc72, nI_add]) ?_
            refine z_iload_n h0 dX6_begin_77 rfl ?_
            refine z_iconst (v := 0) h0 dX6_begin_78 (by decide) ?_
            refine z_iload_n h0 dX6_begin_79 rfl ?_
            refine z_aload_n h0 dX6_begin_80 rfl ?_
            refine z_getA h0 hR 1 (by decide) fO11 rfl lk_13 dX6_begin_81 ?_
            refine z_iload_n h0 dX6_begin_84 rfl ?_
            refine z_ialdR h0 hR 1 (by decide) rfl dX6_begin_85 (nI_toInt (by first | omega | (dsimp only [sA, sT, mP, mM, mE] at *; omega))) (by simp only [rLen]; first | omega | (dsimp only [sA, sT, mP, mM, mE] at *; omega)) ?_
            refine z_iload_n h0 dX6_begin_86 rfl ?_
            refine z_cVv (n := 6) (As := [_, _, _, _, _, _]) h0 hts hown (c_X6_lay (RF_refl hR) (q := 72 + mM M) (by omega)) gX6_begin_X6_lay rfl (by decide +kernel) ⟨Nat.le_of_ble_eq_true rfl, Nat.le_of_ble_eq_true rfl⟩ kOk6 rfl (RF_m hR) dX6_begin_87 rfl rfl (Nat.le_of_ble_eq_true rfl) ⟨Nat.le_of_ble_eq_true rfl, Nat.le_of_ble_eq_true rfl⟩ (fun S87 hp87 => ?_)
            have hR := RF_trans hR hp87
            refine z_aload_n h0 dX6_begin_90 rfl ?_
            refine z_iconst (v := 0) h0 dX6_begin_91 (by decide) ?_
            refine z_iload_n h0 dX6_begin_92 rfl ?_
            refine z_bipush (v := 72) h0 dX6_begin_93 (by decide) ?_
            refine z_aload_n h0 dX6_begin_95 rfl ?_
            refine z_getSM h0 hR fI17 lk_59 dX6_begin_96 ?_
            refine z_iadd h0 dX6_begin_99 ?_
            refine z_top (y := nI (72 + mM M)) (by rw [zc72]; exact nI_add _ _) ?_
            refine z_cVv (n := 3) (As := [_, _, _]) h0 hts hown (c_X6_send (RF_refl hR) (show mM M < 800 by omega) (q := 72 + mM M) (by omega)) gX6_begin_X6_send rfl (by decide +kernel) ⟨Nat.le_of_ble_eq_true rfl, Nat.le_of_ble_eq_true rfl⟩ kOk6 rfl (RF_m hR) dX6_begin_100 rfl rfl (Nat.le_of_ble_eq_true rfl) ⟨Nat.le_of_ble_eq_true rfl, Nat.le_of_ble_eq_true rfl⟩ (fun S100 hp100 => ?_)
            have hR := RF_trans hR hp100
            refine z_aload_n h0 dX6_begin_103 rfl ?_
            refine z_bipush (v := 72) h0 dX6_begin_104 (by decide) ?_
            refine z_aload_n h0 dX6_begin_106 rfl ?_
            refine z_getSM h0 hR fI17 lk_59 dX6_begin_107 ?_
            refine z_iadd h0 dX6_begin_110 ?_
            refine z_top (y := nI (72 + (mM M + 1))) (by rw [zc72]; exact nI_add _ _) ?_
            refine z_iload_n h0 dX6_begin_111 rfl ?_
            refine z_aload_n h0 dX6_begin_112 rfl ?_
            refine z_getA h0 hR 1 (by decide) fO11 rfl lk_13 dX6_begin_113 ?_
            refine z_iload_n h0 dX6_begin_116 rfl ?_
            refine z_ialdR h0 hR 1 (by decide) rfl dX6_begin_117 (nI_toInt (by first | omega | (dsimp only [sA, sT, mP, mM, mE] at *; omega))) (by simp only [rLen]; first | omega | (dsimp only [sA, sT, mP, mM, mE] at *; omega)) ?_
            refine z_top (y := mA M 1 a) (rfl) ?_
            refine z_iload_n h0 dX6_begin_118 rfl ?_
            refine z_iconst (v := 0) h0 dX6_begin_119 (by decide) ?_
            refine z_iload_n h0 dX6_begin_120 rfl ?_
            refine z_cVv (n := 6) (As := [_, _, _, _, _, _]) h0 hts hown (c_X6_lay (RF_refl hR) (q := 72 + (mM M + 1)) (by omega)) gX6_begin_X6_lay rfl (by decide +kernel) ⟨Nat.le_of_ble_eq_true rfl, Nat.le_of_ble_eq_true rfl⟩ kOk6 rfl (RF_m hR) dX6_begin_121 rfl rfl (Nat.le_of_ble_eq_true rfl) ⟨Nat.le_of_ble_eq_true rfl, Nat.le_of_ble_eq_true rfl⟩ (fun S121 hp121 => ?_)
            have hR := RF_trans hR hp121
            refine z_aload_n h0 dX6_begin_124 rfl ?_
            refine z_iconst (v := 1) h0 dX6_begin_125 (by decide) ?_
            refine z_iload_n h0 dX6_begin_126 rfl ?_
            refine z_bipush (v := 72) h0 dX6_begin_127 (by decide) ?_
            refine z_aload_n h0 dX6_begin_129 rfl ?_
            refine z_getSM h0 hR fI17 lk_59 dX6_begin_130 ?_
            refine z_iadd h0 dX6_begin_133 ?_
            refine z_top (y := nI (72 + (mM M + 1))) (by rw [zc72]; exact nI_add _ _) ?_
            refine z_cVv (n := 3) (As := [_, _, _]) h0 hts hown (c_X6_send (RF_refl hR) (show mM M + 1 < 800 by omega) (q := 72 + (mM M + 1)) (by omega)) gX6_begin_X6_send rfl (by decide +kernel) ⟨Nat.le_of_ble_eq_true rfl, Nat.le_of_ble_eq_true rfl⟩ kOk6 rfl (RF_m hR) dX6_begin_134 rfl rfl (Nat.le_of_ble_eq_true rfl) ⟨Nat.le_of_ble_eq_true rfl, Nat.le_of_ble_eq_true rfl⟩ (fun S134 hp134 => ?_)
            have hR := RF_trans hR hp134
            refine z_aload_n h0 dX6_begin_137 rfl ?_
            refine z_getSM h0 hR fI17 lk_59 dX6_begin_138 ?_
            refine z_iconst (v := 2) h0 dX6_begin_141 (by decide) ?_
            refine z_isub h0 dX6_begin_142 ?_
            refine z_top (y := nI (mM M)) (pk_sub (a := mM M + 2) (b := 2) (by omega)) ?_
            exact z_iret h0 hr hlk dX6_begin_143 (Nat.le_of_ble_eq_true rfl) (Nat.le_of_ble_eq_true rfl) (rP_yes (by unfold oBegin; rw [if_neg (fun z => z ⟨g1, g2⟩), if_neg (fun z => z.elim h23 (fun w => w (ite_t hr30 h33))), if_neg (by omega)]; unfold mBegin mBeg; rw [ix_of (x := nI a) rfl (by omega), ix_of (x := nI b) rfl (by omega)]) (RX_trans hX hR.1) (hR.2.trans hcode))
          · refine z_iconst (v := 3) h0 dX6_begin_52 (by decide) ?_
            refine z_goto (tgt := 57) h0 dX6_begin_53 (by decide) ?_
            refine z_putC h0 hR.1 fI15 lp_41 dX6_begin_57 (fun S57 hX hR hcode => ?_)
            refine z_aload_n h0 dX6_begin_60 rfl ?_
            refine z_getI h0 fI15 lk_41 dX6_begin_61 (RF_m hR) ?_
            refine z_top hcode ?_
            refine z_if_le (tgt := 69) h0 dX6_begin_64 (by decide) (fun h64 => absurd h64 (by decide)) (fun h64 => ?_)
            refine z_iconst (v := 0) h0 dX6_begin_67 (by decide) ?_
            exact z_iret h0 hr hlk dX6_begin_68 (Nat.le_of_ble_eq_true rfl) (Nat.le_of_ble_eq_true rfl) (by have := MI_m hI; first | exact (rP_no (c := 0) (by unfold oBegin; rw [if_pos (fun z => ite_f hr3 h6 z.1)]) hX hcode) | exact (rP_no (c := 0) (by unfold oBegin; rw [if_pos (fun z => ite_f hr11 h14 z.2)]) hX hcode) | exact (rP_no (c := 1) (by unfold oBegin; rw [if_neg (fun z => z ⟨ite_t hr3 h6, ite_t hr11 h14⟩), if_pos (Or.inl h23)]) hX hcode) | exact (rP_no (c := 1) (by unfold oBegin; rw [if_neg (fun z => z ⟨ite_t hr3 h6, ite_t hr11 h14⟩), if_pos (Or.inr (ite_f hr30 h33))]) hX hcode) | exact (rP_no (c := 2) (by unfold oBegin; rw [if_neg (fun z => z ⟨ite_t hr3 h6, ite_t hr11 h14⟩), if_neg (fun z => z.elim h23 (fun w => w (ite_t hr30 h33))), if_pos (Nat.lt_of_not_ge (fun w => h49 (nI_le (b := 800) w (by decide))))]) hX hcode))
        · refine z_iconst (v := 2) h0 dX6_begin_36 (by decide) ?_
          refine z_goto (tgt := 57) h0 dX6_begin_37 (by decide) ?_
          refine z_putC h0 hR.1 fI15 lp_41 dX6_begin_57 (fun S57 hX hR hcode => ?_)
          refine z_aload_n h0 dX6_begin_60 rfl ?_
          refine z_getI h0 fI15 lk_41 dX6_begin_61 (RF_m hR) ?_
          refine z_top hcode ?_
          refine z_if_le (tgt := 69) h0 dX6_begin_64 (by decide) (fun h64 => absurd h64 (by decide)) (fun h64 => ?_)
          refine z_iconst (v := 0) h0 dX6_begin_67 (by decide) ?_
          exact z_iret h0 hr hlk dX6_begin_68 (Nat.le_of_ble_eq_true rfl) (Nat.le_of_ble_eq_true rfl) (by have := MI_m hI; first | exact (rP_no (c := 0) (by unfold oBegin; rw [if_pos (fun z => ite_f hr3 h6 z.1)]) hX hcode) | exact (rP_no (c := 0) (by unfold oBegin; rw [if_pos (fun z => ite_f hr11 h14 z.2)]) hX hcode) | exact (rP_no (c := 1) (by unfold oBegin; rw [if_neg (fun z => z ⟨ite_t hr3 h6, ite_t hr11 h14⟩), if_pos (Or.inl h23)]) hX hcode) | exact (rP_no (c := 1) (by unfold oBegin; rw [if_neg (fun z => z ⟨ite_t hr3 h6, ite_t hr11 h14⟩), if_pos (Or.inr (ite_f hr30 h33))]) hX hcode) | exact (rP_no (c := 2) (by unfold oBegin; rw [if_neg (fun z => z ⟨ite_t hr3 h6, ite_t hr11 h14⟩), if_neg (fun z => z.elim h23 (fun w => w (ite_t hr30 h33))), if_pos (Nat.lt_of_not_ge (fun w => h49 (nI_le (b := 800) w (by decide))))]) hX hcode))
    · refine z_iconst (v := 1) h0 dX6_begin_17 (by decide) ?_
      refine z_goto (tgt := 57) h0 dX6_begin_18 (by decide) ?_
      refine z_putC h0 hR.1 fI15 lp_41 dX6_begin_57 (fun S57 hX hR hcode => ?_)
      refine z_aload_n h0 dX6_begin_60 rfl ?_
      refine z_getI h0 fI15 lk_41 dX6_begin_61 (RF_m hR) ?_
      refine z_top hcode ?_
      refine z_if_le (tgt := 69) h0 dX6_begin_64 (by decide) (fun h64 => absurd h64 (by decide)) (fun h64 => ?_)
      refine z_iconst (v := 0) h0 dX6_begin_67 (by decide) ?_
      exact z_iret h0 hr hlk dX6_begin_68 (Nat.le_of_ble_eq_true rfl) (Nat.le_of_ble_eq_true rfl) (by have := MI_m hI; first | exact (rP_no (c := 0) (by unfold oBegin; rw [if_pos (fun z => ite_f hr3 h6 z.1)]) hX hcode) | exact (rP_no (c := 0) (by unfold oBegin; rw [if_pos (fun z => ite_f hr11 h14 z.2)]) hX hcode) | exact (rP_no (c := 1) (by unfold oBegin; rw [if_neg (fun z => z ⟨ite_t hr3 h6, ite_t hr11 h14⟩), if_pos (Or.inl h23)]) hX hcode) | exact (rP_no (c := 1) (by unfold oBegin; rw [if_neg (fun z => z ⟨ite_t hr3 h6, ite_t hr11 h14⟩), if_pos (Or.inr (ite_f hr30 h33))]) hX hcode) | exact (rP_no (c := 2) (by unfold oBegin; rw [if_neg (fun z => z ⟨ite_t hr3 h6, ite_t hr11 h14⟩), if_neg (fun z => z.elim h23 (fun w => w (ite_t hr30 h33))), if_pos (Nat.lt_of_not_ge (fun w => h49 (nI_le (b := 800) w (by decide))))]) hX hcode))

abbrev rm_X6_abort : Room := { frames := 2, cells := 0, slots := 0, locals := 44 }
set_option maxRecDepth 100000 in
set_option maxHeartbeats 4000000 in
theorem c_X6_abort {l : Launch} {D : va_G} {cI cZ cO : ClassId} {G : Nat → Nat} {S : PS} {m c : Nat} {A : Nat → Nat} {M : MS} (hR : RF S S m A M) (hI : MI c M) (hc : c < 512) {x : Int32} : zMi l yX6_abort wsX6_abort rm_X6_abort [.ref m, .int x] D cI cZ cO G S (fun r S' => rP S m A (oAbort M x) r S') := by
  refine z_of (cc := cX6_abort) (maxL := 3) (ret := (some .int)) (lo := [some (.ref m), some (.int x), none]) (by decide) rfl rfl (Nat.le_of_ble_eq_true rfl) rfl ?_
  intro pp ee ss mi aa bl mh cd h0 hts hown hr hlk hnm
  have hown : ss.vm.findClass RX6 = some mi.cls := hown
  have inX6 : ∀ w ∈ u_ws RX6 TX6 14, w ∈ wsX6_abort := by decide +kernel
  have lk_16 : zLk ss mi aa RX6 16 7 4 := ⟨RX6, TX6, 14, "PurseWorldModel", wsX6_abort, rfl, by decide, hts, inX6, hown, hts (.fieldLink RX6 16 "PurseWorldModel" "states" "[I") (by decide +kernel), fun _ h => h⟩
  have lk_41 : zLk ss mi aa RX6 41 7 0 := ⟨RX6, TX6, 14, "PurseWorldModel", wsX6_abort, rfl, by decide, hts, inX6, hown, hts (.fieldLink RX6 41 "PurseWorldModel" "code" "I") (by decide +kernel), fun _ h => h⟩
  have lp_41 : zLp ss mi aa mh RX6 41 7 0 .int := ⟨RX6, TX6, 14, "PurseWorldModel", wsX6_abort, tyX6, rfl, by decide, hts, inX6, hown, hts (.fieldLink RX6 41 "PurseWorldModel" "code" "I") (by decide +kernel), fun _ h => h, tyX6_ok, nmX6, by decide +kernel, Or.inl rfl⟩
  refine z_aload_n h0 dX6_abort_0 rfl ?_
  refine z_aload_n h0 dX6_abort_1 rfl ?_
  refine z_iload_n h0 dX6_abort_2 rfl ?_
  refine z_cVi (n := 1) (As := [_]) h0 hts hown (c_X6_isPurse hR (by have := MI_p hI; omega)) gX6_abort_X6_isPurse rfl (by decide +kernel) ⟨Nat.le_of_ble_eq_true rfl, Nat.le_of_ble_eq_true rfl⟩ kOk6 rfl (RF_m hR) dX6_abort_3 rfl rfl (Nat.le_of_ble_eq_true rfl) ⟨Nat.le_of_ble_eq_true rfl, Nat.le_of_ble_eq_true rfl⟩ (fun r3 S3 hp3 => ?_)
  obtain ⟨rfl, hr3⟩ := hp3
  refine z_if_eq (tgt := 13) h0 dX6_abort_6 (by decide) (fun h6 => ?_) (fun h6 => ?_)
  · refine z_iconst (v := 1) h0 dX6_abort_13 (by decide) ?_
    refine z_putC h0 hR.1 fI15 lp_41 dX6_abort_14 (fun S14 hX hR hcode => ?_)
    refine z_aload_n h0 dX6_abort_17 rfl ?_
    refine z_getI h0 fI15 lk_41 dX6_abort_18 (RF_m hR) ?_
    refine z_top hcode ?_
    refine z_if_le (tgt := 26) h0 dX6_abort_21 (by decide) (fun h21 => absurd h21 (by decide)) (fun h21 => ?_)
    refine z_iconst (v := 0) h0 dX6_abort_24 (by decide) ?_
    exact z_iret h0 hr hlk dX6_abort_25 (Nat.le_of_ble_eq_true rfl) (Nat.le_of_ble_eq_true rfl) (rP_no (c := 0) (by unfold oAbort; rw [if_pos (ite_f hr3 h6)]) hX hcode)
  · refine z_iconst (v := 0) h0 dX6_abort_9 (by decide) ?_
    refine z_goto (tgt := 14) h0 dX6_abort_10 (by decide) ?_
    refine z_putC h0 hR.1 fI15 lp_41 dX6_abort_14 (fun S14 hX hR hcode => ?_)
    refine z_aload_n h0 dX6_abort_17 rfl ?_
    refine z_getI h0 fI15 lk_41 dX6_abort_18 (RF_m hR) ?_
    refine z_top hcode ?_
    refine z_if_le (tgt := 26) h0 dX6_abort_21 (by decide) (fun h21 => ?_) (fun h21 => absurd (by decide) h21)
    have := MI_p hI; have := MI_m hI; have := MI_e hI
    have g1 := ite_t hr3 h6
    obtain ⟨a, ha, rfl⟩ := inR_nI g1 (by omega)
    refine z_aload_n h0 dX6_abort_26 rfl ?_
    refine z_getA h0 hR 2 (by decide) fO12 rfl lk_16 dX6_abort_27 ?_
    refine z_iload_n h0 dX6_abort_30 rfl ?_
    refine z_ialdR h0 hR 2 (by decide) rfl dX6_abort_31 (nI_toInt (by first | omega | (dsimp only [sA, sT, mP, mM, mE] at *; omega))) (by simp only [rLen]; first | omega | (dsimp only [sA, sT, mP, mM, mE] at *; omega)) ?_
    refine z_istore_n (lo' := [_, _, _]) h0 dX6_abort_32 (by decide) rfl rfl ?_
    refine z_aload_n h0 dX6_abort_33 rfl ?_
    refine z_iload_n h0 dX6_abort_34 rfl ?_
    refine z_cVv (n := 1) (As := [_]) h0 hts hown (c_X6_endIt (RF_refl hR) (p := a) (by omega) (MI_ln hI ha).1 (MI_ln hI ha).2) gX6_abort_X6_endIt rfl (by decide +kernel) ⟨Nat.le_of_ble_eq_true rfl, Nat.le_of_ble_eq_true rfl⟩ kOk6 rfl (RF_m hR) dX6_abort_35 rfl rfl (Nat.le_of_ble_eq_true rfl) ⟨Nat.le_of_ble_eq_true rfl, Nat.le_of_ble_eq_true rfl⟩ (fun S35 hp35 => ?_)
    have hR := RF_trans hR hp35
    refine z_iload_n h0 dX6_abort_38 rfl ?_
    exact z_iret h0 hr hlk dX6_abort_39 (Nat.le_of_ble_eq_true rfl) (Nat.le_of_ble_eq_true rfl) (rP_yes (by unfold oAbort; rw [if_neg (fun z => z g1), ix_of (x := nI a) rfl (by omega)]) (RX_trans hX hR.1) (hR.2.trans hcode))

theorem mRead_M (M : MS) (p k : Nat) : mM (mRead M p k) = mM M + k ∧ mP (mRead M p k) = mP M ∧ mE (mRead M p k) = mE M ∧ (∀ f j, f < 4 → mA (mRead M p k) f j = mA M f j) := by
  induction k with
  | zero => exact ⟨rfl, rfl, rfl, fun _ _ _ => rfl⟩
  | succ k ih =>
    obtain ⟨h1, h2, h3, h4⟩ := ih
    refine ⟨?_, h2, h3, fun f j hf => ?_⟩
    · show mM (mRead M p k) + 1 = _; omega
    · show up2 (up2 (up2 (mA (mRead M p k)) 6 _ _) 4 _ _) 5 _ _ f j = _
      rw [up2_f _ _ _ _ (by omega), up2_f _ _ _ _ (by omega), up2_f _ _ _ _ (by omega)]
      exact h4 f j hf

abbrev rm_X6_readLog : Room := { frames := 2, cells := 0, slots := 0, locals := 46 }
set_option maxRecDepth 100000 in
set_option maxHeartbeats 4000000 in
theorem c_X6_readLog {l : Launch} {D : va_G} {cI cZ cO : ClassId} {G : Nat → Nat} {S : PS} {m c : Nat} {A : Nat → Nat} {M : MS} (hR : RF S S m A M) (hI : MI c M) (hc : c < 512) {x : Int32} : zMi l yX6_readLog wsX6_readLog rm_X6_readLog [.ref m, .int x] D cI cZ cO G S (fun r S' => rP S m A (oReadLog M x) r S') := by
  refine z_of (cc := cX6_readLog) (maxL := 3) (ret := (some .int)) (lo := [some (.ref m), some (.int x), none]) (by decide) rfl rfl (Nat.le_of_ble_eq_true rfl) rfl ?_
  intro pp ee ss mi aa bl mh cd h0 hts hown hr hlk hnm
  have hown : ss.vm.findClass RX6 = some mi.cls := hown
  have inX6 : ∀ w ∈ u_ws RX6 TX6 14, w ∈ wsX6_readLog := by decide +kernel
  have lk_16 : zLk ss mi aa RX6 16 7 4 := ⟨RX6, TX6, 14, "PurseWorldModel", wsX6_readLog, rfl, by decide, hts, inX6, hown, hts (.fieldLink RX6 16 "PurseWorldModel" "states" "[I") (by decide +kernel), fun _ h => h⟩
  have lk_19 : zLk ss mi aa RX6 19 7 5 := ⟨RX6, TX6, 14, "PurseWorldModel", wsX6_readLog, rfl, by decide, hts, inX6, hown, hts (.fieldLink RX6 19 "PurseWorldModel" "logSize" "[I") (by decide +kernel), fun _ h => h⟩
  have lk_28 : zLk ss mi aa RX6 28 7 9 := ⟨RX6, TX6, 14, "PurseWorldModel", wsX6_readLog, rfl, by decide, hts, inX6, hown, hts (.fieldLink RX6 28 "PurseWorldModel" "of" "[I") (by decide +kernel), fun _ h => h⟩
  have lk_41 : zLk ss mi aa RX6 41 7 0 := ⟨RX6, TX6, 14, "PurseWorldModel", wsX6_readLog, rfl, by decide, hts, inX6, hown, hts (.fieldLink RX6 41 "PurseWorldModel" "code" "I") (by decide +kernel), fun _ h => h⟩
  have lk_59 : zLk ss mi aa RX6 59 7 6 := ⟨RX6, TX6, 14, "PurseWorldModel", wsX6_readLog, rfl, by decide, hts, inX6, hown, hts (.fieldLink RX6 59 "PurseWorldModel" "messages" "I") (by decide +kernel), fun _ h => h⟩
  have lp_41 : zLp ss mi aa mh RX6 41 7 0 .int := ⟨RX6, TX6, 14, "PurseWorldModel", wsX6_readLog, tyX6, rfl, by decide, hts, inX6, hown, hts (.fieldLink RX6 41 "PurseWorldModel" "code" "I") (by decide +kernel), fun _ h => h, tyX6_ok, nmX6, by decide +kernel, Or.inl rfl⟩
  have loop : ∀ (n i a : Nat) (S1 S2 : PS), x = nI a → a < mP M → lnN M a - i < n → i ≤ lnN M a → mA M 2 a = 0 → mM M + lnN M a ≤ 800 → RX S S1 m A M → pI S1 15 m = 0 → RF S1 S2 m A (mRead M a i) → ZW pp l ee rm_X6_readLog ss mi aa bl mh cd D cI cZ cO (zA cI cZ cO S ss.heap.size) (MQ bl (zQi D cI cZ cO S (fun r S' => rP S m A (oReadLog M x) r S') ss.heap.size) aa ss rm_X6_readLog.cells rm_X6_readLog.slots (zA cI cZ cO S ss.heap.size)) [] 3 S2 0 0 62 [some (.ref m), some (.int x), some (.int (nI i))] [] := by
    intro n
    induction n with
    | zero => intro i a S1 S2 _ _ h; exact absurd h (Nat.not_lt_zero _)
    | succ n ih =>
      intro i a S1 S2 hxa ha hm hi hst hmm hX hcode hR
      have := MI_p hI; have := MI_m hI; have := MI_e hI
      have hn5 := (MI_ln hI ha).2
      have hmi := mRead_M M a i
      subst hxa
      refine z_iload_n h0 dX6_readLog_62 rfl ?_
      refine z_aload_n h0 dX6_readLog_63 rfl ?_
      refine z_getA h0 hR 3 (by decide) fO13 rfl lk_19 dX6_readLog_64 ?_
      refine z_iload_n h0 dX6_readLog_67 rfl ?_
      refine z_ialdR h0 hR 3 (by decide) rfl dX6_readLog_68 (nI_toInt (by first | omega | (dsimp only [sA, sT, mP, mM, mE] at *; omega))) (by simp only [rLen]; first | omega | (dsimp only [sA, sT, mP, mM, mE] at *; omega)) ?_
      refine z_top ((hmi.2.2.2 3 a (by decide)).trans (MI_ln hI ha).1) ?_
      refine z_icmp_ge (tgt := 102) h0 dX6_readLog_69 (by decide) (fun h69 => ?_) (fun h69 => ?_)
      · refine z_aload_n h0 dX6_readLog_102 rfl ?_
        refine z_getA h0 hR 3 (by decide) fO13 rfl lk_19 dX6_readLog_103 ?_
        refine z_iload_n h0 dX6_readLog_106 rfl ?_
        refine z_ialdR h0 hR 3 (by decide) rfl dX6_readLog_107 (nI_toInt (by first | omega | (dsimp only [sA, sT, mP, mM, mE] at *; omega))) (by simp only [rLen]; first | omega | (dsimp only [sA, sT, mP, mM, mE] at *; omega)) ?_
        refine z_top (hmi.2.2.2 3 a (by decide)) ?_
        exact z_iret h0 hr hlk dX6_readLog_108 (Nat.le_of_ble_eq_true rfl) (Nat.le_of_ble_eq_true rfl) (rP_yes (by unfold oReadLog; rw [if_neg (fun z => z (inR_of ha (by omega))), ix_of (x := nI a) rfl (by omega), if_neg (fun z => z hst), if_neg (by omega), ← Nat.le_antisymm hi (nI_geof h69 (by omega) (by omega))]) (RX_trans hX hR.1) (hR.2.trans hcode))
      · have hlt : i < lnN M a := nI_ltof h69 (by omega)
        refine z_aload_n h0 dX6_readLog_72 rfl ?_
        refine z_getA h0 hR 6 (by decide) fO16 rfl lk_28 dX6_readLog_73 ?_
        refine z_aload_n h0 dX6_readLog_76 rfl ?_
        refine z_getSM h0 hR fI17 lk_59 dX6_readLog_77 ?_
        refine z_iload_n h0 dX6_readLog_80 rfl ?_
        refine z_iastR h0 hR 6 (by decide) rfl dX6_readLog_81 (nI_toInt (by omega)) (show _ < 800 by omega) (fun hR => ?_)
        refine z_aload_n h0 dX6_readLog_82 rfl ?_
        refine z_iconst (v := 5) h0 dX6_readLog_83 (by decide) ?_
        refine z_iconst (v := -1) h0 dX6_readLog_84 (by decide) ?_
        refine z_bipush (v := 12) h0 dX6_readLog_85 (by decide) ?_
        refine z_iconst (v := 5) h0 dX6_readLog_87 (by decide) ?_
        refine z_iload_n h0 dX6_readLog_88 rfl ?_
        refine z_imul h0 dX6_readLog_89 ?_
        refine z_iadd h0 dX6_readLog_90 ?_
        refine z_iload_n h0 dX6_readLog_91 rfl ?_
        refine z_iadd h0 dX6_readLog_92 ?_
        refine z_top (y := nI (12 + 5 * a + i)) (by rw [zc5, zc12, pk_mul, nI_add, nI_add]) ?_
        refine z_cVv (n := 3) (As := [_, _, _]) h0 hts hown (c_X6_send (RF_refl hR) (show mM (mRead M a i) < 800 by omega) (q := 12 + 5 * a + i) (by omega)) gX6_readLog_X6_send rfl (by decide +kernel) ⟨Nat.le_of_ble_eq_true rfl, Nat.le_of_ble_eq_true rfl⟩ kOk6 rfl (RF_m hR) dX6_readLog_93 rfl rfl (Nat.le_of_ble_eq_true rfl) ⟨Nat.le_of_ble_eq_true rfl, Nat.le_of_ble_eq_true rfl⟩ (fun S93 hp93 => ?_)
        have hR := RF_trans hR hp93
        refine z_iinc (lo' := [_, _, _]) (v := nI (i + 1)) h0 dX6_readLog_96 rfl (nI_1 i) (by decide) rfl rfl ?_
        refine z_goto (tgt := 62) h0 dX6_readLog_99 (by decide) ?_
        exact ih (i + 1) a S1 _ rfl ha (by omega) (by omega) hst hmm hX hcode hR
  refine z_aload_n h0 dX6_readLog_0 rfl ?_
  refine z_aload_n h0 dX6_readLog_1 rfl ?_
  refine z_iload_n h0 dX6_readLog_2 rfl ?_
  refine z_cVi (n := 1) (As := [_]) h0 hts hown (c_X6_isPurse hR (by have := MI_p hI; omega)) gX6_readLog_X6_isPurse rfl (by decide +kernel) ⟨Nat.le_of_ble_eq_true rfl, Nat.le_of_ble_eq_true rfl⟩ kOk6 rfl (RF_m hR) dX6_readLog_3 rfl rfl (Nat.le_of_ble_eq_true rfl) ⟨Nat.le_of_ble_eq_true rfl, Nat.le_of_ble_eq_true rfl⟩ (fun r3 S3 hp3 => ?_)
  obtain ⟨rfl, hr3⟩ := hp3
  refine z_if_ne (tgt := 13) h0 dX6_readLog_6 (by decide) (fun h6 => ?_) (fun h6 => ?_)
  · have := MI_p hI; have := MI_m hI; have := MI_e hI
    have g1 := ite_t hr3 h6
    obtain ⟨a, ha, rfl⟩ := inR_nI g1 (by omega)
    have hl := MI_ln hI ha
    have e1 := ix_of (x := nI a) rfl (by omega)
    refine z_aload_n h0 dX6_readLog_13 rfl ?_
    refine z_getA h0 hR 2 (by decide) fO12 rfl lk_16 dX6_readLog_14 ?_
    refine z_iload_n h0 dX6_readLog_17 rfl ?_
    refine z_ialdR h0 hR 2 (by decide) rfl dX6_readLog_18 (nI_toInt (by first | omega | (dsimp only [sA, sT, mP, mM, mE] at *; omega))) (by simp only [rLen]; first | omega | (dsimp only [sA, sT, mP, mM, mE] at *; omega)) ?_
    refine z_if_eq (tgt := 26) h0 dX6_readLog_19 (by decide) (fun h19 => ?_) (fun h19 => ?_)
    · refine z_aload_n h0 dX6_readLog_26 rfl ?_
      refine z_getSM h0 hR fI17 lk_59 dX6_readLog_27 ?_
      refine z_aload_n h0 dX6_readLog_30 rfl ?_
      refine z_getA h0 hR 3 (by decide) fO13 rfl lk_19 dX6_readLog_31 ?_
      refine z_iload_n h0 dX6_readLog_34 rfl ?_
      refine z_ialdR h0 hR 3 (by decide) rfl dX6_readLog_35 (nI_toInt (by first | omega | (dsimp only [sA, sT, mP, mM, mE] at *; omega))) (by simp only [rLen]; first | omega | (dsimp only [sA, sT, mP, mM, mE] at *; omega)) ?_
      refine z_top hl.1 ?_
      refine z_iadd h0 dX6_readLog_36 ?_
      refine z_top (nI_add _ _) ?_
      refine z_sipush (v := 800) h0 dX6_readLog_37 (by decide) ?_
      refine z_icmp_le (tgt := 47) h0 dX6_readLog_40 (by decide) (fun h40 => ?_) (fun h40 => ?_)
      · refine z_iconst (v := 0) h0 dX6_readLog_47 (by decide) ?_
        refine z_putC h0 hR.1 fI15 lp_41 dX6_readLog_48 (fun S48 hX hR hcode => ?_)
        refine z_aload_n h0 dX6_readLog_51 rfl ?_
        refine z_getI h0 fI15 lk_41 dX6_readLog_52 (RF_m hR) ?_
        refine z_top hcode ?_
        refine z_if_le (tgt := 60) h0 dX6_readLog_55 (by decide) (fun h55 => ?_) (fun h55 => absurd (by decide) h55)
        refine z_iconst (v := 0) h0 dX6_readLog_60 (by decide) ?_
        refine z_istore_n (lo' := [_, _, _]) h0 dX6_readLog_61 (by decide) rfl rfl ?_
        exact loop (lnN M a + 1) 0 a _ _ rfl ha (by omega) (Nat.zero_le _) h19 ((nI_leI (b := 800) (by omega) (by decide)).mp h40) hX hcode hR
      · refine z_iconst (v := 3) h0 dX6_readLog_43 (by decide) ?_
        refine z_goto (tgt := 48) h0 dX6_readLog_44 (by decide) ?_
        refine z_putC h0 hR.1 fI15 lp_41 dX6_readLog_48 (fun S48 hX hR hcode => ?_)
        refine z_aload_n h0 dX6_readLog_51 rfl ?_
        refine z_getI h0 fI15 lk_41 dX6_readLog_52 (RF_m hR) ?_
        refine z_top hcode ?_
        refine z_if_le (tgt := 60) h0 dX6_readLog_55 (by decide) (fun h55 => absurd h55 (by decide)) (fun h55 => ?_)
        refine z_iconst (v := 0) h0 dX6_readLog_58 (by decide) ?_
        exact z_iret h0 hr hlk dX6_readLog_59 (Nat.le_of_ble_eq_true rfl) (Nat.le_of_ble_eq_true rfl) (by first | exact (rP_no (c := 0) (by unfold oReadLog; rw [if_pos (ite_f hr3 h6)]) hX hcode) | exact (rP_no (c := 1) (by unfold oReadLog; rw [if_neg (fun z => z g1), e1, if_pos h19]) hX hcode) | exact (rP_no (c := 2) (by unfold oReadLog; rw [if_neg (fun z => z g1), e1, if_neg (fun z => z h19), if_pos (Nat.lt_of_not_ge (fun w => h40 (nI_le (b := 800) w (by decide))))]) hX hcode))
    · refine z_iconst (v := 2) h0 dX6_readLog_22 (by decide) ?_
      refine z_goto (tgt := 48) h0 dX6_readLog_23 (by decide) ?_
      refine z_putC h0 hR.1 fI15 lp_41 dX6_readLog_48 (fun S48 hX hR hcode => ?_)
      refine z_aload_n h0 dX6_readLog_51 rfl ?_
      refine z_getI h0 fI15 lk_41 dX6_readLog_52 (RF_m hR) ?_
      refine z_top hcode ?_
      refine z_if_le (tgt := 60) h0 dX6_readLog_55 (by decide) (fun h55 => absurd h55 (by decide)) (fun h55 => ?_)
      refine z_iconst (v := 0) h0 dX6_readLog_58 (by decide) ?_
      exact z_iret h0 hr hlk dX6_readLog_59 (Nat.le_of_ble_eq_true rfl) (Nat.le_of_ble_eq_true rfl) (by first | exact (rP_no (c := 0) (by unfold oReadLog; rw [if_pos (ite_f hr3 h6)]) hX hcode) | exact (rP_no (c := 1) (by unfold oReadLog; rw [if_neg (fun z => z g1), e1, if_pos h19]) hX hcode) | exact (rP_no (c := 2) (by unfold oReadLog; rw [if_neg (fun z => z g1), e1, if_neg (fun z => z h19), if_pos (Nat.lt_of_not_ge (fun w => h40 (nI_le (b := 800) w (by decide))))]) hX hcode))
  · refine z_iconst (v := 1) h0 dX6_readLog_9 (by decide) ?_
    refine z_goto (tgt := 48) h0 dX6_readLog_10 (by decide) ?_
    refine z_putC h0 hR.1 fI15 lp_41 dX6_readLog_48 (fun S48 hX hR hcode => ?_)
    refine z_aload_n h0 dX6_readLog_51 rfl ?_
    refine z_getI h0 fI15 lk_41 dX6_readLog_52 (RF_m hR) ?_
    refine z_top hcode ?_
    refine z_if_le (tgt := 60) h0 dX6_readLog_55 (by decide) (fun h55 => absurd h55 (by decide)) (fun h55 => ?_)
    refine z_iconst (v := 0) h0 dX6_readLog_58 (by decide) ?_
    exact z_iret h0 hr hlk dX6_readLog_59 (Nat.le_of_ble_eq_true rfl) (Nat.le_of_ble_eq_true rfl) (by first | exact (rP_no (c := 0) (by unfold oReadLog; rw [if_pos (ite_f hr3 h6)]) hX hcode) | exact (rP_no (c := 1) (by unfold oReadLog; rw [if_neg (fun z => z g1), e1, if_pos h19]) hX hcode) | exact (rP_no (c := 2) (by unfold oReadLog; rw [if_neg (fun z => z g1), e1, if_neg (fun z => z h19), if_pos (Nat.lt_of_not_ge (fun w => h40 (nI_le (b := 800) w (by decide))))]) hX hcode))

end REFPUB
