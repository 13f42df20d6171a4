/-! THE REFERENCE'S CALLS, III. -/
section REFPUB3
abbrev rm_X6_holds : Room := { frames := 2, cells := 0, slots := 0, locals := 49 }
set_option maxRecDepth 100000 in
set_option maxHeartbeats 4000000 in
theorem c_X6_holds {l : Launch} {D : va_G} {cI cZ cO : ClassId} {G : Nat → Nat} {S : PS} {m c : Nat} {A : Nat → Nat} {M : MS} (hR : RF S S m A M) (hI : MI c M) (hc : c < 512) {p q : Nat} (hp : p < mP M) (hq : q < 1672) : zMi l yX6_holds wsX6_holds rm_X6_holds [.ref m, .int (nI p), .int (nI q)] D cI cZ cO G S (fun r S' => S = S' ∧ r = bI (hld M p q)) := by
  have := MI_p hI; have := MI_m hI; have := MI_e hI
  refine z_of (cc := cX6_holds) (maxL := 3) (ret := (some .boolean)) (lo := [some (.ref m), some (.int (nI p)), some (.int (nI q))]) (by decide) rfl rfl (Nat.le_of_ble_eq_true rfl) rfl ?_
  intro pp ee ss mi aa bl mh cd h0 hts hown hr hlk hnm
  have hown : ss.vm.findClass RX6 = some mi.cls := hown
  have inX6 : ∀ w ∈ u_ws RX6 TX6 14, w ∈ wsX6_holds := by decide +kernel
  have lk_16 : zLk ss mi aa RX6 16 7 4 := ⟨RX6, TX6, 14, "PurseWorldModel", wsX6_holds, rfl, by decide, hts, inX6, hown, hts (.fieldLink RX6 16 "PurseWorldModel" "states" "[I") (by decide +kernel), fun _ h => h⟩
  have lk_56 : zLk ss mi aa RX6 56 7 10 := ⟨RX6, TX6, 14, "PurseWorldModel", wsX6_holds, rfl, by decide, hts, inX6, hown, hts (.fieldLink RX6 56 "PurseWorldModel" "entries" "I") (by decide +kernel), fun _ h => h⟩
  refine z_aload_n h0 dX6_holds_0 rfl ?_
  refine z_getA h0 hR 2 (by decide) fO12 rfl lk_16 dX6_holds_1 ?_
  refine z_iload_n h0 dX6_holds_4 rfl ?_
  refine z_ialdR h0 hR 2 (by decide) rfl dX6_holds_5 (nI_toInt (by first | omega | (dsimp only [sA, sT, mP, mM, mE] at *; omega))) (by simp only [rLen]; first | omega | (dsimp only [sA, sT, mP, mM, mE] at *; omega)) ?_
  refine z_iconst (v := 2) h0 dX6_holds_6 (by decide) ?_
  refine z_icmp_lt (tgt := 19) h0 dX6_holds_7 (by decide) (fun h7 => ?_) (fun h7 => ?_)
  · refine z_aload_n h0 dX6_holds_19 rfl ?_
    refine z_iload_n h0 dX6_holds_20 rfl ?_
    refine z_iload_n h0 dX6_holds_21 rfl ?_
    refine z_cVi (n := 2) (As := [_, _]) h0 hts hown (c_X6_isInLog hR (p := p) (by omega) (MI_ln hI hp).1 (MI_ln hI hp).2 hq) gX6_holds_X6_isInLog rfl (by decide +kernel) ⟨Nat.le_of_ble_eq_true rfl, Nat.le_of_ble_eq_true rfl⟩ kOk6 rfl (RF_m hR) dX6_holds_22 rfl rfl (Nat.le_of_ble_eq_true rfl) ⟨Nat.le_of_ble_eq_true rfl, Nat.le_of_ble_eq_true rfl⟩ (fun r22 S22 hp22 => ?_)
    obtain ⟨rfl, hr22⟩ := hp22
    refine z_if_ne (tgt := 41) h0 dX6_holds_25 (by decide) (fun h25 => ?_) (fun h25 => ?_)
    · refine z_iconst (v := 1) h0 dX6_holds_41 (by decide) ?_
      refine z_goto (tgt := 46) h0 dX6_holds_42 (by decide) ?_
      exact z_zret h0 hr rfl hlk dX6_holds_46 (Nat.le_of_ble_eq_true rfl) (Nat.le_of_ble_eq_true rfl) (by
      refine ⟨rfl, ?_⟩
      unfold hld inLg kpt
      first
        | (rw [decide_eq_true (k2_le h7), (flag_same hr13).2 h16]; rfl)
        | (rw [bI_t hr22 h25, Bool.or_true]; rfl)
        | (rw [bI_t hr35 h38, Bool.or_true]; rfl)
        | (rw [bI_f hr22 h25, bI_f hr35 h38, (flag_same hr13).1 h16]; simp [bI])
        | (rw [bI_f hr22 h25, bI_f hr35 h38, decide_eq_false (k2_nle h7)]; rfl))
    · refine z_aload_n h0 dX6_holds_28 rfl ?_
      refine z_iload_n h0 dX6_holds_29 rfl ?_
      refine z_iload_n h0 dX6_holds_30 rfl ?_
      refine z_aload_n h0 dX6_holds_31 rfl ?_
      refine z_getSE h0 hR fI18 lk_56 dX6_holds_32 ?_
      refine z_cVi (n := 3) (As := [_, _, _]) h0 hts hown (c_X6_isKept hR (q := q) hq (k := mE M) (by omega)) gX6_holds_X6_isKept rfl (by decide +kernel) ⟨Nat.le_of_ble_eq_true rfl, Nat.le_of_ble_eq_true rfl⟩ kOk6 rfl (RF_m hR) dX6_holds_35 rfl rfl (Nat.le_of_ble_eq_true rfl) ⟨Nat.le_of_ble_eq_true rfl, Nat.le_of_ble_eq_true rfl⟩ (fun r35 S35 hp35 => ?_)
      obtain ⟨rfl, hr35⟩ := hp35
      refine z_if_eq (tgt := 45) h0 dX6_holds_38 (by decide) (fun h38 => ?_) (fun h38 => ?_)
      · refine z_iconst (v := 0) h0 dX6_holds_45 (by decide) ?_
        exact z_zret h0 hr rfl hlk dX6_holds_46 (Nat.le_of_ble_eq_true rfl) (Nat.le_of_ble_eq_true rfl) (by
      refine ⟨rfl, ?_⟩
      unfold hld inLg kpt
      first
        | (rw [decide_eq_true (k2_le h7), (flag_same hr13).2 h16]; rfl)
        | (rw [bI_t hr22 h25, Bool.or_true]; rfl)
        | (rw [bI_t hr35 h38, Bool.or_true]; rfl)
        | (rw [bI_f hr22 h25, bI_f hr35 h38, (flag_same hr13).1 h16]; simp [bI])
        | (rw [bI_f hr22 h25, bI_f hr35 h38, decide_eq_false (k2_nle h7)]; rfl))
      · refine z_iconst (v := 1) h0 dX6_holds_41 (by decide) ?_
        refine z_goto (tgt := 46) h0 dX6_holds_42 (by decide) ?_
        exact z_zret h0 hr rfl hlk dX6_holds_46 (Nat.le_of_ble_eq_true rfl) (Nat.le_of_ble_eq_true rfl) (by
      refine ⟨rfl, ?_⟩
      unfold hld inLg kpt
      first
        | (rw [decide_eq_true (k2_le h7), (flag_same hr13).2 h16]; rfl)
        | (rw [bI_t hr22 h25, Bool.or_true]; rfl)
        | (rw [bI_t hr35 h38, Bool.or_true]; rfl)
        | (rw [bI_f hr22 h25, bI_f hr35 h38, (flag_same hr13).1 h16]; simp [bI])
        | (rw [bI_f hr22 h25, bI_f hr35 h38, decide_eq_false (k2_nle h7)]; rfl))
  · refine z_aload_n h0 dX6_holds_10 rfl ?_
    refine z_iload_n h0 dX6_holds_11 rfl ?_
    refine z_iload_n h0 dX6_holds_12 rfl ?_
    refine z_cVi (n := 2) (As := [_, _]) h0 hts hown (c_X6_same hR (p := p) (by omega) hq) gX6_holds_X6_same rfl (by decide +kernel) ⟨Nat.le_of_ble_eq_true rfl, Nat.le_of_ble_eq_true rfl⟩ kOk6 rfl (RF_m hR) dX6_holds_13 rfl rfl (Nat.le_of_ble_eq_true rfl) ⟨Nat.le_of_ble_eq_true rfl, Nat.le_of_ble_eq_true rfl⟩ (fun r13 S13 hp13 => ?_)
    obtain ⟨rfl, hr13⟩ := hp13
    refine z_if_ne (tgt := 41) h0 dX6_holds_16 (by decide) (fun h16 => ?_) (fun h16 => ?_)
    · refine z_iconst (v := 1) h0 dX6_holds_41 (by decide) ?_
      refine z_goto (tgt := 46) h0 dX6_holds_42 (by decide) ?_
      exact z_zret h0 hr rfl hlk dX6_holds_46 (Nat.le_of_ble_eq_true rfl) (Nat.le_of_ble_eq_true rfl) (by
      refine ⟨rfl, ?_⟩
      unfold hld inLg kpt
      first
        | (rw [decide_eq_true (k2_le h7), (flag_same hr13).2 h16]; rfl)
        | (rw [bI_t hr22 h25, Bool.or_true]; rfl)
        | (rw [bI_t hr35 h38, Bool.or_true]; rfl)
        | (rw [bI_f hr22 h25, bI_f hr35 h38, (flag_same hr13).1 h16]; simp [bI])
        | (rw [bI_f hr22 h25, bI_f hr35 h38, decide_eq_false (k2_nle h7)]; rfl))
    · refine z_aload_n h0 dX6_holds_19 rfl ?_
      refine z_iload_n h0 dX6_holds_20 rfl ?_
      refine z_iload_n h0 dX6_holds_21 rfl ?_
      refine z_cVi (n := 2) (As := [_, _]) h0 hts hown (c_X6_isInLog hR (p := p) (by omega) (MI_ln hI hp).1 (MI_ln hI hp).2 hq) gX6_holds_X6_isInLog rfl (by decide +kernel) ⟨Nat.le_of_ble_eq_true rfl, Nat.le_of_ble_eq_true rfl⟩ kOk6 rfl (RF_m hR) dX6_holds_22 rfl rfl (Nat.le_of_ble_eq_true rfl) ⟨Nat.le_of_ble_eq_true rfl, Nat.le_of_ble_eq_true rfl⟩ (fun r22 S22 hp22 => ?_)
      obtain ⟨rfl, hr22⟩ := hp22
      refine z_if_ne (tgt := 41) h0 dX6_holds_25 (by decide) (fun h25 => ?_) (fun h25 => ?_)
      · refine z_iconst (v := 1) h0 dX6_holds_41 (by decide) ?_
        refine z_goto (tgt := 46) h0 dX6_holds_42 (by decide) ?_
        exact z_zret h0 hr rfl hlk dX6_holds_46 (Nat.le_of_ble_eq_true rfl) (Nat.le_of_ble_eq_true rfl) (by
      refine ⟨rfl, ?_⟩
      unfold hld inLg kpt
      first
        | (rw [decide_eq_true (k2_le h7), (flag_same hr13).2 h16]; rfl)
        | (rw [bI_t hr22 h25, Bool.or_true]; rfl)
        | (rw [bI_t hr35 h38, Bool.or_true]; rfl)
        | (rw [bI_f hr22 h25, bI_f hr35 h38, (flag_same hr13).1 h16]; simp [bI])
        | (rw [bI_f hr22 h25, bI_f hr35 h38, decide_eq_false (k2_nle h7)]; rfl))
      · refine z_aload_n h0 dX6_holds_28 rfl ?_
        refine z_iload_n h0 dX6_holds_29 rfl ?_
        refine z_iload_n h0 dX6_holds_30 rfl ?_
        refine z_aload_n h0 dX6_holds_31 rfl ?_
        refine z_getSE h0 hR fI18 lk_56 dX6_holds_32 ?_
        refine z_cVi (n := 3) (As := [_, _, _]) h0 hts hown (c_X6_isKept hR (q := q) hq (k := mE M) (by omega)) gX6_holds_X6_isKept rfl (by decide +kernel) ⟨Nat.le_of_ble_eq_true rfl, Nat.le_of_ble_eq_true rfl⟩ kOk6 rfl (RF_m hR) dX6_holds_35 rfl rfl (Nat.le_of_ble_eq_true rfl) ⟨Nat.le_of_ble_eq_true rfl, Nat.le_of_ble_eq_true rfl⟩ (fun r35 S35 hp35 => ?_)
        obtain ⟨rfl, hr35⟩ := hp35
        refine z_if_eq (tgt := 45) h0 dX6_holds_38 (by decide) (fun h38 => ?_) (fun h38 => ?_)
        · refine z_iconst (v := 0) h0 dX6_holds_45 (by decide) ?_
          exact z_zret h0 hr rfl hlk dX6_holds_46 (Nat.le_of_ble_eq_true rfl) (Nat.le_of_ble_eq_true rfl) (by
      refine ⟨rfl, ?_⟩
      unfold hld inLg kpt
      first
        | (rw [decide_eq_true (k2_le h7), (flag_same hr13).2 h16]; rfl)
        | (rw [bI_t hr22 h25, Bool.or_true]; rfl)
        | (rw [bI_t hr35 h38, Bool.or_true]; rfl)
        | (rw [bI_f hr22 h25, bI_f hr35 h38, (flag_same hr13).1 h16]; simp [bI])
        | (rw [bI_f hr22 h25, bI_f hr35 h38, decide_eq_false (k2_nle h7)]; rfl))
        · refine z_iconst (v := 1) h0 dX6_holds_41 (by decide) ?_
          refine z_goto (tgt := 46) h0 dX6_holds_42 (by decide) ?_
          exact z_zret h0 hr rfl hlk dX6_holds_46 (Nat.le_of_ble_eq_true rfl) (Nat.le_of_ble_eq_true rfl) (by
      refine ⟨rfl, ?_⟩
      unfold hld inLg kpt
      first
        | (rw [decide_eq_true (k2_le h7), (flag_same hr13).2 h16]; rfl)
        | (rw [bI_t hr22 h25, Bool.or_true]; rfl)
        | (rw [bI_t hr35 h38, Bool.or_true]; rfl)
        | (rw [bI_f hr22 h25, bI_f hr35 h38, (flag_same hr13).1 h16]; simp [bI])
        | (rw [bI_f hr22 h25, bI_f hr35 h38, decide_eq_false (k2_nle h7)]; rfl))

abbrev rm_X6_amountOf : Room := { frames := 3, cells := 0, slots := 0, locals := 71 }
set_option maxRecDepth 100000 in
set_option maxHeartbeats 4000000 in
theorem c_X6_amountOf {l : Launch} {D : va_G} {cI cZ cO : ClassId} {G : Nat → Nat} {S : PS} {m c : Nat} {A : Nat → Nat} {M : MS} (hR : RF S S m A M) (hI : MI c M) (hc : c < 512) {q : Nat} {x : Int32} (hq : q < 1672) (ht : tOk (mP M) (mT M q)) : zMl l yX6_amountOf wsX6_amountOf rm_X6_amountOf [.ref m, .int (nI q), .int x] D cI cZ cO G S (fun r S' => S = S' ∧ r = amtO M q x) := by
  have := MI_p hI; have := MI_m hI; have := MI_e hI
  obtain ⟨pa, pb, hpa, hpb, hab, ea, eb⟩ := ht
  have e2 := ix_of eb (by omega)
  refine z_of (cc := cX6_amountOf) (maxL := 4) (ret := (some .long)) (lo := [some (.ref m), some (.int (nI q)), some (.int x), none]) (by decide) rfl rfl (Nat.le_of_ble_eq_true rfl) rfl ?_
  intro pp ee ss mi aa bl mh cd h0 hts hown hr hlk hnm
  have hown : ss.vm.findClass RX6 = some mi.cls := hown
  refine z_aload_n h0 dX6_amountOf_0 rfl ?_
  refine z_iload_n h0 dX6_amountOf_1 rfl ?_
  refine z_iconst (v := 0) h0 dX6_amountOf_2 (by decide) ?_
  refine z_cVi (n := 2) (As := [_, _]) h0 hts hown (c_X6_part (RF_refl hR) (p := q) (k := 0) (by omega) (by decide)) gX6_amountOf_X6_part rfl (by decide +kernel) ⟨Nat.le_of_ble_eq_true rfl, Nat.le_of_ble_eq_true rfl⟩ kOk6 rfl (RF_m hR) dX6_amountOf_3 rfl rfl (Nat.le_of_ble_eq_true rfl) ⟨Nat.le_of_ble_eq_true rfl, Nat.le_of_ble_eq_true rfl⟩ (fun r3 S3 hp3 => ?_)
  obtain ⟨rfl, hr3⟩ := hp3
  subst hr3
  refine z_iload_n h0 dX6_amountOf_6 rfl ?_
  refine z_icmp_ne (tgt := 36) h0 dX6_amountOf_7 (by decide) (fun h7 => ?_) (fun h7 => ?_)
  · refine z_iconst (v := 0) h0 dX6_amountOf_36 (by decide) ?_
    refine z_istore_n (lo' := [_, _, _, _]) h0 dX6_amountOf_37 (by decide) rfl rfl ?_
    refine z_iload_n h0 dX6_amountOf_38 rfl ?_
    refine z_if_eq (tgt := 52) h0 dX6_amountOf_39 (by decide) (fun h39 => ?_) (fun h39 => absurd (by decide) h39)
    refine z_lconst (v := 0) h0 dX6_amountOf_52 (by decide) ?_
    exact z_lret h0 hr hlk dX6_amountOf_53 (Nat.le_of_ble_eq_true rfl) (Nat.le_of_ble_eq_true rfl) (by
      refine ⟨rfl, ?_⟩
      unfold amtO
      first
        | exact (if_pos ⟨h7, bI_f hr12 h15, (congrArg (fun z => hld M z q) e2).trans (bI_t hr26 h29)⟩).symm
        | exact (if_neg (fun z => h7 z.1)).symm
        | exact (if_neg (fun z => absurd ((bI_t hr12 h15).symm.trans z.2.1) (by decide))).symm
        | exact (if_neg (fun z => absurd (((bI_f hr26 h29).symm.trans (congrArg (fun z => hld M z q) e2).symm).trans z.2.2) (by decide))).symm)
  · refine z_aload_n h0 dX6_amountOf_10 rfl ?_
    refine z_iload_n h0 dX6_amountOf_11 rfl ?_
    refine z_cVi (n := 1) (As := [_]) h0 hts hown (c_X6_isRefunded (RF_refl hR) (q := q) hq (by omega)) gX6_amountOf_X6_isRefunded rfl (by decide +kernel) ⟨Nat.le_of_ble_eq_true rfl, Nat.le_of_ble_eq_true rfl⟩ kOk6 rfl (RF_m hR) dX6_amountOf_12 rfl rfl (Nat.le_of_ble_eq_true rfl) ⟨Nat.le_of_ble_eq_true rfl, Nat.le_of_ble_eq_true rfl⟩ (fun r12 S12 hp12 => ?_)
    obtain ⟨rfl, hr12⟩ := hp12
    refine z_if_ne (tgt := 36) h0 dX6_amountOf_15 (by decide) (fun h15 => ?_) (fun h15 => ?_)
    · refine z_iconst (v := 0) h0 dX6_amountOf_36 (by decide) ?_
      refine z_istore_n (lo' := [_, _, _, _]) h0 dX6_amountOf_37 (by decide) rfl rfl ?_
      refine z_iload_n h0 dX6_amountOf_38 rfl ?_
      refine z_if_eq (tgt := 52) h0 dX6_amountOf_39 (by decide) (fun h39 => ?_) (fun h39 => absurd (by decide) h39)
      refine z_lconst (v := 0) h0 dX6_amountOf_52 (by decide) ?_
      exact z_lret h0 hr hlk dX6_amountOf_53 (Nat.le_of_ble_eq_true rfl) (Nat.le_of_ble_eq_true rfl) (by
      refine ⟨rfl, ?_⟩
      unfold amtO
      first
        | exact (if_pos ⟨h7, bI_f hr12 h15, (congrArg (fun z => hld M z q) e2).trans (bI_t hr26 h29)⟩).symm
        | exact (if_neg (fun z => h7 z.1)).symm
        | exact (if_neg (fun z => absurd ((bI_t hr12 h15).symm.trans z.2.1) (by decide))).symm
        | exact (if_neg (fun z => absurd (((bI_f hr26 h29).symm.trans (congrArg (fun z => hld M z q) e2).symm).trans z.2.2) (by decide))).symm)
    · refine z_aload_n h0 dX6_amountOf_18 rfl ?_
      refine z_aload_n h0 dX6_amountOf_19 rfl ?_
      refine z_iload_n h0 dX6_amountOf_20 rfl ?_
      refine z_iconst (v := 2) h0 dX6_amountOf_21 (by decide) ?_
      refine z_cVi (n := 2) (As := [_, _]) h0 hts hown (c_X6_part (RF_refl hR) (p := q) (k := 2) (by omega) (by decide)) gX6_amountOf_X6_part rfl (by decide +kernel) ⟨Nat.le_of_ble_eq_true rfl, Nat.le_of_ble_eq_true rfl⟩ kOk6 rfl (RF_m hR) dX6_amountOf_22 rfl rfl (Nat.le_of_ble_eq_true rfl) ⟨Nat.le_of_ble_eq_true rfl, Nat.le_of_ble_eq_true rfl⟩ (fun r22 S22 hp22 => ?_)
      obtain ⟨rfl, hr22⟩ := hp22
      subst hr22
      refine z_top eb ?_
      refine z_iload_n h0 dX6_amountOf_25 rfl ?_
      refine z_cVi (n := 2) (As := [_, _]) h0 hts hown (c_X6_holds (RF_refl hR) hI hc (p := pb) hpb hq) gX6_amountOf_X6_holds rfl (by decide +kernel) ⟨Nat.le_of_ble_eq_true rfl, Nat.le_of_ble_eq_true rfl⟩ kOk6 rfl (RF_m hR) dX6_amountOf_26 rfl rfl (Nat.le_of_ble_eq_true rfl) ⟨Nat.le_of_ble_eq_true rfl, Nat.le_of_ble_eq_true rfl⟩ (fun r26 S26 hp26 => ?_)
      obtain ⟨rfl, hr26⟩ := hp26
      refine z_if_eq (tgt := 36) h0 dX6_amountOf_29 (by decide) (fun h29 => ?_) (fun h29 => ?_)
      · refine z_iconst (v := 0) h0 dX6_amountOf_36 (by decide) ?_
        refine z_istore_n (lo' := [_, _, _, _]) h0 dX6_amountOf_37 (by decide) rfl rfl ?_
        refine z_iload_n h0 dX6_amountOf_38 rfl ?_
        refine z_if_eq (tgt := 52) h0 dX6_amountOf_39 (by decide) (fun h39 => ?_) (fun h39 => absurd (by decide) h39)
        refine z_lconst (v := 0) h0 dX6_amountOf_52 (by decide) ?_
        exact z_lret h0 hr hlk dX6_amountOf_53 (Nat.le_of_ble_eq_true rfl) (Nat.le_of_ble_eq_true rfl) (by
      refine ⟨rfl, ?_⟩
      unfold amtO
      first
        | exact (if_pos ⟨h7, bI_f hr12 h15, (congrArg (fun z => hld M z q) e2).trans (bI_t hr26 h29)⟩).symm
        | exact (if_neg (fun z => h7 z.1)).symm
        | exact (if_neg (fun z => absurd ((bI_t hr12 h15).symm.trans z.2.1) (by decide))).symm
        | exact (if_neg (fun z => absurd (((bI_f hr26 h29).symm.trans (congrArg (fun z => hld M z q) e2).symm).trans z.2.2) (by decide))).symm)
      · refine z_iconst (v := 1) h0 dX6_amountOf_32 (by decide) ?_
        refine z_goto (tgt := 37) h0 dX6_amountOf_33 (by decide) ?_
        refine z_istore_n (lo' := [_, _, _, _]) h0 dX6_amountOf_37 (by decide) rfl rfl ?_
        refine z_iload_n h0 dX6_amountOf_38 rfl ?_
        refine z_if_eq (tgt := 52) h0 dX6_amountOf_39 (by decide) (fun h39 => absurd h39 (by decide)) (fun h39 => ?_)
        refine z_aload_n h0 dX6_amountOf_42 rfl ?_
        refine z_iload_n h0 dX6_amountOf_43 rfl ?_
        refine z_iconst (v := 4) h0 dX6_amountOf_44 (by decide) ?_
        refine z_cVi (n := 2) (As := [_, _]) h0 hts hown (c_X6_part (RF_refl hR) (p := q) (k := 4) (by omega) (by decide)) gX6_amountOf_X6_part rfl (by decide +kernel) ⟨Nat.le_of_ble_eq_true rfl, Nat.le_of_ble_eq_true rfl⟩ kOk6 rfl (RF_m hR) dX6_amountOf_45 rfl rfl (Nat.le_of_ble_eq_true rfl) ⟨Nat.le_of_ble_eq_true rfl, Nat.le_of_ble_eq_true rfl⟩ (fun r45 S45 hp45 => ?_)
        obtain ⟨rfl, hr45⟩ := hp45
        subst hr45
        refine z_i2l h0 dX6_amountOf_48 ?_
        refine z_goto (tgt := 53) h0 dX6_amountOf_49 (by decide) ?_
        exact z_lret h0 hr hlk dX6_amountOf_53 (Nat.le_of_ble_eq_true rfl) (Nat.le_of_ble_eq_true rfl) (by
      refine ⟨rfl, ?_⟩
      unfold amtO
      first
        | exact (if_pos ⟨h7, bI_f hr12 h15, (congrArg (fun z => hld M z q) e2).trans (bI_t hr26 h29)⟩).symm
        | exact (if_neg (fun z => h7 z.1)).symm
        | exact (if_neg (fun z => absurd ((bI_t hr12 h15).symm.trans z.2.1) (by decide))).symm
        | exact (if_neg (fun z => absurd (((bI_f hr26 h29).symm.trans (congrArg (fun z => hld M z q) e2).symm).trans z.2.2) (by decide))).symm)

abbrev rm_X6_pending : Room := { frames := 4, cells := 0, slots := 0, locals := 94 }
set_option maxRecDepth 100000 in
set_option maxHeartbeats 4000000 in
theorem c_X6_pending {l : Launch} {D : va_G} {cI cZ cO : ClassId} {G : Nat → Nat} {S : PS} {m c : Nat} {A : Nat → Nat} {M : MS} (hR : RF S S m A M) (hI : MI c M) (hc : c < 512) : zMl l yX6_pending wsX6_pending rm_X6_pending [.ref m] D cI cZ cO G S (fun r S' => RX S S' m A M ∧ r = pndO M) := by
  refine z_of (cc := cX6_pending) (maxL := 5) (ret := (some .long)) (lo := [some (.ref m), none, none, none, none]) (by decide) rfl rfl (Nat.le_of_ble_eq_true rfl) rfl ?_
  intro pp ee ss mi aa bl mh cd h0 hts hown hr hlk hnm
  have hown : ss.vm.findClass RX6 = some mi.cls := hown
  have inX6 : ∀ w ∈ u_ws RX6 TX6 14, w ∈ wsX6_pending := by decide +kernel
  have lk_16 : zLk ss mi aa RX6 16 7 4 := ⟨RX6, TX6, 14, "PurseWorldModel", wsX6_pending, rfl, by decide, hts, inX6, hown, hts (.fieldLink RX6 16 "PurseWorldModel" "states" "[I") (by decide +kernel), fun _ h => h⟩
  have lk_19 : zLk ss mi aa RX6 19 7 5 := ⟨RX6, TX6, 14, "PurseWorldModel", wsX6_pending, rfl, by decide, hts, inX6, hown, hts (.fieldLink RX6 19 "PurseWorldModel" "logSize" "[I") (by decide +kernel), fun _ h => h⟩
  have lk_31 : zLk ss mi aa RX6 31 7 11 := ⟨RX6, TX6, 14, "PurseWorldModel", wsX6_pending, rfl, by decide, hts, inX6, hown, hts (.fieldLink RX6 31 "PurseWorldModel" "tellers" "[I") (by decide +kernel), fun _ h => h⟩
  have lk_45 : zLk ss mi aa RX6 45 7 1 := ⟨RX6, TX6, 14, "PurseWorldModel", wsX6_pending, rfl, by decide, hts, inX6, hown, hts (.fieldLink RX6 45 "PurseWorldModel" "purses" "I") (by decide +kernel), fun _ h => h⟩
  have lk_56 : zLk ss mi aa RX6 56 7 10 := ⟨RX6, TX6, 14, "PurseWorldModel", wsX6_pending, rfl, by decide, hts, inX6, hown, hts (.fieldLink RX6 56 "PurseWorldModel" "entries" "I") (by decide +kernel), fun _ h => h⟩
  have lp_41 : zLp ss mi aa mh RX6 41 7 0 .int := ⟨RX6, TX6, 14, "PurseWorldModel", wsX6_pending, tyX6, rfl, by decide, hts, inX6, hown, hts (.fieldLink RX6 41 "PurseWorldModel" "code" "I") (by decide +kernel), fun _ h => h, tyX6_ok, nmX6, by decide +kernel, Or.inl rfl⟩
  have loopE : ∀ (n i : Nat) (b : Int64) (z5 : Option Value) (S1 : PS), mE M - i < n → i ≤ mE M → b = sumTo (pndP M) (mP M) + sumTo (pndE M) i → RX S S1 m A M → RF S1 S1 m A M → ZW pp l ee rm_X6_pending ss mi aa bl mh cd D cI cZ cO (zA cI cZ cO S ss.heap.size) (MQ bl (zQl D cI cZ cO S (fun r S' => RX S S' m A M ∧ r = pndO M) ss.heap.size) aa ss rm_X6_pending.cells rm_X6_pending.slots (zA cI cZ cO S ss.heap.size)) [] 5 S1 0 0 85 [some (.ref m), some (.long b), none, some (.int (nI i)), z5] [] := by
    intro n
    induction n with
    | zero => intro i b z5 S1 h; exact absurd h (Nat.not_lt_zero _)
    | succ n ih =>
      intro i b z5 S1 hm hi hb hX hR
      have := MI_p hI; have := MI_m hI; have := MI_e hI
      refine z_iload_n h0 dX6_pending_85 rfl ?_
      refine z_aload_n h0 dX6_pending_86 rfl ?_
      refine z_getSE h0 hR fI18 lk_56 dX6_pending_87 ?_
      refine z_icmp_ge (tgt := 139) h0 dX6_pending_90 (by decide) (fun h90 => ?_) (fun h90 => ?_)
      · refine z_lload_n h0 dX6_pending_139 rfl ?_
        exact z_lret h0 hr hlk dX6_pending_140 (Nat.le_of_ble_eq_true rfl) (Nat.le_of_ble_eq_true rfl) ⟨hX, by rw [hb, Nat.le_antisymm hi (nI_geof h90 (by omega) (by omega))]; rfl⟩
      · have hlt : i < mE M := nI_ltof h90 (by omega)
        obtain ⟨te, hte, ete, _⟩ := (hI.2.2.2.2.2.2.1 i hlt).2.1
        have et := ix_of ete (by omega)
        refine z_lload_n h0 dX6_pending_93 rfl ?_
        refine z_aload_n h0 dX6_pending_94 rfl ?_
        refine z_aload_n h0 dX6_pending_95 rfl ?_
        refine z_getA h0 hR 7 (by decide) fO17 rfl lk_31 dX6_pending_96 ?_
        refine z_iload_n h0 dX6_pending_99 rfl ?_
        refine z_ialdR h0 hR 7 (by decide) rfl dX6_pending_100 (nI_toInt (by first | omega | (dsimp only [sA, sT, mP, mM, mE] at *; omega))) (by simp only [rLen]; first | omega | (dsimp only [sA, sT, mP, mM, mE] at *; omega)) ?_
        refine z_top ete ?_
        refine z_sipush (v := 872) h0 dX6_pending_101 (by decide) ?_
        refine z_iload_n h0 dX6_pending_104 rfl ?_
        refine z_iadd h0 dX6_pending_105 ?_
        refine z_top (y := nI (872 + i)) (by rw [zc872, nI_add]) ?_
        refine z_cVi (n := 2) (As := [_, _]) h0 hts hown (c_X6_isInLog hR (p := te) (by omega) (MI_ln hI hte).1 (MI_ln hI hte).2 (q := 872 + i) (by omega)) gX6_pending_X6_isInLog rfl (by decide +kernel) ⟨Nat.le_of_ble_eq_true rfl, Nat.le_of_ble_eq_true rfl⟩ kOk6 rfl (RF_m hR) dX6_pending_106 rfl rfl (Nat.le_of_ble_eq_true rfl) ⟨Nat.le_of_ble_eq_true rfl, Nat.le_of_ble_eq_true rfl⟩ (fun r106 S106 hp106 => ?_)
        obtain ⟨rfl, hr106⟩ := hp106
        refine z_if_eq (tgt := 116) h0 dX6_pending_109 (by decide) (fun h109 => ?_) (fun h109 => ?_)
        · refine z_aload_n h0 dX6_pending_116 rfl ?_
          refine z_sipush (v := 872) h0 dX6_pending_117 (by decide) ?_
          refine z_iload_n h0 dX6_pending_120 rfl ?_
          refine z_iadd h0 dX6_pending_121 ?_
          refine z_top (y := nI (872 + i)) (by rw [zc872, nI_add]) ?_
          refine z_aload_n h0 dX6_pending_122 rfl ?_
          refine z_getA h0 hR 7 (by decide) fO17 rfl lk_31 dX6_pending_123 ?_
          refine z_iload_n h0 dX6_pending_126 rfl ?_
          refine z_ialdR h0 hR 7 (by decide) rfl dX6_pending_127 (nI_toInt (by first | omega | (dsimp only [sA, sT, mP, mM, mE] at *; omega))) (by simp only [rLen]; first | omega | (dsimp only [sA, sT, mP, mM, mE] at *; omega)) ?_
          refine z_cVl (n := 2) (As := [_, _]) h0 hts hown (c_X6_amountOf hR hI hc (q := 872 + i) (by omega) (hI.2.2.2.2.2.2.1 i hlt).1) gX6_pending_X6_amountOf rfl (by decide +kernel) ⟨Nat.le_of_ble_eq_true rfl, Nat.le_of_ble_eq_true rfl⟩ kOk6 rfl (RF_m hR) dX6_pending_128 rfl rfl (Nat.le_of_ble_eq_true rfl) ⟨Nat.le_of_ble_eq_true rfl, Nat.le_of_ble_eq_true rfl⟩ (fun r128 S128 hp128 => ?_)
          obtain ⟨rfl, hr128⟩ := hp128
          refine z_ladd h0 dX6_pending_131 ?_
          refine z_lstore_n (lo' := [_, _, _, _, _]) h0 dX6_pending_132 (by decide) rfl rfl ?_
          refine z_iinc (lo' := [_, _, _, _, _]) (v := nI (i + 1)) h0 dX6_pending_133 rfl (nI_1 i) (by decide) rfl rfl ?_
          refine z_goto (tgt := 85) h0 dX6_pending_136 (by decide) ?_
          exact ih (i + 1) _ _ _ (by omega) (by omega) (by rw [hb, sum_s, Int64.add_assoc]; congr 2; unfold pndE; rw [et, if_neg (by unfold inLg; rw [bI_f hr106 h109]; decide)]; exact hr128) hX hR
        · refine z_lconst (v := 0) h0 dX6_pending_112 (by decide) ?_
          refine z_goto (tgt := 131) h0 dX6_pending_113 (by decide) ?_
          refine z_ladd h0 dX6_pending_131 ?_
          refine z_lstore_n (lo' := [_, _, _, _, _]) h0 dX6_pending_132 (by decide) rfl rfl ?_
          refine z_iinc (lo' := [_, _, _, _, _]) (v := nI (i + 1)) h0 dX6_pending_133 rfl (nI_1 i) (by decide) rfl rfl ?_
          refine z_goto (tgt := 85) h0 dX6_pending_136 (by decide) ?_
          exact ih (i + 1) _ _ _ (by omega) (by omega) (by rw [hb, sum_s, Int64.add_assoc]; congr 2; unfold pndE; rw [et]; exact (if_pos (bI_t hr106 h109)).symm) hX hR
  have loopP : ∀ (n p : Nat) (b : Int64) (z5 : Option Value) (S1 : PS), mP M - p < n → p ≤ mP M → b = sumTo (pndP M) p → RX S S1 m A M → RF S1 S1 m A M → ZW pp l ee rm_X6_pending ss mi aa bl mh cd D cI cZ cO (zA cI cZ cO S ss.heap.size) (MQ bl (zQl D cI cZ cO S (fun r S' => RX S S' m A M ∧ r = pndO M) ss.heap.size) aa ss rm_X6_pending.cells rm_X6_pending.slots (zA cI cZ cO S ss.heap.size)) [] 5 S1 0 0 9 [some (.ref m), some (.long b), none, some (.int (nI p)), z5] [] := by
    intro n
    induction n with
    | zero => intro p b z5 S1 h; exact absurd h (Nat.not_lt_zero _)
    | succ n ih =>
      intro p b z5 S1 hm hi hb hX hR
      have := MI_p hI; have := MI_m hI; have := MI_e hI
      have loopI : ∀ (n2 k : Nat) (b : Int64), p < mP M → lnN M p - k < n2 → k ≤ lnN M p → b = (sumTo (pndP M) p + (if mA M 2 p = 3 then amtO M p (nI p) else 0)) + sumTo (fun k => amtO M (12 + 5 * p + k) (nI p)) k → ZW pp l ee rm_X6_pending ss mi aa bl mh cd D cI cZ cO (zA cI cZ cO S ss.heap.size) (MQ bl (zQl D cI cZ cO S (fun r S' => RX S S' m A M ∧ r = pndO M) ss.heap.size) aa ss rm_X6_pending.cells rm_X6_pending.slots (zA cI cZ cO S ss.heap.size)) [] 5 S1 0 0 43 [some (.ref m), some (.long b), none, some (.int (nI p)), some (.int (nI k))] [] := by
        intro n2
        induction n2 with
        | zero => intro k b _ h; exact absurd h (Nat.not_lt_zero _)
        | succ n2 ih2 =>
          intro k b hp hm2 hk hb2
          have hl := MI_ln hI hp
          obtain ⟨s, n0, v, _, _, e3, _, _, _, _, _, hlog, _⟩ := hI.2.2.2.1 p hp
          have en := lnN_of e3 (by omega)
          refine z_iload h0 dX6_pending_43 rfl ?_
          refine z_aload_n h0 dX6_pending_45 rfl ?_
          refine z_getA h0 hR 3 (by decide) fO13 rfl lk_19 dX6_pending_46 ?_
          refine z_iload_n h0 dX6_pending_49 rfl ?_
          refine z_ialdR h0 hR 3 (by decide) rfl dX6_pending_50 (nI_toInt (by first | omega | (dsimp only [sA, sT, mP, mM, mE] at *; omega))) (by simp only [rLen]; first | omega | (dsimp only [sA, sT, mP, mM, mE] at *; omega)) ?_
          refine z_top hl.1 ?_
          refine z_icmp_ge (tgt := 77) h0 dX6_pending_51 (by decide) (fun h51 => ?_) (fun h51 => ?_)
          · refine z_iinc (lo' := [_, _, _, _, _]) (v := nI (p + 1)) h0 dX6_pending_77 rfl (nI_1 p) (by decide) rfl rfl ?_
            refine z_goto (tgt := 9) h0 dX6_pending_80 (by decide) ?_
            exact ih (p + 1) _ _ S1 (by omega) (by omega) (by rw [hb2, Nat.le_antisymm hk (nI_geof h51 (by omega) (by omega)), Int64.add_assoc]; rfl) hX hR
          · have hlt : k < lnN M p := nI_ltof h51 (by omega)
            refine z_lload_n h0 dX6_pending_54 rfl ?_
            refine z_aload_n h0 dX6_pending_55 rfl ?_
            refine z_bipush (v := 12) h0 dX6_pending_56 (by decide) ?_
            refine z_iconst (v := 5) h0 dX6_pending_58 (by decide) ?_
            refine z_iload_n h0 dX6_pending_59 rfl ?_
            refine z_imul h0 dX6_pending_60 ?_
            refine z_iadd h0 dX6_pending_61 ?_
            refine z_iload h0 dX6_pending_62 rfl ?_
            refine z_iadd h0 dX6_pending_64 ?_
            refine z_top (y := nI (12 + 5 * p + k)) (by rw [zc5, zc12, pk_mul, nI_add, nI_add]) ?_
            refine z_iload_n h0 dX6_pending_65 rfl ?_
            refine z_cVl (n := 2) (As := [_, _]) h0 hts hown (c_X6_amountOf hR hI hc (q := 12 + 5 * p + k) (by omega) (hlog k (by omega)).1) gX6_pending_X6_amountOf rfl (by decide +kernel) ⟨Nat.le_of_ble_eq_true rfl, Nat.le_of_ble_eq_true rfl⟩ kOk6 rfl (RF_m hR) dX6_pending_66 rfl rfl (Nat.le_of_ble_eq_true rfl) ⟨Nat.le_of_ble_eq_true rfl, Nat.le_of_ble_eq_true rfl⟩ (fun r66 S66 hp66 => ?_)
            obtain ⟨rfl, hr66⟩ := hp66
            refine z_ladd h0 dX6_pending_69 ?_
            refine z_lstore_n (lo' := [_, _, _, _, _]) h0 dX6_pending_70 (by decide) rfl rfl ?_
            refine z_iinc (lo' := [_, _, _, _, _]) (v := nI (k + 1)) h0 dX6_pending_71 rfl (nI_1 k) (by decide) rfl rfl ?_
            refine z_goto (tgt := 43) h0 dX6_pending_74 (by decide) ?_
            exact ih2 (k + 1) _ hp (by omega) (by omega) (by rw [hb2, hr66, sum_s, Int64.add_assoc])
      refine z_iload_n h0 dX6_pending_9 rfl ?_
      refine z_aload_n h0 dX6_pending_10 rfl ?_
      refine z_getSP h0 hR fI16 lk_45 dX6_pending_11 ?_
      refine z_icmp_ge (tgt := 83) h0 dX6_pending_14 (by decide) (fun h14 => ?_) (fun h14 => ?_)
      · refine z_iconst (v := 0) h0 dX6_pending_83 (by decide) ?_
        refine z_istore_n (lo' := [_, _, _, _, _]) h0 dX6_pending_84 (by decide) rfl rfl ?_
        exact loopE (mE M + 1) 0 _ _ _ (by omega) (Nat.zero_le _) (by rw [hb, Nat.le_antisymm hi (nI_geof h14 (by omega) (by omega))]; exact (Int64.add_zero _).symm) hX hR
      · have hlt : p < mP M := nI_ltof h14 (by omega)
        refine z_lload_n h0 dX6_pending_17 rfl ?_
        refine z_aload_n h0 dX6_pending_18 rfl ?_
        refine z_getA h0 hR 2 (by decide) fO12 rfl lk_16 dX6_pending_19 ?_
        refine z_iload_n h0 dX6_pending_22 rfl ?_
        refine z_ialdR h0 hR 2 (by decide) rfl dX6_pending_23 (nI_toInt (by first | omega | (dsimp only [sA, sT, mP, mM, mE] at *; omega))) (by simp only [rLen]; first | omega | (dsimp only [sA, sT, mP, mM, mE] at *; omega)) ?_
        refine z_iconst (v := 3) h0 dX6_pending_24 (by decide) ?_
        refine z_icmp_ne (tgt := 37) h0 dX6_pending_25 (by decide) (fun h25 => ?_) (fun h25 => ?_)
        · refine z_lconst (v := 0) h0 dX6_pending_37 (by decide) ?_
          refine z_ladd h0 dX6_pending_38 ?_
          refine z_lstore_n (lo' := [_, _, _, _, _]) h0 dX6_pending_39 (by decide) rfl rfl ?_
          refine z_iconst (v := 0) h0 dX6_pending_40 (by decide) ?_
          refine z_istore (lo' := [_, _, _, _, _]) h0 dX6_pending_41 (by decide) rfl rfl ?_
          exact loopI (lnN M p + 1) 0 _ hlt (by omega) (Nat.zero_le _) (by rw [if_neg h25, hb, sum_0, Int64.add_zero, Int64.add_zero])
        · obtain ⟨s, n0, v, es, _, _, _, _, _, _, hcur, _⟩ := hI.2.2.2.1 p hlt
          have hs3 : s = 3 := (nI_eq (b := 3) (by omega) (by decide)).mp (es.symm.trans h25)
          refine z_aload_n h0 dX6_pending_28 rfl ?_
          refine z_iload_n h0 dX6_pending_29 rfl ?_
          refine z_iload_n h0 dX6_pending_30 rfl ?_
          refine z_cVl (n := 2) (As := [_, _]) h0 hts hown (c_X6_amountOf hR hI hc (q := p) (by omega) (hcur (by omega)).2.1) gX6_pending_X6_amountOf rfl (by decide +kernel) ⟨Nat.le_of_ble_eq_true rfl, Nat.le_of_ble_eq_true rfl⟩ kOk6 rfl (RF_m hR) dX6_pending_31 rfl rfl (Nat.le_of_ble_eq_true rfl) ⟨Nat.le_of_ble_eq_true rfl, Nat.le_of_ble_eq_true rfl⟩ (fun r31 S31 hp31 => ?_)
          obtain ⟨rfl, hr31⟩ := hp31
          refine z_goto (tgt := 38) h0 dX6_pending_34 (by decide) ?_
          refine z_ladd h0 dX6_pending_38 ?_
          refine z_lstore_n (lo' := [_, _, _, _, _]) h0 dX6_pending_39 (by decide) rfl rfl ?_
          refine z_iconst (v := 0) h0 dX6_pending_40 (by decide) ?_
          refine z_istore (lo' := [_, _, _, _, _]) h0 dX6_pending_41 (by decide) rfl rfl ?_
          exact loopI (lnN M p + 1) 0 _ hlt (by omega) (Nat.zero_le _) (by rw [if_pos h25, hb, hr31, sum_0, Int64.add_zero])
  refine z_aload_n h0 dX6_pending_0 rfl ?_
  refine z_iconst (v := 0) h0 dX6_pending_1 (by decide) ?_
  refine z_putC h0 hR.1 fI15 lp_41 dX6_pending_2 (fun S2 hX hR hcode => ?_)
  refine z_lconst (v := 0) h0 dX6_pending_5 (by decide) ?_
  refine z_lstore_n (lo' := [_, _, _, _, _]) h0 dX6_pending_6 (by decide) rfl rfl ?_
  refine z_iconst (v := 0) h0 dX6_pending_7 (by decide) ?_
  refine z_istore_n (lo' := [_, _, _, _, _]) h0 dX6_pending_8 (by decide) rfl rfl ?_
  exact loopP (mP M + 1) 0 _ _ _ (by omega) (Nat.zero_le _) rfl hX hR

set_option maxRecDepth 100000 in
set_option maxHeartbeats 4000000 in
theorem c_X6_takesOther_2x {l : Launch} {D : va_G} {cI cZ cO : ClassId} {G : Nat → Nat} {S : PS} {m : Nat} {A : Nat → Nat} {M : MS} (hR : RF S S m A M) {p q : Nat} (hp : p < 12) (hq : q < 1672) (hw : wts M p 1 q = true → mM M < 800) : zMi l yX6_takesOther wsX6_takesOther rm_X6_takesOther [.ref m, .int (nI p), .int 2, .int (nI q)] D cI cZ cO G S (fun r S' => RF S S' m A (if wts M p 1 q then mAsk M p q else M) ∧ r = bI (wts M p 1 q)) := by
  refine z_of (cc := cX6_takesOther) (maxL := 5) (ret := (some .boolean)) (lo := [some (.ref m), some (.int (nI p)), some (.int 2), some (.int (nI q)), none]) (by decide) rfl rfl (Nat.le_of_ble_eq_true rfl) rfl ?_
  intro pp ee ss mi aa bl mh cd h0 hts hown hr hlk hnm
  have hown : ss.vm.findClass RX6 = some mi.cls := hown
  have inX6 : ∀ w ∈ u_ws RX6 TX6 14, w ∈ wsX6_takesOther := by decide +kernel
  have lk_7 : zLk ss mi aa RX6 7 7 2 := ⟨RX6, TX6, 14, "PurseWorldModel", wsX6_takesOther, rfl, by decide, hts, inX6, hown, hts (.fieldLink RX6 7 "PurseWorldModel" "balances" "[I") (by decide +kernel), fun _ h => h⟩
  have lk_16 : zLk ss mi aa RX6 16 7 4 := ⟨RX6, TX6, 14, "PurseWorldModel", wsX6_takesOther, rfl, by decide, hts, inX6, hown, hts (.fieldLink RX6 16 "PurseWorldModel" "states" "[I") (by decide +kernel), fun _ h => h⟩
  refine z_aload_n h0 dX6_takesOther_0 rfl ?_
  refine z_iload_n h0 dX6_takesOther_1 rfl ?_
  refine z_iload_n h0 dX6_takesOther_2 rfl ?_
  refine z_iconst (v := 2) h0 dX6_takesOther_3 (by decide) ?_
  refine z_icmp_ne (tgt := 11) h0 dX6_takesOther_4 (by decide) (fun h4 => absurd rfl h4) (fun h4 => ?_)
  refine z_iconst (v := 1) h0 dX6_takesOther_7 (by decide) ?_
  refine z_goto (tgt := 21) h0 dX6_takesOther_8 (by decide) ?_
  refine z_iload_n h0 dX6_takesOther_21 rfl ?_
  refine z_cVi (n := 3) (As := [_, _, _]) h0 hts hown (c_X6_waits hR hp hq) gX6_takesOther_X6_waits rfl (by decide +kernel) ⟨Nat.le_of_ble_eq_true rfl, Nat.le_of_ble_eq_true rfl⟩ kOk6 rfl (RF_m hR) dX6_takesOther_22 rfl rfl (Nat.le_of_ble_eq_true rfl) ⟨Nat.le_of_ble_eq_true rfl, Nat.le_of_ble_eq_true rfl⟩ (fun r22 S22 hp22 => ?_)
  obtain ⟨rfl, hr22⟩ := hp22
  refine z_istore (lo' := [_, _, _, _, _]) h0 dX6_takesOther_25 (by decide) rfl rfl ?_
  refine z_iload h0 dX6_takesOther_27 rfl ?_
  refine z_if_eq (tgt := 74) h0 dX6_takesOther_29 (by decide) (fun h29 => ?_) (fun h29 => ?_)
  · refine z_iload h0 dX6_takesOther_74 rfl ?_
    refine z_if_eq (tgt := 127) h0 dX6_takesOther_76 (by decide) (fun h76 => ?_) (fun h76 => absurd h29 h76)
    refine z_iload h0 dX6_takesOther_127 rfl ?_
    exact z_zret h0 hr (by rw [hr22]; exact bI_nar _) hlk dX6_takesOther_129 (Nat.le_of_ble_eq_true rfl) (Nat.le_of_ble_eq_true rfl) (by have hb := bI_f hr22 h29; unfold wts; rw [hb]; exact ⟨hR, hr22.trans (congrArg bI hb)⟩)
  · have hm8 := hw (bI_t hr22 h29)
    refine z_iload_n h0 dX6_takesOther_32 rfl ?_
    refine z_iconst (v := 2) h0 dX6_takesOther_33 (by decide) ?_
    refine z_icmp_ne (tgt := 74) h0 dX6_takesOther_34 (by decide) (fun h34 => absurd rfl h34) (fun h34 => ?_)
    refine z_aload_n h0 dX6_takesOther_37 rfl ?_
    refine z_getA h0 hR 0 (by decide) fO10 rfl lk_7 dX6_takesOther_38 ?_
    refine z_iload_n h0 dX6_takesOther_41 rfl ?_
    refine z_dup2 h0 dX6_takesOther_42 rfl rfl ?_
    refine z_ialdR h0 hR 0 (by decide) rfl dX6_takesOther_43 (nI_toInt (by first | omega | (dsimp only [sA, sT, mP, mM, mE] at *; omega))) (by simp only [rLen]; first | omega | (dsimp only [sA, sT, mP, mM, mE] at *; omega)) ?_
    refine z_aload_n h0 dX6_takesOther_44 rfl ?_
    refine z_iload_n h0 dX6_takesOther_45 rfl ?_
    refine z_iconst (v := 4) h0 dX6_takesOther_46 (by decide) ?_
    refine z_cVi (n := 2) (As := [_, _]) h0 hts hown (c_X6_part (RF_refl hR) (p := q) (k := 4) hq (by decide)) gX6_takesOther_X6_part rfl (by decide +kernel) ⟨Nat.le_of_ble_eq_true rfl, Nat.le_of_ble_eq_true rfl⟩ kOk6 rfl (RF_m hR) dX6_takesOther_47 rfl rfl (Nat.le_of_ble_eq_true rfl) ⟨Nat.le_of_ble_eq_true rfl, Nat.le_of_ble_eq_true rfl⟩ (fun r47 S47 hp47 => ?_)
    obtain ⟨rfl, hr47⟩ := hp47
    subst hr47
    refine z_isub h0 dX6_takesOther_50 ?_
    refine z_iastR h0 hR 0 (by decide) rfl dX6_takesOther_51 (nI_toInt (by first | omega | (dsimp only [sA, sT, mP, mM, mE] at *; omega))) (by simp only [rLen]; first | omega | (dsimp only [sA, sT, mP, mM, mE] at *; omega)) (fun hR => ?_)
    refine z_aload_n h0 dX6_takesOther_52 rfl ?_
    refine z_getA h0 hR 2 (by decide) fO12 rfl lk_16 dX6_takesOther_53 ?_
    refine z_iload_n h0 dX6_takesOther_56 rfl ?_
    refine z_iconst (v := 3) h0 dX6_takesOther_57 (by decide) ?_
    refine z_iastR h0 hR 2 (by decide) rfl dX6_takesOther_58 (nI_toInt (by first | omega | (dsimp only [sA, sT, mP, mM, mE] at *; omega))) (by simp only [rLen]; first | omega | (dsimp only [sA, sT, mP, mM, mE] at *; omega)) (fun hR => ?_)
    refine z_aload_n h0 dX6_takesOther_59 rfl ?_
    refine z_iconst (v := 3) h0 dX6_takesOther_60 (by decide) ?_
    refine z_aload_n h0 dX6_takesOther_61 rfl ?_
    refine z_iload_n h0 dX6_takesOther_62 rfl ?_
    refine z_iconst (v := 2) h0 dX6_takesOther_63 (by decide) ?_
    refine z_cVi (n := 2) (As := [_, _]) h0 hts hown (c_X6_part (RF_refl hR) (p := q) (k := 2) hq (by decide)) gX6_takesOther_X6_part rfl (by decide +kernel) ⟨Nat.le_of_ble_eq_true rfl, Nat.le_of_ble_eq_true rfl⟩ kOk6 rfl (RF_m hR) dX6_takesOther_64 rfl rfl (Nat.le_of_ble_eq_true rfl) ⟨Nat.le_of_ble_eq_true rfl, Nat.le_of_ble_eq_true rfl⟩ (fun r64 S64 hp64 => ?_)
    obtain ⟨rfl, hr64⟩ := hp64
    subst hr64
    refine z_iload_n h0 dX6_takesOther_67 rfl ?_
    refine z_cVv (n := 3) (As := [_, _, _]) h0 hts hown (c_X6_send (RF_refl hR) (by dsimp only [sA, sT, mM] at *; omega) (q := q) hq) gX6_takesOther_X6_send rfl (by decide +kernel) ⟨Nat.le_of_ble_eq_true rfl, Nat.le_of_ble_eq_true rfl⟩ kOk6 rfl (RF_m hR) dX6_takesOther_68 rfl rfl (Nat.le_of_ble_eq_true rfl) ⟨Nat.le_of_ble_eq_true rfl, Nat.le_of_ble_eq_true rfl⟩ (fun S68 hp68 => ?_)
    have hR := RF_trans hR hp68
    refine z_goto (tgt := 127) h0 dX6_takesOther_71 (by decide) ?_
    refine z_iload h0 dX6_takesOther_127 rfl ?_
    exact z_zret h0 hr (by rw [hr22]; exact bI_nar _) hlk dX6_takesOther_129 (Nat.le_of_ble_eq_true rfl) (Nat.le_of_ble_eq_true rfl) (by have hb := bI_t hr22 h29; unfold wts; rw [hb]; exact ⟨hR, hr22.trans (congrArg bI hb)⟩)

set_option maxRecDepth 100000 in
set_option maxHeartbeats 4000000 in
theorem c_X6_takesOther_3x {l : Launch} {D : va_G} {cI cZ cO : ClassId} {G : Nat → Nat} {S : PS} {m : Nat} {A : Nat → Nat} {M : MS} (hR : RF S S m A M) {p q : Nat} (hp : p < 12) (hq : q < 1672) (hw : wts M p 2 q = true → mM M < 800) : zMi l yX6_takesOther wsX6_takesOther rm_X6_takesOther [.ref m, .int (nI p), .int 3, .int (nI q)] D cI cZ cO G S (fun r S' => RF S S' m A (if wts M p 2 q then mVal M p q else M) ∧ r = bI (wts M p 2 q)) := by
  refine z_of (cc := cX6_takesOther) (maxL := 5) (ret := (some .boolean)) (lo := [some (.ref m), some (.int (nI p)), some (.int 3), some (.int (nI q)), none]) (by decide) rfl rfl (Nat.le_of_ble_eq_true rfl) rfl ?_
  intro pp ee ss mi aa bl mh cd h0 hts hown hr hlk hnm
  have hown : ss.vm.findClass RX6 = some mi.cls := hown
  have inX6 : ∀ w ∈ u_ws RX6 TX6 14, w ∈ wsX6_takesOther := by decide +kernel
  have lk_7 : zLk ss mi aa RX6 7 7 2 := ⟨RX6, TX6, 14, "PurseWorldModel", wsX6_takesOther, rfl, by decide, hts, inX6, hown, hts (.fieldLink RX6 7 "PurseWorldModel" "balances" "[I") (by decide +kernel), fun _ h => h⟩
  have lk_16 : zLk ss mi aa RX6 16 7 4 := ⟨RX6, TX6, 14, "PurseWorldModel", wsX6_takesOther, rfl, by decide, hts, inX6, hown, hts (.fieldLink RX6 16 "PurseWorldModel" "states" "[I") (by decide +kernel), fun _ h => h⟩
  refine z_aload_n h0 dX6_takesOther_0 rfl ?_
  refine z_iload_n h0 dX6_takesOther_1 rfl ?_
  refine z_iload_n h0 dX6_takesOther_2 rfl ?_
  refine z_iconst (v := 2) h0 dX6_takesOther_3 (by decide) ?_
  refine z_icmp_ne (tgt := 11) h0 dX6_takesOther_4 (by decide) (fun h4 => ?_) (fun h4 => absurd h4 (by decide))
  refine z_iload_n h0 dX6_takesOther_11 rfl ?_
  refine z_iconst (v := 3) h0 dX6_takesOther_12 (by decide) ?_
  refine z_icmp_ne (tgt := 20) h0 dX6_takesOther_13 (by decide) (fun h13 => absurd rfl h13) (fun h13 => ?_)
  refine z_iconst (v := 2) h0 dX6_takesOther_16 (by decide) ?_
  refine z_goto (tgt := 21) h0 dX6_takesOther_17 (by decide) ?_
  refine z_iload_n h0 dX6_takesOther_21 rfl ?_
  refine z_cVi (n := 3) (As := [_, _, _]) h0 hts hown (c_X6_waits hR hp hq) gX6_takesOther_X6_waits rfl (by decide +kernel) ⟨Nat.le_of_ble_eq_true rfl, Nat.le_of_ble_eq_true rfl⟩ kOk6 rfl (RF_m hR) dX6_takesOther_22 rfl rfl (Nat.le_of_ble_eq_true rfl) ⟨Nat.le_of_ble_eq_true rfl, Nat.le_of_ble_eq_true rfl⟩ (fun r22 S22 hp22 => ?_)
  obtain ⟨rfl, hr22⟩ := hp22
  refine z_istore (lo' := [_, _, _, _, _]) h0 dX6_takesOther_25 (by decide) rfl rfl ?_
  refine z_iload h0 dX6_takesOther_27 rfl ?_
  refine z_if_eq (tgt := 74) h0 dX6_takesOther_29 (by decide) (fun h29 => ?_) (fun h29 => ?_)
  · refine z_iload h0 dX6_takesOther_74 rfl ?_
    refine z_if_eq (tgt := 127) h0 dX6_takesOther_76 (by decide) (fun h76 => ?_) (fun h76 => absurd h29 h76)
    refine z_iload h0 dX6_takesOther_127 rfl ?_
    exact z_zret h0 hr (by rw [hr22]; exact bI_nar _) hlk dX6_takesOther_129 (Nat.le_of_ble_eq_true rfl) (Nat.le_of_ble_eq_true rfl) (by have hb := bI_f hr22 h29; unfold wts; rw [hb]; exact ⟨hR, hr22.trans (congrArg bI hb)⟩)
  · have hm8 := hw (bI_t hr22 h29)
    refine z_iload_n h0 dX6_takesOther_32 rfl ?_
    refine z_iconst (v := 2) h0 dX6_takesOther_33 (by decide) ?_
    refine z_icmp_ne (tgt := 74) h0 dX6_takesOther_34 (by decide) (fun h34 => ?_) (fun h34 => absurd h34 (by decide))
    refine z_iload h0 dX6_takesOther_74 rfl ?_
    refine z_if_eq (tgt := 127) h0 dX6_takesOther_76 (by decide) (fun h76 => absurd h76 h29) (fun h76 => ?_)
    have hm8 := hw (bI_t hr22 h29)
    refine z_aload_n h0 dX6_takesOther_79 rfl ?_
    refine z_getA h0 hR 0 (by decide) fO10 rfl lk_7 dX6_takesOther_80 ?_
    refine z_iload_n h0 dX6_takesOther_83 rfl ?_
    refine z_dup2 h0 dX6_takesOther_84 rfl rfl ?_
    refine z_ialdR h0 hR 0 (by decide) rfl dX6_takesOther_85 (nI_toInt (by first | omega | (dsimp only [sA, sT, mP, mM, mE] at *; omega))) (by simp only [rLen]; first | omega | (dsimp only [sA, sT, mP, mM, mE] at *; omega)) ?_
    refine z_iload_n h0 dX6_takesOther_86 rfl ?_
    refine z_iconst (v := 3) h0 dX6_takesOther_87 (by decide) ?_
    refine z_icmp_ne (tgt := 100) h0 dX6_takesOther_88 (by decide) (fun h88 => absurd rfl h88) (fun h88 => ?_)
    refine z_aload_n h0 dX6_takesOther_91 rfl ?_
    refine z_iload_n h0 dX6_takesOther_92 rfl ?_
    refine z_iconst (v := 4) h0 dX6_takesOther_93 (by decide) ?_
    refine z_cVi (n := 2) (As := [_, _]) h0 hts hown (c_X6_part (RF_refl hR) (p := q) (k := 4) hq (by decide)) gX6_takesOther_X6_part rfl (by decide +kernel) ⟨Nat.le_of_ble_eq_true rfl, Nat.le_of_ble_eq_true rfl⟩ kOk6 rfl (RF_m hR) dX6_takesOther_94 rfl rfl (Nat.le_of_ble_eq_true rfl) ⟨Nat.le_of_ble_eq_true rfl, Nat.le_of_ble_eq_true rfl⟩ (fun r94 S94 hp94 => ?_)
    obtain ⟨rfl, hr94⟩ := hp94
    subst hr94
    refine z_goto (tgt := 101) h0 dX6_takesOther_97 (by decide) ?_
    refine z_iadd h0 dX6_takesOther_101 ?_
    refine z_iastR h0 hR 0 (by decide) rfl dX6_takesOther_102 (nI_toInt (by first | omega | (dsimp only [sA, sT, mP, mM, mE] at *; omega))) (by simp only [rLen]; first | omega | (dsimp only [sA, sT, mP, mM, mE] at *; omega)) (fun hR => ?_)
    refine z_aload_n h0 dX6_takesOther_103 rfl ?_
    refine z_getA h0 hR 2 (by decide) fO12 rfl lk_16 dX6_takesOther_104 ?_
    refine z_iload_n h0 dX6_takesOther_107 rfl ?_
    refine z_iconst (v := 0) h0 dX6_takesOther_108 (by decide) ?_
    refine z_iastR h0 hR 2 (by decide) rfl dX6_takesOther_109 (nI_toInt (by first | omega | (dsimp only [sA, sT, mP, mM, mE] at *; omega))) (by simp only [rLen]; first | omega | (dsimp only [sA, sT, mP, mM, mE] at *; omega)) (fun hR => ?_)
    refine z_iload_n h0 dX6_takesOther_110 rfl ?_
    refine z_iconst (v := 3) h0 dX6_takesOther_111 (by decide) ?_
    refine z_icmp_ne (tgt := 127) h0 dX6_takesOther_112 (by decide) (fun h112 => absurd rfl h112) (fun h112 => ?_)
    refine z_aload_n h0 dX6_takesOther_115 rfl ?_
    refine z_iconst (v := 4) h0 dX6_takesOther_116 (by decide) ?_
    refine z_aload_n h0 dX6_takesOther_117 rfl ?_
    refine z_iload_n h0 dX6_takesOther_118 rfl ?_
    refine z_iconst (v := 0) h0 dX6_takesOther_119 (by decide) ?_
    refine z_cVi (n := 2) (As := [_, _]) h0 hts hown (c_X6_part (RF_refl hR) (p := q) (k := 0) hq (by decide)) gX6_takesOther_X6_part rfl (by decide +kernel) ⟨Nat.le_of_ble_eq_true rfl, Nat.le_of_ble_eq_true rfl⟩ kOk6 rfl (RF_m hR) dX6_takesOther_120 rfl rfl (Nat.le_of_ble_eq_true rfl) ⟨Nat.le_of_ble_eq_true rfl, Nat.le_of_ble_eq_true rfl⟩ (fun r120 S120 hp120 => ?_)
    obtain ⟨rfl, hr120⟩ := hp120
    subst hr120
    refine z_iload_n h0 dX6_takesOther_123 rfl ?_
    refine z_cVv (n := 3) (As := [_, _, _]) h0 hts hown (c_X6_send (RF_refl hR) (by dsimp only [sA, sT, mM] at *; omega) (q := q) hq) gX6_takesOther_X6_send rfl (by decide +kernel) ⟨Nat.le_of_ble_eq_true rfl, Nat.le_of_ble_eq_true rfl⟩ kOk6 rfl (RF_m hR) dX6_takesOther_124 rfl rfl (Nat.le_of_ble_eq_true rfl) ⟨Nat.le_of_ble_eq_true rfl, Nat.le_of_ble_eq_true rfl⟩ (fun S124 hp124 => ?_)
    have hR := RF_trans hR hp124
    refine z_iload h0 dX6_takesOther_127 rfl ?_
    exact z_zret h0 hr (by rw [hr22]; exact bI_nar _) hlk dX6_takesOther_129 (Nat.le_of_ble_eq_true rfl) (Nat.le_of_ble_eq_true rfl) (by have hb := bI_t hr22 h29; unfold wts; rw [hb]; exact ⟨hR, hr22.trans (congrArg bI hb)⟩)

abbrev rm_X6_deliver : Room := { frames := 3, cells := 0, slots := 0, locals := 73 }
set_option maxRecDepth 100000 in
set_option maxHeartbeats 4000000 in
theorem c_X6_deliver_0 {l : Launch} {D : va_G} {cI cZ cO : ClassId} {G : Nat → Nat} {S : PS} {m c : Nat} {A : Nat → Nat} {M : MS} (hR : RF S S m A M) (hI : MI c M) (hc : c < 512) {i p : Nat} (hi : i < mM M) (hk : mA M 4 i = 0) (hp : p < mP M) (hto : mA M 5 i = nI p) : zMi l yX6_deliver wsX6_deliver rm_X6_deliver [.ref m, .int (nI i)] D cI cZ cO G S (fun r S' => rP S m A (oDeliver M (nI i)) r S') := by
  have := MI_p hI; have := MI_m hI; have := MI_e hI
  have e2 := ix_of hto (by omega)
  refine z_of (cc := cX6_deliver) (maxL := 6) (ret := (some .boolean)) (lo := [some (.ref m), some (.int (nI i)), none, none, none, none]) (by decide) rfl rfl (Nat.le_of_ble_eq_true rfl) rfl ?_
  intro pp ee ss mi aa bl mh cd h0 hts hown hr hlk hnm
  have hown : ss.vm.findClass RX6 = some mi.cls := hown
  have inX6 : ∀ w ∈ u_ws RX6 TX6 14, w ∈ wsX6_deliver := by decide +kernel
  have lk_22 : zLk ss mi aa RX6 22 7 7 := ⟨RX6, TX6, 14, "PurseWorldModel", wsX6_deliver, rfl, by decide, hts, inX6, hown, hts (.fieldLink RX6 22 "PurseWorldModel" "kinds" "[I") (by decide +kernel), fun _ h => h⟩
  have lk_25 : zLk ss mi aa RX6 25 7 8 := ⟨RX6, TX6, 14, "PurseWorldModel", wsX6_deliver, rfl, by decide, hts, inX6, hown, hts (.fieldLink RX6 25 "PurseWorldModel" "targets" "[I") (by decide +kernel), fun _ h => h⟩
  have lk_41 : zLk ss mi aa RX6 41 7 0 := ⟨RX6, TX6, 14, "PurseWorldModel", wsX6_deliver, rfl, by decide, hts, inX6, hown, hts (.fieldLink RX6 41 "PurseWorldModel" "code" "I") (by decide +kernel), fun _ h => h⟩
  have lk_59 : zLk ss mi aa RX6 59 7 6 := ⟨RX6, TX6, 14, "PurseWorldModel", wsX6_deliver, rfl, by decide, hts, inX6, hown, hts (.fieldLink RX6 59 "PurseWorldModel" "messages" "I") (by decide +kernel), fun _ h => h⟩
  have lp_41 : zLp ss mi aa mh RX6 41 7 0 .int := ⟨RX6, TX6, 14, "PurseWorldModel", wsX6_deliver, tyX6, rfl, by decide, hts, inX6, hown, hts (.fieldLink RX6 41 "PurseWorldModel" "code" "I") (by decide +kernel), fun _ h => h, tyX6_ok, nmX6, by decide +kernel, Or.inl rfl⟩
  refine z_aload_n h0 dX6_deliver_0 rfl ?_
  refine z_iload_n h0 dX6_deliver_1 rfl ?_
  refine z_iconst (v := 0) h0 dX6_deliver_2 (by decide) ?_
  refine z_aload_n h0 dX6_deliver_3 rfl ?_
  refine z_getSM h0 hR fI17 lk_59 dX6_deliver_4 ?_
  refine z_iconst (v := 1) h0 dX6_deliver_7 (by decide) ?_
  refine z_isub h0 dX6_deliver_8 ?_
  refine z_cSi (n := 3) (As := [_, _, _]) h0 hts hown c_X6_in gX6_deliver_X6_in rfl (by decide +kernel) ⟨Nat.le_of_ble_eq_true rfl, Nat.le_of_ble_eq_true rfl⟩ dX6_deliver_9 rfl rfl (Nat.le_of_ble_eq_true rfl) ⟨Nat.le_of_ble_eq_true rfl, Nat.le_of_ble_eq_true rfl⟩ (fun r9 S9 hp9 => ?_)
  obtain ⟨rfl, hr9⟩ := hp9
  simp only [isP_iff (n := mM M) (by have := MI_p hI; have := MI_m hI; have := MI_e hI; omega)] at hr9
  refine z_if_eq (tgt := 19) h0 dX6_deliver_12 (by decide) (fun h12 => absurd (inR_of hi (by omega)) (ite_f hr9 h12)) (fun h12 => ?_)
  refine z_iconst (v := 0) h0 dX6_deliver_15 (by decide) ?_
  refine z_goto (tgt := 20) h0 dX6_deliver_16 (by decide) ?_
  refine z_putC h0 hR.1 fI15 lp_41 dX6_deliver_20 (fun S20 hX hR hcode => ?_)
  have hX0 := hX
  refine z_aload_n h0 dX6_deliver_23 rfl ?_
  refine z_getI h0 fI15 lk_41 dX6_deliver_24 (RF_m hR) ?_
  refine z_top hcode ?_
  refine z_if_le (tgt := 32) h0 dX6_deliver_27 (by decide) (fun h27 => ?_) (fun h27 => absurd (by decide) h27)
  refine z_aload_n h0 dX6_deliver_32 rfl ?_
  refine z_getA h0 hR 4 (by decide) fO14 rfl lk_22 dX6_deliver_33 ?_
  refine z_iload_n h0 dX6_deliver_36 rfl ?_
  refine z_ialdR h0 hR 4 (by decide) rfl dX6_deliver_37 (nI_toInt (by first | omega | (dsimp only [sA, sT, mP, mM, mE] at *; omega))) (by simp only [rLen]; first | omega | (dsimp only [sA, sT, mP, mM, mE] at *; omega)) ?_
  refine z_top hk ?_
  refine z_istore_n (lo' := [_, _, _, _, _, _]) h0 dX6_deliver_38 (by decide) rfl rfl ?_
  refine z_aload_n h0 dX6_deliver_39 rfl ?_
  refine z_getA h0 hR 5 (by decide) fO15 rfl lk_25 dX6_deliver_40 ?_
  refine z_iload_n h0 dX6_deliver_43 rfl ?_
  refine z_ialdR h0 hR 5 (by decide) rfl dX6_deliver_44 (nI_toInt (by first | omega | (dsimp only [sA, sT, mP, mM, mE] at *; omega))) (by simp only [rLen]; first | omega | (dsimp only [sA, sT, mP, mM, mE] at *; omega)) ?_
  refine z_top hto ?_
  refine z_istore_n (lo' := [_, _, _, _, _, _]) h0 dX6_deliver_45 (by decide) rfl rfl ?_
  refine z_bipush (v := 72) h0 dX6_deliver_46 (by decide) ?_
  refine z_iload_n h0 dX6_deliver_48 rfl ?_
  refine z_iadd h0 dX6_deliver_49 ?_
  refine z_top (y := nI (72 + i)) (by rw [zc72, nI_add]) ?_
  refine z_istore (lo' := [_, _, _, _, _, _]) h0 dX6_deliver_50 (by decide) rfl rfl ?_
  refine z_iload_n h0 dX6_deliver_52 rfl ?_
  refine z_iconst (v := 1) h0 dX6_deliver_53 (by decide) ?_
  refine z_icmp_eq (tgt := 89) h0 dX6_deliver_54 (by decide) (fun h54 => absurd h54 (by decide)) (fun h54 => ?_)
  refine z_iload_n h0 dX6_deliver_57 rfl ?_
  refine z_iconst (v := 2) h0 dX6_deliver_58 (by decide) ?_
  refine z_icmp_ne (tgt := 73) h0 dX6_deliver_59 (by decide) (fun h59 => ?_) (fun h59 => absurd h59 (by decide))
  refine z_iload_n h0 dX6_deliver_73 rfl ?_
  refine z_iconst (v := 3) h0 dX6_deliver_74 (by decide) ?_
  refine z_icmp_ne (tgt := 93) h0 dX6_deliver_75 (by decide) (fun h75 => ?_) (fun h75 => absurd h75 (by decide))
  refine z_iconst (v := 0) h0 dX6_deliver_93 (by decide) ?_
  refine z_istore (lo' := [_, _, _, _, _, _]) h0 dX6_deliver_94 (by decide) rfl rfl ?_
  refine z_aload_n h0 dX6_deliver_96 rfl ?_
  refine z_iload h0 dX6_deliver_97 rfl ?_
  refine z_if_eq (tgt := 116) h0 dX6_deliver_99 (by decide) (fun h99 => ?_) (fun h99 => absurd (by decide) h99)
  refine z_iconst (v := 0) h0 dX6_deliver_116 (by decide) ?_
  refine z_putC h0 hR.1 fI15 lp_41 dX6_deliver_117 (fun S117 hX hR hcode => ?_)
  refine z_aload_n h0 dX6_deliver_120 rfl ?_
  refine z_getI h0 fI15 lk_41 dX6_deliver_121 (RF_m hR) ?_
  refine z_top hcode ?_
  refine z_if_le (tgt := 129) h0 dX6_deliver_124 (by decide) (fun h124 => ?_) (fun h124 => absurd (by decide) h124)
  refine z_iload_n h0 dX6_deliver_129 rfl ?_
  refine z_iconst (v := 2) h0 dX6_deliver_130 (by decide) ?_
  refine z_icmp_ge (tgt := 151) h0 dX6_deliver_131 (by decide) (fun h131 => absurd h131 (by decide)) (fun h131 => ?_)
  refine z_aload_n h0 dX6_deliver_134 rfl ?_
  refine z_iload_n h0 dX6_deliver_135 rfl ?_
  refine z_iload h0 dX6_deliver_136 rfl ?_
  refine z_iload_n h0 dX6_deliver_138 rfl ?_
  refine z_if_ne (tgt := 146) h0 dX6_deliver_139 (by decide) (fun h139 => absurd rfl h139) (fun h139 => ?_)
  refine z_iconst (v := 1) h0 dX6_deliver_142 (by decide) ?_
  refine z_goto (tgt := 147) h0 dX6_deliver_143 (by decide) ?_
  refine z_cVi (n := 3) (As := [_, _, _]) h0 hts hown (c_X6_takesBegin_t (RF_refl hR) (p := p) (by omega) (MI_ln hI hp).1 (MI_ln hI hp).2 (q := 72 + i) (by omega)) gX6_deliver_X6_takesBegin rfl (by decide +kernel) ⟨Nat.le_of_ble_eq_true rfl, Nat.le_of_ble_eq_true rfl⟩ kOk6 rfl (RF_m hR) dX6_deliver_147 rfl rfl (Nat.le_of_ble_eq_true rfl) ⟨Nat.le_of_ble_eq_true rfl, Nat.le_of_ble_eq_true rfl⟩ (fun r147 S147 hp147 => ?_)
  have hR := RF_trans hR hp147.1
  have hb := hp147.2
  exact z_zret h0 hr (by rw [hb]; exact bI_nar _) hlk dX6_deliver_150 (Nat.le_of_ble_eq_true rfl) (Nat.le_of_ble_eq_true rfl) (rP_yes (by unfold oDeliver; rw [if_neg (fun z => z (inR_of hi (by omega))), ix_of (x := nI i) rfl (by omega), if_neg (fun z => by rw [answers_0 (by rw [hk]; decide) (by rw [hk]; decide) (by rw [hk]; decide)] at z; exact nomatch z.1), mDel_0 hk e2, hb]) (RX_trans hX0 (RX_trans hX hR.1)) (hR.2.trans hcode))

set_option maxRecDepth 100000 in
set_option maxHeartbeats 4000000 in
theorem c_X6_deliver_1 {l : Launch} {D : va_G} {cI cZ cO : ClassId} {G : Nat → Nat} {S : PS} {m c : Nat} {A : Nat → Nat} {M : MS} (hR : RF S S m A M) (hI : MI c M) (hc : c < 512) {i p : Nat} (hi : i < mM M) (hk : mA M 4 i = 1) (hp : p < mP M) (hto : mA M 5 i = nI p) : zMi l yX6_deliver wsX6_deliver rm_X6_deliver [.ref m, .int (nI i)] D cI cZ cO G S (fun r S' => rP S m A (oDeliver M (nI i)) r S') := by
  have := MI_p hI; have := MI_m hI; have := MI_e hI
  have e2 := ix_of hto (by omega)
  refine z_of (cc := cX6_deliver) (maxL := 6) (ret := (some .boolean)) (lo := [some (.ref m), some (.int (nI i)), none, none, none, none]) (by decide) rfl rfl (Nat.le_of_ble_eq_true rfl) rfl ?_
  intro pp ee ss mi aa bl mh cd h0 hts hown hr hlk hnm
  have hown : ss.vm.findClass RX6 = some mi.cls := hown
  have inX6 : ∀ w ∈ u_ws RX6 TX6 14, w ∈ wsX6_deliver := by decide +kernel
  have lk_22 : zLk ss mi aa RX6 22 7 7 := ⟨RX6, TX6, 14, "PurseWorldModel", wsX6_deliver, rfl, by decide, hts, inX6, hown, hts (.fieldLink RX6 22 "PurseWorldModel" "kinds" "[I") (by decide +kernel), fun _ h => h⟩
  have lk_25 : zLk ss mi aa RX6 25 7 8 := ⟨RX6, TX6, 14, "PurseWorldModel", wsX6_deliver, rfl, by decide, hts, inX6, hown, hts (.fieldLink RX6 25 "PurseWorldModel" "targets" "[I") (by decide +kernel), fun _ h => h⟩
  have lk_41 : zLk ss mi aa RX6 41 7 0 := ⟨RX6, TX6, 14, "PurseWorldModel", wsX6_deliver, rfl, by decide, hts, inX6, hown, hts (.fieldLink RX6 41 "PurseWorldModel" "code" "I") (by decide +kernel), fun _ h => h⟩
  have lk_59 : zLk ss mi aa RX6 59 7 6 := ⟨RX6, TX6, 14, "PurseWorldModel", wsX6_deliver, rfl, by decide, hts, inX6, hown, hts (.fieldLink RX6 59 "PurseWorldModel" "messages" "I") (by decide +kernel), fun _ h => h⟩
  have lp_41 : zLp ss mi aa mh RX6 41 7 0 .int := ⟨RX6, TX6, 14, "PurseWorldModel", wsX6_deliver, tyX6, rfl, by decide, hts, inX6, hown, hts (.fieldLink RX6 41 "PurseWorldModel" "code" "I") (by decide +kernel), fun _ h => h, tyX6_ok, nmX6, by decide +kernel, Or.inl rfl⟩
  refine z_aload_n h0 dX6_deliver_0 rfl ?_
  refine z_iload_n h0 dX6_deliver_1 rfl ?_
  refine z_iconst (v := 0) h0 dX6_deliver_2 (by decide) ?_
  refine z_aload_n h0 dX6_deliver_3 rfl ?_
  refine z_getSM h0 hR fI17 lk_59 dX6_deliver_4 ?_
  refine z_iconst (v := 1) h0 dX6_deliver_7 (by decide) ?_
  refine z_isub h0 dX6_deliver_8 ?_
  refine z_cSi (n := 3) (As := [_, _, _]) h0 hts hown c_X6_in gX6_deliver_X6_in rfl (by decide +kernel) ⟨Nat.le_of_ble_eq_true rfl, Nat.le_of_ble_eq_true rfl⟩ dX6_deliver_9 rfl rfl (Nat.le_of_ble_eq_true rfl) ⟨Nat.le_of_ble_eq_true rfl, Nat.le_of_ble_eq_true rfl⟩ (fun r9 S9 hp9 => ?_)
  obtain ⟨rfl, hr9⟩ := hp9
  simp only [isP_iff (n := mM M) (by have := MI_p hI; have := MI_m hI; have := MI_e hI; omega)] at hr9
  refine z_if_eq (tgt := 19) h0 dX6_deliver_12 (by decide) (fun h12 => absurd (inR_of hi (by omega)) (ite_f hr9 h12)) (fun h12 => ?_)
  refine z_iconst (v := 0) h0 dX6_deliver_15 (by decide) ?_
  refine z_goto (tgt := 20) h0 dX6_deliver_16 (by decide) ?_
  refine z_putC h0 hR.1 fI15 lp_41 dX6_deliver_20 (fun S20 hX hR hcode => ?_)
  have hX0 := hX
  refine z_aload_n h0 dX6_deliver_23 rfl ?_
  refine z_getI h0 fI15 lk_41 dX6_deliver_24 (RF_m hR) ?_
  refine z_top hcode ?_
  refine z_if_le (tgt := 32) h0 dX6_deliver_27 (by decide) (fun h27 => ?_) (fun h27 => absurd (by decide) h27)
  refine z_aload_n h0 dX6_deliver_32 rfl ?_
  refine z_getA h0 hR 4 (by decide) fO14 rfl lk_22 dX6_deliver_33 ?_
  refine z_iload_n h0 dX6_deliver_36 rfl ?_
  refine z_ialdR h0 hR 4 (by decide) rfl dX6_deliver_37 (nI_toInt (by first | omega | (dsimp only [sA, sT, mP, mM, mE] at *; omega))) (by simp only [rLen]; first | omega | (dsimp only [sA, sT, mP, mM, mE] at *; omega)) ?_
  refine z_top hk ?_
  refine z_istore_n (lo' := [_, _, _, _, _, _]) h0 dX6_deliver_38 (by decide) rfl rfl ?_
  refine z_aload_n h0 dX6_deliver_39 rfl ?_
  refine z_getA h0 hR 5 (by decide) fO15 rfl lk_25 dX6_deliver_40 ?_
  refine z_iload_n h0 dX6_deliver_43 rfl ?_
  refine z_ialdR h0 hR 5 (by decide) rfl dX6_deliver_44 (nI_toInt (by first | omega | (dsimp only [sA, sT, mP, mM, mE] at *; omega))) (by simp only [rLen]; first | omega | (dsimp only [sA, sT, mP, mM, mE] at *; omega)) ?_
  refine z_top hto ?_
  refine z_istore_n (lo' := [_, _, _, _, _, _]) h0 dX6_deliver_45 (by decide) rfl rfl ?_
  refine z_bipush (v := 72) h0 dX6_deliver_46 (by decide) ?_
  refine z_iload_n h0 dX6_deliver_48 rfl ?_
  refine z_iadd h0 dX6_deliver_49 ?_
  refine z_top (y := nI (72 + i)) (by rw [zc72, nI_add]) ?_
  refine z_istore (lo' := [_, _, _, _, _, _]) h0 dX6_deliver_50 (by decide) rfl rfl ?_
  refine z_iload_n h0 dX6_deliver_52 rfl ?_
  refine z_iconst (v := 1) h0 dX6_deliver_53 (by decide) ?_
  refine z_icmp_eq (tgt := 89) h0 dX6_deliver_54 (by decide) (fun h54 => ?_) (fun h54 => absurd rfl h54)
  refine z_iconst (v := 1) h0 dX6_deliver_89 (by decide) ?_
  refine z_goto (tgt := 94) h0 dX6_deliver_90 (by decide) ?_
  refine z_istore (lo' := [_, _, _, _, _, _]) h0 dX6_deliver_94 (by decide) rfl rfl ?_
  refine z_aload_n h0 dX6_deliver_96 rfl ?_
  refine z_iload h0 dX6_deliver_97 rfl ?_
  refine z_if_eq (tgt := 116) h0 dX6_deliver_99 (by decide) (fun h99 => absurd h99 (by decide)) (fun h99 => ?_)
  refine z_aload_n h0 dX6_deliver_102 rfl ?_
  refine z_getSM h0 hR fI17 lk_59 dX6_deliver_103 ?_
  refine z_sipush (v := 800) h0 dX6_deliver_106 (by decide) ?_
  refine z_icmp_ne (tgt := 116) h0 dX6_deliver_109 (by decide) (fun h109 => ?_) (fun h109 => ?_)
  · refine z_iconst (v := 0) h0 dX6_deliver_116 (by decide) ?_
    refine z_putC h0 hR.1 fI15 lp_41 dX6_deliver_117 (fun S117 hX hR hcode => ?_)
    refine z_aload_n h0 dX6_deliver_120 rfl ?_
    refine z_getI h0 fI15 lk_41 dX6_deliver_121 (RF_m hR) ?_
    refine z_top hcode ?_
    refine z_if_le (tgt := 129) h0 dX6_deliver_124 (by decide) (fun h124 => ?_) (fun h124 => absurd (by decide) h124)
    refine z_iload_n h0 dX6_deliver_129 rfl ?_
    refine z_iconst (v := 2) h0 dX6_deliver_130 (by decide) ?_
    refine z_icmp_ge (tgt := 151) h0 dX6_deliver_131 (by decide) (fun h131 => absurd h131 (by decide)) (fun h131 => ?_)
    refine z_aload_n h0 dX6_deliver_134 rfl ?_
    refine z_iload_n h0 dX6_deliver_135 rfl ?_
    refine z_iload h0 dX6_deliver_136 rfl ?_
    refine z_iload_n h0 dX6_deliver_138 rfl ?_
    refine z_if_ne (tgt := 146) h0 dX6_deliver_139 (by decide) (fun h139 => ?_) (fun h139 => absurd h139 (by decide))
    refine z_iconst (v := 0) h0 dX6_deliver_146 (by decide) ?_
    refine z_cVi (n := 3) (As := [_, _, _]) h0 hts hown (c_X6_takesBegin_f (RF_refl hR) (p := p) (by omega) (MI_ln hI hp).1 (MI_ln hI hp).2 (q := 72 + i) (by omega) (Nat.lt_of_le_of_ne (by omega) (fun z => h109 (by rw [z]; rfl)))) gX6_deliver_X6_takesBegin rfl (by decide +kernel) ⟨Nat.le_of_ble_eq_true rfl, Nat.le_of_ble_eq_true rfl⟩ kOk6 rfl (RF_m hR) dX6_deliver_147 rfl rfl (Nat.le_of_ble_eq_true rfl) ⟨Nat.le_of_ble_eq_true rfl, Nat.le_of_ble_eq_true rfl⟩ (fun r147 S147 hp147 => ?_)
    have hR := RF_trans hR hp147.1
    have hb := hp147.2
    exact z_zret h0 hr (by rw [hb]; exact bI_nar _) hlk dX6_deliver_150 (Nat.le_of_ble_eq_true rfl) (Nat.le_of_ble_eq_true rfl) (rP_yes (by unfold oDeliver; rw [if_neg (fun z => z (inR_of hi (by omega))), ix_of (x := nI i) rfl (by omega), if_neg (fun z => h109 (by rw [z.2]; rfl)), mDel_1 hk e2, hb]) (RX_trans hX0 (RX_trans hX hR.1)) (hR.2.trans hcode))
  · refine z_iconst (v := 2) h0 dX6_deliver_112 (by decide) ?_
    refine z_goto (tgt := 117) h0 dX6_deliver_113 (by decide) ?_
    refine z_putC h0 hR.1 fI15 lp_41 dX6_deliver_117 (fun S117 hX hR hcode => ?_)
    refine z_aload_n h0 dX6_deliver_120 rfl ?_
    refine z_getI h0 fI15 lk_41 dX6_deliver_121 (RF_m hR) ?_
    refine z_top hcode ?_
    refine z_if_le (tgt := 129) h0 dX6_deliver_124 (by decide) (fun h124 => absurd h124 (by decide)) (fun h124 => ?_)
    refine z_iconst (v := 0) h0 dX6_deliver_127 (by decide) ?_
    exact z_zret h0 hr rfl hlk dX6_deliver_128 (Nat.le_of_ble_eq_true rfl) (Nat.le_of_ble_eq_true rfl) (rP_no (c := 1) (by unfold oDeliver; rw [if_neg (fun z => z (inR_of hi (by omega))), ix_of (x := nI i) rfl (by omega), if_pos ⟨answers_1 hk, (nI_eq (b := 800) (by omega) (by decide)).mp h109⟩]) (RX_trans hX0 hX) hcode)

set_option maxRecDepth 100000 in
set_option maxHeartbeats 4000000 in
theorem c_X6_deliver_2 {l : Launch} {D : va_G} {cI cZ cO : ClassId} {G : Nat → Nat} {S : PS} {m c : Nat} {A : Nat → Nat} {M : MS} (hR : RF S S m A M) (hI : MI c M) (hc : c < 512) {i p : Nat} (hi : i < mM M) (hk : mA M 4 i = 2) (hp : p < mP M) (hto : mA M 5 i = nI p) : zMi l yX6_deliver wsX6_deliver rm_X6_deliver [.ref m, .int (nI i)] D cI cZ cO G S (fun r S' => rP S m A (oDeliver M (nI i)) r S') := by
  have := MI_p hI; have := MI_m hI; have := MI_e hI
  have e2 := ix_of hto (by omega)
  refine z_of (cc := cX6_deliver) (maxL := 6) (ret := (some .boolean)) (lo := [some (.ref m), some (.int (nI i)), none, none, none, none]) (by decide) rfl rfl (Nat.le_of_ble_eq_true rfl) rfl ?_
  intro pp ee ss mi aa bl mh cd h0 hts hown hr hlk hnm
  have hown : ss.vm.findClass RX6 = some mi.cls := hown
  have inX6 : ∀ w ∈ u_ws RX6 TX6 14, w ∈ wsX6_deliver := by decide +kernel
  have lk_22 : zLk ss mi aa RX6 22 7 7 := ⟨RX6, TX6, 14, "PurseWorldModel", wsX6_deliver, rfl, by decide, hts, inX6, hown, hts (.fieldLink RX6 22 "PurseWorldModel" "kinds" "[I") (by decide +kernel), fun _ h => h⟩
  have lk_25 : zLk ss mi aa RX6 25 7 8 := ⟨RX6, TX6, 14, "PurseWorldModel", wsX6_deliver, rfl, by decide, hts, inX6, hown, hts (.fieldLink RX6 25 "PurseWorldModel" "targets" "[I") (by decide +kernel), fun _ h => h⟩
  have lk_41 : zLk ss mi aa RX6 41 7 0 := ⟨RX6, TX6, 14, "PurseWorldModel", wsX6_deliver, rfl, by decide, hts, inX6, hown, hts (.fieldLink RX6 41 "PurseWorldModel" "code" "I") (by decide +kernel), fun _ h => h⟩
  have lk_59 : zLk ss mi aa RX6 59 7 6 := ⟨RX6, TX6, 14, "PurseWorldModel", wsX6_deliver, rfl, by decide, hts, inX6, hown, hts (.fieldLink RX6 59 "PurseWorldModel" "messages" "I") (by decide +kernel), fun _ h => h⟩
  have lp_41 : zLp ss mi aa mh RX6 41 7 0 .int := ⟨RX6, TX6, 14, "PurseWorldModel", wsX6_deliver, tyX6, rfl, by decide, hts, inX6, hown, hts (.fieldLink RX6 41 "PurseWorldModel" "code" "I") (by decide +kernel), fun _ h => h, tyX6_ok, nmX6, by decide +kernel, Or.inl rfl⟩
  refine z_aload_n h0 dX6_deliver_0 rfl ?_
  refine z_iload_n h0 dX6_deliver_1 rfl ?_
  refine z_iconst (v := 0) h0 dX6_deliver_2 (by decide) ?_
  refine z_aload_n h0 dX6_deliver_3 rfl ?_
  refine z_getSM h0 hR fI17 lk_59 dX6_deliver_4 ?_
  refine z_iconst (v := 1) h0 dX6_deliver_7 (by decide) ?_
  refine z_isub h0 dX6_deliver_8 ?_
  refine z_cSi (n := 3) (As := [_, _, _]) h0 hts hown c_X6_in gX6_deliver_X6_in rfl (by decide +kernel) ⟨Nat.le_of_ble_eq_true rfl, Nat.le_of_ble_eq_true rfl⟩ dX6_deliver_9 rfl rfl (Nat.le_of_ble_eq_true rfl) ⟨Nat.le_of_ble_eq_true rfl, Nat.le_of_ble_eq_true rfl⟩ (fun r9 S9 hp9 => ?_)
  obtain ⟨rfl, hr9⟩ := hp9
  simp only [isP_iff (n := mM M) (by have := MI_p hI; have := MI_m hI; have := MI_e hI; omega)] at hr9
  refine z_if_eq (tgt := 19) h0 dX6_deliver_12 (by decide) (fun h12 => absurd (inR_of hi (by omega)) (ite_f hr9 h12)) (fun h12 => ?_)
  refine z_iconst (v := 0) h0 dX6_deliver_15 (by decide) ?_
  refine z_goto (tgt := 20) h0 dX6_deliver_16 (by decide) ?_
  refine z_putC h0 hR.1 fI15 lp_41 dX6_deliver_20 (fun S20 hX hR hcode => ?_)
  have hX0 := hX
  refine z_aload_n h0 dX6_deliver_23 rfl ?_
  refine z_getI h0 fI15 lk_41 dX6_deliver_24 (RF_m hR) ?_
  refine z_top hcode ?_
  refine z_if_le (tgt := 32) h0 dX6_deliver_27 (by decide) (fun h27 => ?_) (fun h27 => absurd (by decide) h27)
  refine z_aload_n h0 dX6_deliver_32 rfl ?_
  refine z_getA h0 hR 4 (by decide) fO14 rfl lk_22 dX6_deliver_33 ?_
  refine z_iload_n h0 dX6_deliver_36 rfl ?_
  refine z_ialdR h0 hR 4 (by decide) rfl dX6_deliver_37 (nI_toInt (by first | omega | (dsimp only [sA, sT, mP, mM, mE] at *; omega))) (by simp only [rLen]; first | omega | (dsimp only [sA, sT, mP, mM, mE] at *; omega)) ?_
  refine z_top hk ?_
  refine z_istore_n (lo' := [_, _, _, _, _, _]) h0 dX6_deliver_38 (by decide) rfl rfl ?_
  refine z_aload_n h0 dX6_deliver_39 rfl ?_
  refine z_getA h0 hR 5 (by decide) fO15 rfl lk_25 dX6_deliver_40 ?_
  refine z_iload_n h0 dX6_deliver_43 rfl ?_
  refine z_ialdR h0 hR 5 (by decide) rfl dX6_deliver_44 (nI_toInt (by first | omega | (dsimp only [sA, sT, mP, mM, mE] at *; omega))) (by simp only [rLen]; first | omega | (dsimp only [sA, sT, mP, mM, mE] at *; omega)) ?_
  refine z_top hto ?_
  refine z_istore_n (lo' := [_, _, _, _, _, _]) h0 dX6_deliver_45 (by decide) rfl rfl ?_
  refine z_bipush (v := 72) h0 dX6_deliver_46 (by decide) ?_
  refine z_iload_n h0 dX6_deliver_48 rfl ?_
  refine z_iadd h0 dX6_deliver_49 ?_
  refine z_top (y := nI (72 + i)) (by rw [zc72, nI_add]) ?_
  refine z_istore (lo' := [_, _, _, _, _, _]) h0 dX6_deliver_50 (by decide) rfl rfl ?_
  refine z_iload_n h0 dX6_deliver_52 rfl ?_
  refine z_iconst (v := 1) h0 dX6_deliver_53 (by decide) ?_
  refine z_icmp_eq (tgt := 89) h0 dX6_deliver_54 (by decide) (fun h54 => absurd h54 (by decide)) (fun h54 => ?_)
  refine z_iload_n h0 dX6_deliver_57 rfl ?_
  refine z_iconst (v := 2) h0 dX6_deliver_58 (by decide) ?_
  refine z_icmp_ne (tgt := 73) h0 dX6_deliver_59 (by decide) (fun h59 => absurd rfl h59) (fun h59 => ?_)
  refine z_aload_n h0 dX6_deliver_62 rfl ?_
  refine z_iload_n h0 dX6_deliver_63 rfl ?_
  refine z_iconst (v := 1) h0 dX6_deliver_64 (by decide) ?_
  refine z_iload h0 dX6_deliver_65 rfl ?_
  refine z_cVi (n := 3) (As := [_, _, _]) h0 hts hown (c_X6_waits hR (p := p) (by omega) (q := 72 + i) (by omega)) gX6_deliver_X6_waits rfl (by decide +kernel) ⟨Nat.le_of_ble_eq_true rfl, Nat.le_of_ble_eq_true rfl⟩ kOk6 rfl (RF_m hR) dX6_deliver_67 rfl rfl (Nat.le_of_ble_eq_true rfl) ⟨Nat.le_of_ble_eq_true rfl, Nat.le_of_ble_eq_true rfl⟩ (fun r67 S67 hp67 => ?_)
  obtain ⟨rfl, hr67⟩ := hp67
  refine z_if_ne (tgt := 89) h0 dX6_deliver_70 (by decide) (fun h70 => ?_) (fun h70 => ?_)
  · refine z_iconst (v := 1) h0 dX6_deliver_89 (by decide) ?_
    refine z_goto (tgt := 94) h0 dX6_deliver_90 (by decide) ?_
    refine z_istore (lo' := [_, _, _, _, _, _]) h0 dX6_deliver_94 (by decide) rfl rfl ?_
    refine z_aload_n h0 dX6_deliver_96 rfl ?_
    refine z_iload h0 dX6_deliver_97 rfl ?_
    refine z_if_eq (tgt := 116) h0 dX6_deliver_99 (by decide) (fun h99 => absurd h99 (by decide)) (fun h99 => ?_)
    refine z_aload_n h0 dX6_deliver_102 rfl ?_
    refine z_getSM h0 hR fI17 lk_59 dX6_deliver_103 ?_
    refine z_sipush (v := 800) h0 dX6_deliver_106 (by decide) ?_
    refine z_icmp_ne (tgt := 116) h0 dX6_deliver_109 (by decide) (fun h109 => ?_) (fun h109 => ?_)
    · refine z_iconst (v := 0) h0 dX6_deliver_116 (by decide) ?_
      refine z_putC h0 hR.1 fI15 lp_41 dX6_deliver_117 (fun S117 hX hR hcode => ?_)
      refine z_aload_n h0 dX6_deliver_120 rfl ?_
      refine z_getI h0 fI15 lk_41 dX6_deliver_121 (RF_m hR) ?_
      refine z_top hcode ?_
      refine z_if_le (tgt := 129) h0 dX6_deliver_124 (by decide) (fun h124 => ?_) (fun h124 => absurd (by decide) h124)
      refine z_iload_n h0 dX6_deliver_129 rfl ?_
      refine z_iconst (v := 2) h0 dX6_deliver_130 (by decide) ?_
      refine z_icmp_ge (tgt := 151) h0 dX6_deliver_131 (by decide) (fun h131 => ?_) (fun h131 => absurd (by decide) h131)
      refine z_iload_n h0 dX6_deliver_151 rfl ?_
      refine z_iconst (v := 5) h0 dX6_deliver_152 (by decide) ?_
      refine z_icmp_ge (tgt := 167) h0 dX6_deliver_153 (by decide) (fun h153 => absurd h153 (by decide)) (fun h153 => ?_)
      refine z_aload_n h0 dX6_deliver_156 rfl ?_
      refine z_iload_n h0 dX6_deliver_157 rfl ?_
      refine z_iload_n h0 dX6_deliver_158 rfl ?_
      refine z_iload h0 dX6_deliver_159 rfl ?_
      refine z_cVi (n := 3) (As := [_, _, _]) h0 hts hown (c_X6_takesOther_2x (RF_refl hR) (p := p) (by omega) (q := 72 + i) (by omega) (by first | exact fun _ => (Nat.lt_of_le_of_ne (by omega) (fun z => h109 (by rw [z]; rfl))) | exact fun z => absurd ((bI_f hr67 h70).symm.trans z) (by decide))) gX6_deliver_X6_takesOther rfl (by decide +kernel) ⟨Nat.le_of_ble_eq_true rfl, Nat.le_of_ble_eq_true rfl⟩ kOk6 rfl (RF_m hR) dX6_deliver_161 rfl rfl (Nat.le_of_ble_eq_true rfl) ⟨Nat.le_of_ble_eq_true rfl, Nat.le_of_ble_eq_true rfl⟩ (fun r161 S161 hp161 => ?_)
      have hR := RF_trans hR hp161.1
      have hb := hp161.2
      refine z_goto (tgt := 191) h0 dX6_deliver_164 (by decide) ?_
      exact z_zret h0 hr (by rw [hb]; exact bI_nar _) hlk dX6_deliver_191 (Nat.le_of_ble_eq_true rfl) (Nat.le_of_ble_eq_true rfl) (by first | exact (rP_yes (by unfold oDeliver; rw [if_neg (fun z => z (inR_of hi (by omega))), ix_of (x := nI i) rfl (by omega), if_neg (fun z => h109 (by rw [z.2]; rfl)), mDel_2 hk e2, hb]) (RX_trans hX0 (RX_trans hX hR.1)) (hR.2.trans hcode)) | exact (rP_yes (by unfold oDeliver; rw [if_neg (fun z => z (inR_of hi (by omega))), ix_of (x := nI i) rfl (by omega), if_neg (fun z => by rw [answers_2 hk e2] at z; exact absurd ((bI_f hr67 h70).symm.trans z.1) (by decide)), mDel_2 hk e2, hb]) (RX_trans hX0 (RX_trans hX hR.1)) (hR.2.trans hcode)))
    · refine z_iconst (v := 2) h0 dX6_deliver_112 (by decide) ?_
      refine z_goto (tgt := 117) h0 dX6_deliver_113 (by decide) ?_
      refine z_putC h0 hR.1 fI15 lp_41 dX6_deliver_117 (fun S117 hX hR hcode => ?_)
      refine z_aload_n h0 dX6_deliver_120 rfl ?_
      refine z_getI h0 fI15 lk_41 dX6_deliver_121 (RF_m hR) ?_
      refine z_top hcode ?_
      refine z_if_le (tgt := 129) h0 dX6_deliver_124 (by decide) (fun h124 => absurd h124 (by decide)) (fun h124 => ?_)
      refine z_iconst (v := 0) h0 dX6_deliver_127 (by decide) ?_
      exact z_zret h0 hr rfl hlk dX6_deliver_128 (Nat.le_of_ble_eq_true rfl) (Nat.le_of_ble_eq_true rfl) (rP_no (c := 1) (by unfold oDeliver; rw [if_neg (fun z => z (inR_of hi (by omega))), ix_of (x := nI i) rfl (by omega), if_pos ⟨(answers_2 hk e2).trans (bI_t hr67 h70), (nI_eq (b := 800) (by omega) (by decide)).mp h109⟩]) (RX_trans hX0 hX) hcode)
  · refine z_iload_n h0 dX6_deliver_73 rfl ?_
    refine z_iconst (v := 3) h0 dX6_deliver_74 (by decide) ?_
    refine z_icmp_ne (tgt := 93) h0 dX6_deliver_75 (by decide) (fun h75 => ?_) (fun h75 => absurd h75 (by decide))
    refine z_iconst (v := 0) h0 dX6_deliver_93 (by decide) ?_
    refine z_istore (lo' := [_, _, _, _, _, _]) h0 dX6_deliver_94 (by decide) rfl rfl ?_
    refine z_aload_n h0 dX6_deliver_96 rfl ?_
    refine z_iload h0 dX6_deliver_97 rfl ?_
    refine z_if_eq (tgt := 116) h0 dX6_deliver_99 (by decide) (fun h99 => ?_) (fun h99 => absurd (by decide) h99)
    refine z_iconst (v := 0) h0 dX6_deliver_116 (by decide) ?_
    refine z_putC h0 hR.1 fI15 lp_41 dX6_deliver_117 (fun S117 hX hR hcode => ?_)
    refine z_aload_n h0 dX6_deliver_120 rfl ?_
    refine z_getI h0 fI15 lk_41 dX6_deliver_121 (RF_m hR) ?_
    refine z_top hcode ?_
    refine z_if_le (tgt := 129) h0 dX6_deliver_124 (by decide) (fun h124 => ?_) (fun h124 => absurd (by decide) h124)
    refine z_iload_n h0 dX6_deliver_129 rfl ?_
    refine z_iconst (v := 2) h0 dX6_deliver_130 (by decide) ?_
    refine z_icmp_ge (tgt := 151) h0 dX6_deliver_131 (by decide) (fun h131 => ?_) (fun h131 => absurd (by decide) h131)
    refine z_iload_n h0 dX6_deliver_151 rfl ?_
    refine z_iconst (v := 5) h0 dX6_deliver_152 (by decide) ?_
    refine z_icmp_ge (tgt := 167) h0 dX6_deliver_153 (by decide) (fun h153 => absurd h153 (by decide)) (fun h153 => ?_)
    refine z_aload_n h0 dX6_deliver_156 rfl ?_
    refine z_iload_n h0 dX6_deliver_157 rfl ?_
    refine z_iload_n h0 dX6_deliver_158 rfl ?_
    refine z_iload h0 dX6_deliver_159 rfl ?_
    refine z_cVi (n := 3) (As := [_, _, _]) h0 hts hown (c_X6_takesOther_2x (RF_refl hR) (p := p) (by omega) (q := 72 + i) (by omega) (by first | exact fun _ => (Nat.lt_of_le_of_ne (by omega) (fun z => h109 (by rw [z]; rfl))) | exact fun z => absurd ((bI_f hr67 h70).symm.trans z) (by decide))) gX6_deliver_X6_takesOther rfl (by decide +kernel) ⟨Nat.le_of_ble_eq_true rfl, Nat.le_of_ble_eq_true rfl⟩ kOk6 rfl (RF_m hR) dX6_deliver_161 rfl rfl (Nat.le_of_ble_eq_true rfl) ⟨Nat.le_of_ble_eq_true rfl, Nat.le_of_ble_eq_true rfl⟩ (fun r161 S161 hp161 => ?_)
    have hR := RF_trans hR hp161.1
    have hb := hp161.2
    refine z_goto (tgt := 191) h0 dX6_deliver_164 (by decide) ?_
    exact z_zret h0 hr (by rw [hb]; exact bI_nar _) hlk dX6_deliver_191 (Nat.le_of_ble_eq_true rfl) (Nat.le_of_ble_eq_true rfl) (by first | exact (rP_yes (by unfold oDeliver; rw [if_neg (fun z => z (inR_of hi (by omega))), ix_of (x := nI i) rfl (by omega), if_neg (fun z => h109 (by rw [z.2]; rfl)), mDel_2 hk e2, hb]) (RX_trans hX0 (RX_trans hX hR.1)) (hR.2.trans hcode)) | exact (rP_yes (by unfold oDeliver; rw [if_neg (fun z => z (inR_of hi (by omega))), ix_of (x := nI i) rfl (by omega), if_neg (fun z => by rw [answers_2 hk e2] at z; exact absurd ((bI_f hr67 h70).symm.trans z.1) (by decide)), mDel_2 hk e2, hb]) (RX_trans hX0 (RX_trans hX hR.1)) (hR.2.trans hcode)))

set_option maxRecDepth 100000 in
set_option maxHeartbeats 4000000 in
theorem c_X6_deliver_3 {l : Launch} {D : va_G} {cI cZ cO : ClassId} {G : Nat → Nat} {S : PS} {m c : Nat} {A : Nat → Nat} {M : MS} (hR : RF S S m A M) (hI : MI c M) (hc : c < 512) {i p : Nat} (hi : i < mM M) (hk : mA M 4 i = 3) (hp : p < mP M) (hto : mA M 5 i = nI p) : zMi l yX6_deliver wsX6_deliver rm_X6_deliver [.ref m, .int (nI i)] D cI cZ cO G S (fun r S' => rP S m A (oDeliver M (nI i)) r S') := by
  have := MI_p hI; have := MI_m hI; have := MI_e hI
  have e2 := ix_of hto (by omega)
  refine z_of (cc := cX6_deliver) (maxL := 6) (ret := (some .boolean)) (lo := [some (.ref m), some (.int (nI i)), none, none, none, none]) (by decide) rfl rfl (Nat.le_of_ble_eq_true rfl) rfl ?_
  intro pp ee ss mi aa bl mh cd h0 hts hown hr hlk hnm
  have hown : ss.vm.findClass RX6 = some mi.cls := hown
  have inX6 : ∀ w ∈ u_ws RX6 TX6 14, w ∈ wsX6_deliver := by decide +kernel
  have lk_22 : zLk ss mi aa RX6 22 7 7 := ⟨RX6, TX6, 14, "PurseWorldModel", wsX6_deliver, rfl, by decide, hts, inX6, hown, hts (.fieldLink RX6 22 "PurseWorldModel" "kinds" "[I") (by decide +kernel), fun _ h => h⟩
  have lk_25 : zLk ss mi aa RX6 25 7 8 := ⟨RX6, TX6, 14, "PurseWorldModel", wsX6_deliver, rfl, by decide, hts, inX6, hown, hts (.fieldLink RX6 25 "PurseWorldModel" "targets" "[I") (by decide +kernel), fun _ h => h⟩
  have lk_41 : zLk ss mi aa RX6 41 7 0 := ⟨RX6, TX6, 14, "PurseWorldModel", wsX6_deliver, rfl, by decide, hts, inX6, hown, hts (.fieldLink RX6 41 "PurseWorldModel" "code" "I") (by decide +kernel), fun _ h => h⟩
  have lk_59 : zLk ss mi aa RX6 59 7 6 := ⟨RX6, TX6, 14, "PurseWorldModel", wsX6_deliver, rfl, by decide, hts, inX6, hown, hts (.fieldLink RX6 59 "PurseWorldModel" "messages" "I") (by decide +kernel), fun _ h => h⟩
  have lp_41 : zLp ss mi aa mh RX6 41 7 0 .int := ⟨RX6, TX6, 14, "PurseWorldModel", wsX6_deliver, tyX6, rfl, by decide, hts, inX6, hown, hts (.fieldLink RX6 41 "PurseWorldModel" "code" "I") (by decide +kernel), fun _ h => h, tyX6_ok, nmX6, by decide +kernel, Or.inl rfl⟩
  refine z_aload_n h0 dX6_deliver_0 rfl ?_
  refine z_iload_n h0 dX6_deliver_1 rfl ?_
  refine z_iconst (v := 0) h0 dX6_deliver_2 (by decide) ?_
  refine z_aload_n h0 dX6_deliver_3 rfl ?_
  refine z_getSM h0 hR fI17 lk_59 dX6_deliver_4 ?_
  refine z_iconst (v := 1) h0 dX6_deliver_7 (by decide) ?_
  refine z_isub h0 dX6_deliver_8 ?_
  refine z_cSi (n := 3) (As := [_, _, _]) h0 hts hown c_X6_in gX6_deliver_X6_in rfl (by decide +kernel) ⟨Nat.le_of_ble_eq_true rfl, Nat.le_of_ble_eq_true rfl⟩ dX6_deliver_9 rfl rfl (Nat.le_of_ble_eq_true rfl) ⟨Nat.le_of_ble_eq_true rfl, Nat.le_of_ble_eq_true rfl⟩ (fun r9 S9 hp9 => ?_)
  obtain ⟨rfl, hr9⟩ := hp9
  simp only [isP_iff (n := mM M) (by have := MI_p hI; have := MI_m hI; have := MI_e hI; omega)] at hr9
  refine z_if_eq (tgt := 19) h0 dX6_deliver_12 (by decide) (fun h12 => absurd (inR_of hi (by omega)) (ite_f hr9 h12)) (fun h12 => ?_)
  refine z_iconst (v := 0) h0 dX6_deliver_15 (by decide) ?_
  refine z_goto (tgt := 20) h0 dX6_deliver_16 (by decide) ?_
  refine z_putC h0 hR.1 fI15 lp_41 dX6_deliver_20 (fun S20 hX hR hcode => ?_)
  have hX0 := hX
  refine z_aload_n h0 dX6_deliver_23 rfl ?_
  refine z_getI h0 fI15 lk_41 dX6_deliver_24 (RF_m hR) ?_
  refine z_top hcode ?_
  refine z_if_le (tgt := 32) h0 dX6_deliver_27 (by decide) (fun h27 => ?_) (fun h27 => absurd (by decide) h27)
  refine z_aload_n h0 dX6_deliver_32 rfl ?_
  refine z_getA h0 hR 4 (by decide) fO14 rfl lk_22 dX6_deliver_33 ?_
  refine z_iload_n h0 dX6_deliver_36 rfl ?_
  refine z_ialdR h0 hR 4 (by decide) rfl dX6_deliver_37 (nI_toInt (by first | omega | (dsimp only [sA, sT, mP, mM, mE] at *; omega))) (by simp only [rLen]; first | omega | (dsimp only [sA, sT, mP, mM, mE] at *; omega)) ?_
  refine z_top hk ?_
  refine z_istore_n (lo' := [_, _, _, _, _, _]) h0 dX6_deliver_38 (by decide) rfl rfl ?_
  refine z_aload_n h0 dX6_deliver_39 rfl ?_
  refine z_getA h0 hR 5 (by decide) fO15 rfl lk_25 dX6_deliver_40 ?_
  refine z_iload_n h0 dX6_deliver_43 rfl ?_
  refine z_ialdR h0 hR 5 (by decide) rfl dX6_deliver_44 (nI_toInt (by first | omega | (dsimp only [sA, sT, mP, mM, mE] at *; omega))) (by simp only [rLen]; first | omega | (dsimp only [sA, sT, mP, mM, mE] at *; omega)) ?_
  refine z_top hto ?_
  refine z_istore_n (lo' := [_, _, _, _, _, _]) h0 dX6_deliver_45 (by decide) rfl rfl ?_
  refine z_bipush (v := 72) h0 dX6_deliver_46 (by decide) ?_
  refine z_iload_n h0 dX6_deliver_48 rfl ?_
  refine z_iadd h0 dX6_deliver_49 ?_
  refine z_top (y := nI (72 + i)) (by rw [zc72, nI_add]) ?_
  refine z_istore (lo' := [_, _, _, _, _, _]) h0 dX6_deliver_50 (by decide) rfl rfl ?_
  refine z_iload_n h0 dX6_deliver_52 rfl ?_
  refine z_iconst (v := 1) h0 dX6_deliver_53 (by decide) ?_
  refine z_icmp_eq (tgt := 89) h0 dX6_deliver_54 (by decide) (fun h54 => absurd h54 (by decide)) (fun h54 => ?_)
  refine z_iload_n h0 dX6_deliver_57 rfl ?_
  refine z_iconst (v := 2) h0 dX6_deliver_58 (by decide) ?_
  refine z_icmp_ne (tgt := 73) h0 dX6_deliver_59 (by decide) (fun h59 => ?_) (fun h59 => absurd h59 (by decide))
  refine z_iload_n h0 dX6_deliver_73 rfl ?_
  refine z_iconst (v := 3) h0 dX6_deliver_74 (by decide) ?_
  refine z_icmp_ne (tgt := 93) h0 dX6_deliver_75 (by decide) (fun h75 => absurd rfl h75) (fun h75 => ?_)
  refine z_aload_n h0 dX6_deliver_78 rfl ?_
  refine z_iload_n h0 dX6_deliver_79 rfl ?_
  refine z_iconst (v := 2) h0 dX6_deliver_80 (by decide) ?_
  refine z_iload h0 dX6_deliver_81 rfl ?_
  refine z_cVi (n := 3) (As := [_, _, _]) h0 hts hown (c_X6_waits hR (p := p) (by omega) (q := 72 + i) (by omega)) gX6_deliver_X6_waits rfl (by decide +kernel) ⟨Nat.le_of_ble_eq_true rfl, Nat.le_of_ble_eq_true rfl⟩ kOk6 rfl (RF_m hR) dX6_deliver_83 rfl rfl (Nat.le_of_ble_eq_true rfl) ⟨Nat.le_of_ble_eq_true rfl, Nat.le_of_ble_eq_true rfl⟩ (fun r83 S83 hp83 => ?_)
  obtain ⟨rfl, hr83⟩ := hp83
  refine z_if_eq (tgt := 93) h0 dX6_deliver_86 (by decide) (fun h86 => ?_) (fun h86 => ?_)
  · refine z_iconst (v := 0) h0 dX6_deliver_93 (by decide) ?_
    refine z_istore (lo' := [_, _, _, _, _, _]) h0 dX6_deliver_94 (by decide) rfl rfl ?_
    refine z_aload_n h0 dX6_deliver_96 rfl ?_
    refine z_iload h0 dX6_deliver_97 rfl ?_
    refine z_if_eq (tgt := 116) h0 dX6_deliver_99 (by decide) (fun h99 => ?_) (fun h99 => absurd (by decide) h99)
    refine z_iconst (v := 0) h0 dX6_deliver_116 (by decide) ?_
    refine z_putC h0 hR.1 fI15 lp_41 dX6_deliver_117 (fun S117 hX hR hcode => ?_)
    refine z_aload_n h0 dX6_deliver_120 rfl ?_
    refine z_getI h0 fI15 lk_41 dX6_deliver_121 (RF_m hR) ?_
    refine z_top hcode ?_
    refine z_if_le (tgt := 129) h0 dX6_deliver_124 (by decide) (fun h124 => ?_) (fun h124 => absurd (by decide) h124)
    refine z_iload_n h0 dX6_deliver_129 rfl ?_
    refine z_iconst (v := 2) h0 dX6_deliver_130 (by decide) ?_
    refine z_icmp_ge (tgt := 151) h0 dX6_deliver_131 (by decide) (fun h131 => ?_) (fun h131 => absurd (by decide) h131)
    refine z_iload_n h0 dX6_deliver_151 rfl ?_
    refine z_iconst (v := 5) h0 dX6_deliver_152 (by decide) ?_
    refine z_icmp_ge (tgt := 167) h0 dX6_deliver_153 (by decide) (fun h153 => absurd h153 (by decide)) (fun h153 => ?_)
    refine z_aload_n h0 dX6_deliver_156 rfl ?_
    refine z_iload_n h0 dX6_deliver_157 rfl ?_
    refine z_iload_n h0 dX6_deliver_158 rfl ?_
    refine z_iload h0 dX6_deliver_159 rfl ?_
    refine z_cVi (n := 3) (As := [_, _, _]) h0 hts hown (c_X6_takesOther_3x (RF_refl hR) (p := p) (by omega) (q := 72 + i) (by omega) (by first | exact fun _ => (Nat.lt_of_le_of_ne (by omega) (fun z => h109 (by rw [z]; rfl))) | exact fun z => absurd ((bI_f hr83 h86).symm.trans z) (by decide))) gX6_deliver_X6_takesOther rfl (by decide +kernel) ⟨Nat.le_of_ble_eq_true rfl, Nat.le_of_ble_eq_true rfl⟩ kOk6 rfl (RF_m hR) dX6_deliver_161 rfl rfl (Nat.le_of_ble_eq_true rfl) ⟨Nat.le_of_ble_eq_true rfl, Nat.le_of_ble_eq_true rfl⟩ (fun r161 S161 hp161 => ?_)
    have hR := RF_trans hR hp161.1
    have hb := hp161.2
    refine z_goto (tgt := 191) h0 dX6_deliver_164 (by decide) ?_
    exact z_zret h0 hr (by rw [hb]; exact bI_nar _) hlk dX6_deliver_191 (Nat.le_of_ble_eq_true rfl) (Nat.le_of_ble_eq_true rfl) (by first | exact (rP_yes (by unfold oDeliver; rw [if_neg (fun z => z (inR_of hi (by omega))), ix_of (x := nI i) rfl (by omega), if_neg (fun z => h109 (by rw [z.2]; rfl)), mDel_3 hk e2, hb]) (RX_trans hX0 (RX_trans hX hR.1)) (hR.2.trans hcode)) | exact (rP_yes (by unfold oDeliver; rw [if_neg (fun z => z (inR_of hi (by omega))), ix_of (x := nI i) rfl (by omega), if_neg (fun z => by rw [answers_3 hk e2] at z; exact absurd ((bI_f hr83 h86).symm.trans z.1) (by decide)), mDel_3 hk e2, hb]) (RX_trans hX0 (RX_trans hX hR.1)) (hR.2.trans hcode)))
  · refine z_iconst (v := 1) h0 dX6_deliver_89 (by decide) ?_
    refine z_goto (tgt := 94) h0 dX6_deliver_90 (by decide) ?_
    refine z_istore (lo' := [_, _, _, _, _, _]) h0 dX6_deliver_94 (by decide) rfl rfl ?_
    refine z_aload_n h0 dX6_deliver_96 rfl ?_
    refine z_iload h0 dX6_deliver_97 rfl ?_
    refine z_if_eq (tgt := 116) h0 dX6_deliver_99 (by decide) (fun h99 => absurd h99 (by decide)) (fun h99 => ?_)
    refine z_aload_n h0 dX6_deliver_102 rfl ?_
    refine z_getSM h0 hR fI17 lk_59 dX6_deliver_103 ?_
    refine z_sipush (v := 800) h0 dX6_deliver_106 (by decide) ?_
    refine z_icmp_ne (tgt := 116) h0 dX6_deliver_109 (by decide) (fun h109 => ?_) (fun h109 => ?_)
    · refine z_iconst (v := 0) h0 dX6_deliver_116 (by decide) ?_
      refine z_putC h0 hR.1 fI15 lp_41 dX6_deliver_117 (fun S117 hX hR hcode => ?_)
      refine z_aload_n h0 dX6_deliver_120 rfl ?_
      refine z_getI h0 fI15 lk_41 dX6_deliver_121 (RF_m hR) ?_
      refine z_top hcode ?_
      refine z_if_le (tgt := 129) h0 dX6_deliver_124 (by decide) (fun h124 => ?_) (fun h124 => absurd (by decide) h124)
      refine z_iload_n h0 dX6_deliver_129 rfl ?_
      refine z_iconst (v := 2) h0 dX6_deliver_130 (by decide) ?_
      refine z_icmp_ge (tgt := 151) h0 dX6_deliver_131 (by decide) (fun h131 => ?_) (fun h131 => absurd (by decide) h131)
      refine z_iload_n h0 dX6_deliver_151 rfl ?_
      refine z_iconst (v := 5) h0 dX6_deliver_152 (by decide) ?_
      refine z_icmp_ge (tgt := 167) h0 dX6_deliver_153 (by decide) (fun h153 => absurd h153 (by decide)) (fun h153 => ?_)
      refine z_aload_n h0 dX6_deliver_156 rfl ?_
      refine z_iload_n h0 dX6_deliver_157 rfl ?_
      refine z_iload_n h0 dX6_deliver_158 rfl ?_
      refine z_iload h0 dX6_deliver_159 rfl ?_
      refine z_cVi (n := 3) (As := [_, _, _]) h0 hts hown (c_X6_takesOther_3x (RF_refl hR) (p := p) (by omega) (q := 72 + i) (by omega) (by first | exact fun _ => (Nat.lt_of_le_of_ne (by omega) (fun z => h109 (by rw [z]; rfl))) | exact fun z => absurd ((bI_f hr83 h86).symm.trans z) (by decide))) gX6_deliver_X6_takesOther rfl (by decide +kernel) ⟨Nat.le_of_ble_eq_true rfl, Nat.le_of_ble_eq_true rfl⟩ kOk6 rfl (RF_m hR) dX6_deliver_161 rfl rfl (Nat.le_of_ble_eq_true rfl) ⟨Nat.le_of_ble_eq_true rfl, Nat.le_of_ble_eq_true rfl⟩ (fun r161 S161 hp161 => ?_)
      have hR := RF_trans hR hp161.1
      have hb := hp161.2
      refine z_goto (tgt := 191) h0 dX6_deliver_164 (by decide) ?_
      exact z_zret h0 hr (by rw [hb]; exact bI_nar _) hlk dX6_deliver_191 (Nat.le_of_ble_eq_true rfl) (Nat.le_of_ble_eq_true rfl) (by first | exact (rP_yes (by unfold oDeliver; rw [if_neg (fun z => z (inR_of hi (by omega))), ix_of (x := nI i) rfl (by omega), if_neg (fun z => h109 (by rw [z.2]; rfl)), mDel_3 hk e2, hb]) (RX_trans hX0 (RX_trans hX hR.1)) (hR.2.trans hcode)) | exact (rP_yes (by unfold oDeliver; rw [if_neg (fun z => z (inR_of hi (by omega))), ix_of (x := nI i) rfl (by omega), if_neg (fun z => by rw [answers_3 hk e2] at z; exact absurd ((bI_f hr83 h86).symm.trans z.1) (by decide)), mDel_3 hk e2, hb]) (RX_trans hX0 (RX_trans hX hR.1)) (hR.2.trans hcode)))
    · refine z_iconst (v := 2) h0 dX6_deliver_112 (by decide) ?_
      refine z_goto (tgt := 117) h0 dX6_deliver_113 (by decide) ?_
      refine z_putC h0 hR.1 fI15 lp_41 dX6_deliver_117 (fun S117 hX hR hcode => ?_)
      refine z_aload_n h0 dX6_deliver_120 rfl ?_
      refine z_getI h0 fI15 lk_41 dX6_deliver_121 (RF_m hR) ?_
      refine z_top hcode ?_
      refine z_if_le (tgt := 129) h0 dX6_deliver_124 (by decide) (fun h124 => absurd h124 (by decide)) (fun h124 => ?_)
      refine z_iconst (v := 0) h0 dX6_deliver_127 (by decide) ?_
      exact z_zret h0 hr rfl hlk dX6_deliver_128 (Nat.le_of_ble_eq_true rfl) (Nat.le_of_ble_eq_true rfl) (rP_no (c := 1) (by unfold oDeliver; rw [if_neg (fun z => z (inR_of hi (by omega))), ix_of (x := nI i) rfl (by omega), if_pos ⟨(answers_3 hk e2).trans (bI_t hr83 h86), (nI_eq (b := 800) (by omega) (by decide)).mp h109⟩]) (RX_trans hX0 hX) hcode)

set_option maxRecDepth 100000 in
set_option maxHeartbeats 4000000 in
theorem c_X6_deliver_4 {l : Launch} {D : va_G} {cI cZ cO : ClassId} {G : Nat → Nat} {S : PS} {m c : Nat} {A : Nat → Nat} {M : MS} (hR : RF S S m A M) (hI : MI c M) (hc : c < 512) {i p : Nat} (hi : i < mM M) (hk : mA M 4 i = 4) (hp : p < mP M) (hto : mA M 5 i = nI p) : zMi l yX6_deliver wsX6_deliver rm_X6_deliver [.ref m, .int (nI i)] D cI cZ cO G S (fun r S' => rP S m A (oDeliver M (nI i)) r S') := by
  have := MI_p hI; have := MI_m hI; have := MI_e hI
  have e2 := ix_of hto (by omega)
  refine z_of (cc := cX6_deliver) (maxL := 6) (ret := (some .boolean)) (lo := [some (.ref m), some (.int (nI i)), none, none, none, none]) (by decide) rfl rfl (Nat.le_of_ble_eq_true rfl) rfl ?_
  intro pp ee ss mi aa bl mh cd h0 hts hown hr hlk hnm
  have hown : ss.vm.findClass RX6 = some mi.cls := hown
  have inX6 : ∀ w ∈ u_ws RX6 TX6 14, w ∈ wsX6_deliver := by decide +kernel
  have lk_22 : zLk ss mi aa RX6 22 7 7 := ⟨RX6, TX6, 14, "PurseWorldModel", wsX6_deliver, rfl, by decide, hts, inX6, hown, hts (.fieldLink RX6 22 "PurseWorldModel" "kinds" "[I") (by decide +kernel), fun _ h => h⟩
  have lk_25 : zLk ss mi aa RX6 25 7 8 := ⟨RX6, TX6, 14, "PurseWorldModel", wsX6_deliver, rfl, by decide, hts, inX6, hown, hts (.fieldLink RX6 25 "PurseWorldModel" "targets" "[I") (by decide +kernel), fun _ h => h⟩
  have lk_41 : zLk ss mi aa RX6 41 7 0 := ⟨RX6, TX6, 14, "PurseWorldModel", wsX6_deliver, rfl, by decide, hts, inX6, hown, hts (.fieldLink RX6 41 "PurseWorldModel" "code" "I") (by decide +kernel), fun _ h => h⟩
  have lk_59 : zLk ss mi aa RX6 59 7 6 := ⟨RX6, TX6, 14, "PurseWorldModel", wsX6_deliver, rfl, by decide, hts, inX6, hown, hts (.fieldLink RX6 59 "PurseWorldModel" "messages" "I") (by decide +kernel), fun _ h => h⟩
  have lp_41 : zLp ss mi aa mh RX6 41 7 0 .int := ⟨RX6, TX6, 14, "PurseWorldModel", wsX6_deliver, tyX6, rfl, by decide, hts, inX6, hown, hts (.fieldLink RX6 41 "PurseWorldModel" "code" "I") (by decide +kernel), fun _ h => h, tyX6_ok, nmX6, by decide +kernel, Or.inl rfl⟩
  refine z_aload_n h0 dX6_deliver_0 rfl ?_
  refine z_iload_n h0 dX6_deliver_1 rfl ?_
  refine z_iconst (v := 0) h0 dX6_deliver_2 (by decide) ?_
  refine z_aload_n h0 dX6_deliver_3 rfl ?_
  refine z_getSM h0 hR fI17 lk_59 dX6_deliver_4 ?_
  refine z_iconst (v := 1) h0 dX6_deliver_7 (by decide) ?_
  refine z_isub h0 dX6_deliver_8 ?_
  refine z_cSi (n := 3) (As := [_, _, _]) h0 hts hown c_X6_in gX6_deliver_X6_in rfl (by decide +kernel) ⟨Nat.le_of_ble_eq_true rfl, Nat.le_of_ble_eq_true rfl⟩ dX6_deliver_9 rfl rfl (Nat.le_of_ble_eq_true rfl) ⟨Nat.le_of_ble_eq_true rfl, Nat.le_of_ble_eq_true rfl⟩ (fun r9 S9 hp9 => ?_)
  obtain ⟨rfl, hr9⟩ := hp9
  simp only [isP_iff (n := mM M) (by have := MI_p hI; have := MI_m hI; have := MI_e hI; omega)] at hr9
  refine z_if_eq (tgt := 19) h0 dX6_deliver_12 (by decide) (fun h12 => absurd (inR_of hi (by omega)) (ite_f hr9 h12)) (fun h12 => ?_)
  refine z_iconst (v := 0) h0 dX6_deliver_15 (by decide) ?_
  refine z_goto (tgt := 20) h0 dX6_deliver_16 (by decide) ?_
  refine z_putC h0 hR.1 fI15 lp_41 dX6_deliver_20 (fun S20 hX hR hcode => ?_)
  have hX0 := hX
  refine z_aload_n h0 dX6_deliver_23 rfl ?_
  refine z_getI h0 fI15 lk_41 dX6_deliver_24 (RF_m hR) ?_
  refine z_top hcode ?_
  refine z_if_le (tgt := 32) h0 dX6_deliver_27 (by decide) (fun h27 => ?_) (fun h27 => absurd (by decide) h27)
  refine z_aload_n h0 dX6_deliver_32 rfl ?_
  refine z_getA h0 hR 4 (by decide) fO14 rfl lk_22 dX6_deliver_33 ?_
  refine z_iload_n h0 dX6_deliver_36 rfl ?_
  refine z_ialdR h0 hR 4 (by decide) rfl dX6_deliver_37 (nI_toInt (by first | omega | (dsimp only [sA, sT, mP, mM, mE] at *; omega))) (by simp only [rLen]; first | omega | (dsimp only [sA, sT, mP, mM, mE] at *; omega)) ?_
  refine z_top hk ?_
  refine z_istore_n (lo' := [_, _, _, _, _, _]) h0 dX6_deliver_38 (by decide) rfl rfl ?_
  refine z_aload_n h0 dX6_deliver_39 rfl ?_
  refine z_getA h0 hR 5 (by decide) fO15 rfl lk_25 dX6_deliver_40 ?_
  refine z_iload_n h0 dX6_deliver_43 rfl ?_
  refine z_ialdR h0 hR 5 (by decide) rfl dX6_deliver_44 (nI_toInt (by first | omega | (dsimp only [sA, sT, mP, mM, mE] at *; omega))) (by simp only [rLen]; first | omega | (dsimp only [sA, sT, mP, mM, mE] at *; omega)) ?_
  refine z_top hto ?_
  refine z_istore_n (lo' := [_, _, _, _, _, _]) h0 dX6_deliver_45 (by decide) rfl rfl ?_
  refine z_bipush (v := 72) h0 dX6_deliver_46 (by decide) ?_
  refine z_iload_n h0 dX6_deliver_48 rfl ?_
  refine z_iadd h0 dX6_deliver_49 ?_
  refine z_top (y := nI (72 + i)) (by rw [zc72, nI_add]) ?_
  refine z_istore (lo' := [_, _, _, _, _, _]) h0 dX6_deliver_50 (by decide) rfl rfl ?_
  refine z_iload_n h0 dX6_deliver_52 rfl ?_
  refine z_iconst (v := 1) h0 dX6_deliver_53 (by decide) ?_
  refine z_icmp_eq (tgt := 89) h0 dX6_deliver_54 (by decide) (fun h54 => absurd h54 (by decide)) (fun h54 => ?_)
  refine z_iload_n h0 dX6_deliver_57 rfl ?_
  refine z_iconst (v := 2) h0 dX6_deliver_58 (by decide) ?_
  refine z_icmp_ne (tgt := 73) h0 dX6_deliver_59 (by decide) (fun h59 => ?_) (fun h59 => absurd h59 (by decide))
  refine z_iload_n h0 dX6_deliver_73 rfl ?_
  refine z_iconst (v := 3) h0 dX6_deliver_74 (by decide) ?_
  refine z_icmp_ne (tgt := 93) h0 dX6_deliver_75 (by decide) (fun h75 => ?_) (fun h75 => absurd h75 (by decide))
  refine z_iconst (v := 0) h0 dX6_deliver_93 (by decide) ?_
  refine z_istore (lo' := [_, _, _, _, _, _]) h0 dX6_deliver_94 (by decide) rfl rfl ?_
  refine z_aload_n h0 dX6_deliver_96 rfl ?_
  refine z_iload h0 dX6_deliver_97 rfl ?_
  refine z_if_eq (tgt := 116) h0 dX6_deliver_99 (by decide) (fun h99 => ?_) (fun h99 => absurd (by decide) h99)
  refine z_iconst (v := 0) h0 dX6_deliver_116 (by decide) ?_
  refine z_putC h0 hR.1 fI15 lp_41 dX6_deliver_117 (fun S117 hX hR hcode => ?_)
  refine z_aload_n h0 dX6_deliver_120 rfl ?_
  refine z_getI h0 fI15 lk_41 dX6_deliver_121 (RF_m hR) ?_
  refine z_top hcode ?_
  refine z_if_le (tgt := 129) h0 dX6_deliver_124 (by decide) (fun h124 => ?_) (fun h124 => absurd (by decide) h124)
  refine z_iload_n h0 dX6_deliver_129 rfl ?_
  refine z_iconst (v := 2) h0 dX6_deliver_130 (by decide) ?_
  refine z_icmp_ge (tgt := 151) h0 dX6_deliver_131 (by decide) (fun h131 => ?_) (fun h131 => absurd (by decide) h131)
  refine z_iload_n h0 dX6_deliver_151 rfl ?_
  refine z_iconst (v := 5) h0 dX6_deliver_152 (by decide) ?_
  refine z_icmp_ge (tgt := 167) h0 dX6_deliver_153 (by decide) (fun h153 => absurd h153 (by decide)) (fun h153 => ?_)
  refine z_aload_n h0 dX6_deliver_156 rfl ?_
  refine z_iload_n h0 dX6_deliver_157 rfl ?_
  refine z_iload_n h0 dX6_deliver_158 rfl ?_
  refine z_iload h0 dX6_deliver_159 rfl ?_
  refine z_cVi (n := 3) (As := [_, _, _]) h0 hts hown (c_X6_takesOther_4 (RF_refl hR) (p := p) (by omega) (q := 72 + i) (by omega)) gX6_deliver_X6_takesOther rfl (by decide +kernel) ⟨Nat.le_of_ble_eq_true rfl, Nat.le_of_ble_eq_true rfl⟩ kOk6 rfl (RF_m hR) dX6_deliver_161 rfl rfl (Nat.le_of_ble_eq_true rfl) ⟨Nat.le_of_ble_eq_true rfl, Nat.le_of_ble_eq_true rfl⟩ (fun r161 S161 hp161 => ?_)
  have hR := RF_trans hR hp161.1
  have hb := hp161.2
  refine z_goto (tgt := 191) h0 dX6_deliver_164 (by decide) ?_
  exact z_zret h0 hr (by rw [hb]; exact bI_nar _) hlk dX6_deliver_191 (Nat.le_of_ble_eq_true rfl) (Nat.le_of_ble_eq_true rfl) (rP_yes (by unfold oDeliver; rw [if_neg (fun z => z (inR_of hi (by omega))), ix_of (x := nI i) rfl (by omega), if_neg (fun z => by rw [answers_0 (by rw [hk]; decide) (by rw [hk]; decide) (by rw [hk]; decide)] at z; exact nomatch z.1), mDel_4 hk e2, hb]) (RX_trans hX0 (RX_trans hX hR.1)) (hR.2.trans hcode))

set_option maxRecDepth 100000 in
set_option maxHeartbeats 4000000 in
theorem c_X6_deliver_5 {l : Launch} {D : va_G} {cI cZ cO : ClassId} {G : Nat → Nat} {S : PS} {m c : Nat} {A : Nat → Nat} {M : MS} (hR : RF S S m A M) (hI : MI c M) (hc : c < 512) {i : Nat} (hi : i < mM M) (hk : mA M 4 i = 5) : zMi l yX6_deliver wsX6_deliver rm_X6_deliver [.ref m, .int (nI i)] D cI cZ cO G S (fun r S' => rP S m A (oDeliver M (nI i)) r S') := by
  have := MI_p hI; have := MI_m hI; have := MI_e hI
  refine z_of (cc := cX6_deliver) (maxL := 6) (ret := (some .boolean)) (lo := [some (.ref m), some (.int (nI i)), none, none, none, none]) (by decide) rfl rfl (Nat.le_of_ble_eq_true rfl) rfl ?_
  intro pp ee ss mi aa bl mh cd h0 hts hown hr hlk hnm
  have hown : ss.vm.findClass RX6 = some mi.cls := hown
  have inX6 : ∀ w ∈ u_ws RX6 TX6 14, w ∈ wsX6_deliver := by decide +kernel
  have lk_22 : zLk ss mi aa RX6 22 7 7 := ⟨RX6, TX6, 14, "PurseWorldModel", wsX6_deliver, rfl, by decide, hts, inX6, hown, hts (.fieldLink RX6 22 "PurseWorldModel" "kinds" "[I") (by decide +kernel), fun _ h => h⟩
  have lk_25 : zLk ss mi aa RX6 25 7 8 := ⟨RX6, TX6, 14, "PurseWorldModel", wsX6_deliver, rfl, by decide, hts, inX6, hown, hts (.fieldLink RX6 25 "PurseWorldModel" "targets" "[I") (by decide +kernel), fun _ h => h⟩
  have lk_41 : zLk ss mi aa RX6 41 7 0 := ⟨RX6, TX6, 14, "PurseWorldModel", wsX6_deliver, rfl, by decide, hts, inX6, hown, hts (.fieldLink RX6 41 "PurseWorldModel" "code" "I") (by decide +kernel), fun _ h => h⟩
  have lk_59 : zLk ss mi aa RX6 59 7 6 := ⟨RX6, TX6, 14, "PurseWorldModel", wsX6_deliver, rfl, by decide, hts, inX6, hown, hts (.fieldLink RX6 59 "PurseWorldModel" "messages" "I") (by decide +kernel), fun _ h => h⟩
  have lp_41 : zLp ss mi aa mh RX6 41 7 0 .int := ⟨RX6, TX6, 14, "PurseWorldModel", wsX6_deliver, tyX6, rfl, by decide, hts, inX6, hown, hts (.fieldLink RX6 41 "PurseWorldModel" "code" "I") (by decide +kernel), fun _ h => h, tyX6_ok, nmX6, by decide +kernel, Or.inl rfl⟩
  refine z_aload_n h0 dX6_deliver_0 rfl ?_
  refine z_iload_n h0 dX6_deliver_1 rfl ?_
  refine z_iconst (v := 0) h0 dX6_deliver_2 (by decide) ?_
  refine z_aload_n h0 dX6_deliver_3 rfl ?_
  refine z_getSM h0 hR fI17 lk_59 dX6_deliver_4 ?_
  refine z_iconst (v := 1) h0 dX6_deliver_7 (by decide) ?_
  refine z_isub h0 dX6_deliver_8 ?_
  refine z_cSi (n := 3) (As := [_, _, _]) h0 hts hown c_X6_in gX6_deliver_X6_in rfl (by decide +kernel) ⟨Nat.le_of_ble_eq_true rfl, Nat.le_of_ble_eq_true rfl⟩ dX6_deliver_9 rfl rfl (Nat.le_of_ble_eq_true rfl) ⟨Nat.le_of_ble_eq_true rfl, Nat.le_of_ble_eq_true rfl⟩ (fun r9 S9 hp9 => ?_)
  obtain ⟨rfl, hr9⟩ := hp9
  simp only [isP_iff (n := mM M) (by have := MI_p hI; have := MI_m hI; have := MI_e hI; omega)] at hr9
  refine z_if_eq (tgt := 19) h0 dX6_deliver_12 (by decide) (fun h12 => absurd (inR_of hi (by omega)) (ite_f hr9 h12)) (fun h12 => ?_)
  refine z_iconst (v := 0) h0 dX6_deliver_15 (by decide) ?_
  refine z_goto (tgt := 20) h0 dX6_deliver_16 (by decide) ?_
  refine z_putC h0 hR.1 fI15 lp_41 dX6_deliver_20 (fun S20 hX hR hcode => ?_)
  have hX0 := hX
  refine z_aload_n h0 dX6_deliver_23 rfl ?_
  refine z_getI h0 fI15 lk_41 dX6_deliver_24 (RF_m hR) ?_
  refine z_top hcode ?_
  refine z_if_le (tgt := 32) h0 dX6_deliver_27 (by decide) (fun h27 => ?_) (fun h27 => absurd (by decide) h27)
  refine z_aload_n h0 dX6_deliver_32 rfl ?_
  refine z_getA h0 hR 4 (by decide) fO14 rfl lk_22 dX6_deliver_33 ?_
  refine z_iload_n h0 dX6_deliver_36 rfl ?_
  refine z_ialdR h0 hR 4 (by decide) rfl dX6_deliver_37 (nI_toInt (by first | omega | (dsimp only [sA, sT, mP, mM, mE] at *; omega))) (by simp only [rLen]; first | omega | (dsimp only [sA, sT, mP, mM, mE] at *; omega)) ?_
  refine z_top hk ?_
  refine z_istore_n (lo' := [_, _, _, _, _, _]) h0 dX6_deliver_38 (by decide) rfl rfl ?_
  refine z_aload_n h0 dX6_deliver_39 rfl ?_
  refine z_getA h0 hR 5 (by decide) fO15 rfl lk_25 dX6_deliver_40 ?_
  refine z_iload_n h0 dX6_deliver_43 rfl ?_
  refine z_ialdR h0 hR 5 (by decide) rfl dX6_deliver_44 (nI_toInt (by first | omega | (dsimp only [sA, sT, mP, mM, mE] at *; omega))) (by simp only [rLen]; first | omega | (dsimp only [sA, sT, mP, mM, mE] at *; omega)) ?_
  refine z_istore_n (lo' := [_, _, _, _, _, _]) h0 dX6_deliver_45 (by decide) rfl rfl ?_
  refine z_bipush (v := 72) h0 dX6_deliver_46 (by decide) ?_
  refine z_iload_n h0 dX6_deliver_48 rfl ?_
  refine z_iadd h0 dX6_deliver_49 ?_
  refine z_top (y := nI (72 + i)) (by rw [zc72, nI_add]) ?_
  refine z_istore (lo' := [_, _, _, _, _, _]) h0 dX6_deliver_50 (by decide) rfl rfl ?_
  refine z_iload_n h0 dX6_deliver_52 rfl ?_
  refine z_iconst (v := 1) h0 dX6_deliver_53 (by decide) ?_
  refine z_icmp_eq (tgt := 89) h0 dX6_deliver_54 (by decide) (fun h54 => absurd h54 (by decide)) (fun h54 => ?_)
  refine z_iload_n h0 dX6_deliver_57 rfl ?_
  refine z_iconst (v := 2) h0 dX6_deliver_58 (by decide) ?_
  refine z_icmp_ne (tgt := 73) h0 dX6_deliver_59 (by decide) (fun h59 => ?_) (fun h59 => absurd h59 (by decide))
  refine z_iload_n h0 dX6_deliver_73 rfl ?_
  refine z_iconst (v := 3) h0 dX6_deliver_74 (by decide) ?_
  refine z_icmp_ne (tgt := 93) h0 dX6_deliver_75 (by decide) (fun h75 => ?_) (fun h75 => absurd h75 (by decide))
  refine z_iconst (v := 0) h0 dX6_deliver_93 (by decide) ?_
  refine z_istore (lo' := [_, _, _, _, _, _]) h0 dX6_deliver_94 (by decide) rfl rfl ?_
  refine z_aload_n h0 dX6_deliver_96 rfl ?_
  refine z_iload h0 dX6_deliver_97 rfl ?_
  refine z_if_eq (tgt := 116) h0 dX6_deliver_99 (by decide) (fun h99 => ?_) (fun h99 => absurd (by decide) h99)
  refine z_iconst (v := 0) h0 dX6_deliver_116 (by decide) ?_
  refine z_putC h0 hR.1 fI15 lp_41 dX6_deliver_117 (fun S117 hX hR hcode => ?_)
  refine z_aload_n h0 dX6_deliver_120 rfl ?_
  refine z_getI h0 fI15 lk_41 dX6_deliver_121 (RF_m hR) ?_
  refine z_top hcode ?_
  refine z_if_le (tgt := 129) h0 dX6_deliver_124 (by decide) (fun h124 => ?_) (fun h124 => absurd (by decide) h124)
  refine z_iload_n h0 dX6_deliver_129 rfl ?_
  refine z_iconst (v := 2) h0 dX6_deliver_130 (by decide) ?_
  refine z_icmp_ge (tgt := 151) h0 dX6_deliver_131 (by decide) (fun h131 => ?_) (fun h131 => absurd (by decide) h131)
  refine z_iload_n h0 dX6_deliver_151 rfl ?_
  refine z_iconst (v := 5) h0 dX6_deliver_152 (by decide) ?_
  refine z_icmp_ge (tgt := 167) h0 dX6_deliver_153 (by decide) (fun h153 => ?_) (fun h153 => absurd (by decide) h153)
  refine z_iload_n h0 dX6_deliver_167 rfl ?_
  refine z_iconst (v := 5) h0 dX6_deliver_168 (by decide) ?_
  refine z_icmp_ne (tgt := 180) h0 dX6_deliver_169 (by decide) (fun h169 => absurd rfl h169) (fun h169 => ?_)
  refine z_aload_n h0 dX6_deliver_172 rfl ?_
  refine z_iload_n h0 dX6_deliver_173 rfl ?_
  refine z_cVi (n := 1) (As := [_]) h0 hts hown (c_X6_takesRecord (RF_refl hR) (i := i) (by omega) (by omega)) gX6_deliver_X6_takesRecord rfl (by decide +kernel) ⟨Nat.le_of_ble_eq_true rfl, Nat.le_of_ble_eq_true rfl⟩ kOk6 rfl (RF_m hR) dX6_deliver_174 rfl rfl (Nat.le_of_ble_eq_true rfl) ⟨Nat.le_of_ble_eq_true rfl, Nat.le_of_ble_eq_true rfl⟩ (fun r174 S174 hp174 => ?_)
  have hR := RF_trans hR hp174.1
  have hb := hp174.2
  refine z_goto (tgt := 191) h0 dX6_deliver_177 (by decide) ?_
  exact z_zret h0 hr (by rw [hb]; exact bI_nar _) hlk dX6_deliver_191 (Nat.le_of_ble_eq_true rfl) (Nat.le_of_ble_eq_true rfl) (rP_yes (by unfold oDeliver; rw [if_neg (fun z => z (inR_of hi (by omega))), ix_of (x := nI i) rfl (by omega), if_neg (fun z => by rw [answers_0 (by rw [hk]; decide) (by rw [hk]; decide) (by rw [hk]; decide)] at z; exact nomatch z.1), mDel_5 hk, hb]) (RX_trans hX0 (RX_trans hX hR.1)) (hR.2.trans hcode))

set_option maxRecDepth 100000 in
set_option maxHeartbeats 4000000 in
theorem c_X6_deliver_6 {l : Launch} {D : va_G} {cI cZ cO : ClassId} {G : Nat → Nat} {S : PS} {m c : Nat} {A : Nat → Nat} {M : MS} (hR : RF S S m A M) (hI : MI c M) (hc : c < 512) {i p k : Nat} (hi : i < mM M) (hk : mA M 4 i = 6) (hp : p < mP M) (hto : mA M 5 i = nI p) (hkk : k ≤ mE M) (hof : mA M 6 i = nI k) : zMi l yX6_deliver wsX6_deliver rm_X6_deliver [.ref m, .int (nI i)] D cI cZ cO G S (fun r S' => rP S m A (oDeliver M (nI i)) r S') := by
  have := MI_p hI; have := MI_m hI; have := MI_e hI
  have e2 := ix_of hto (by omega)
  have e3 := ix_of hof (by omega)
  refine z_of (cc := cX6_deliver) (maxL := 6) (ret := (some .boolean)) (lo := [some (.ref m), some (.int (nI i)), none, none, none, none]) (by decide) rfl rfl (Nat.le_of_ble_eq_true rfl) rfl ?_
  intro pp ee ss mi aa bl mh cd h0 hts hown hr hlk hnm
  have hown : ss.vm.findClass RX6 = some mi.cls := hown
  have inX6 : ∀ w ∈ u_ws RX6 TX6 14, w ∈ wsX6_deliver := by decide +kernel
  have lk_22 : zLk ss mi aa RX6 22 7 7 := ⟨RX6, TX6, 14, "PurseWorldModel", wsX6_deliver, rfl, by decide, hts, inX6, hown, hts (.fieldLink RX6 22 "PurseWorldModel" "kinds" "[I") (by decide +kernel), fun _ h => h⟩
  have lk_25 : zLk ss mi aa RX6 25 7 8 := ⟨RX6, TX6, 14, "PurseWorldModel", wsX6_deliver, rfl, by decide, hts, inX6, hown, hts (.fieldLink RX6 25 "PurseWorldModel" "targets" "[I") (by decide +kernel), fun _ h => h⟩
  have lk_28 : zLk ss mi aa RX6 28 7 9 := ⟨RX6, TX6, 14, "PurseWorldModel", wsX6_deliver, rfl, by decide, hts, inX6, hown, hts (.fieldLink RX6 28 "PurseWorldModel" "of" "[I") (by decide +kernel), fun _ h => h⟩
  have lk_41 : zLk ss mi aa RX6 41 7 0 := ⟨RX6, TX6, 14, "PurseWorldModel", wsX6_deliver, rfl, by decide, hts, inX6, hown, hts (.fieldLink RX6 41 "PurseWorldModel" "code" "I") (by decide +kernel), fun _ h => h⟩
  have lk_59 : zLk ss mi aa RX6 59 7 6 := ⟨RX6, TX6, 14, "PurseWorldModel", wsX6_deliver, rfl, by decide, hts, inX6, hown, hts (.fieldLink RX6 59 "PurseWorldModel" "messages" "I") (by decide +kernel), fun _ h => h⟩
  have lp_41 : zLp ss mi aa mh RX6 41 7 0 .int := ⟨RX6, TX6, 14, "PurseWorldModel", wsX6_deliver, tyX6, rfl, by decide, hts, inX6, hown, hts (.fieldLink RX6 41 "PurseWorldModel" "code" "I") (by decide +kernel), fun _ h => h, tyX6_ok, nmX6, by decide +kernel, Or.inl rfl⟩
  refine z_aload_n h0 dX6_deliver_0 rfl ?_
  refine z_iload_n h0 dX6_deliver_1 rfl ?_
  refine z_iconst (v := 0) h0 dX6_deliver_2 (by decide) ?_
  refine z_aload_n h0 dX6_deliver_3 rfl ?_
  refine z_getSM h0 hR fI17 lk_59 dX6_deliver_4 ?_
  refine z_iconst (v := 1) h0 dX6_deliver_7 (by decide) ?_
  refine z_isub h0 dX6_deliver_8 ?_
  refine z_cSi (n := 3) (As := [_, _, _]) h0 hts hown c_X6_in gX6_deliver_X6_in rfl (by decide +kernel) ⟨Nat.le_of_ble_eq_true rfl, Nat.le_of_ble_eq_true rfl⟩ dX6_deliver_9 rfl rfl (Nat.le_of_ble_eq_true rfl) ⟨Nat.le_of_ble_eq_true rfl, Nat.le_of_ble_eq_true rfl⟩ (fun r9 S9 hp9 => ?_)
  obtain ⟨rfl, hr9⟩ := hp9
  simp only [isP_iff (n := mM M) (by have := MI_p hI; have := MI_m hI; have := MI_e hI; omega)] at hr9
  refine z_if_eq (tgt := 19) h0 dX6_deliver_12 (by decide) (fun h12 => absurd (inR_of hi (by omega)) (ite_f hr9 h12)) (fun h12 => ?_)
  refine z_iconst (v := 0) h0 dX6_deliver_15 (by decide) ?_
  refine z_goto (tgt := 20) h0 dX6_deliver_16 (by decide) ?_
  refine z_putC h0 hR.1 fI15 lp_41 dX6_deliver_20 (fun S20 hX hR hcode => ?_)
  have hX0 := hX
  refine z_aload_n h0 dX6_deliver_23 rfl ?_
  refine z_getI h0 fI15 lk_41 dX6_deliver_24 (RF_m hR) ?_
  refine z_top hcode ?_
  refine z_if_le (tgt := 32) h0 dX6_deliver_27 (by decide) (fun h27 => ?_) (fun h27 => absurd (by decide) h27)
  refine z_aload_n h0 dX6_deliver_32 rfl ?_
  refine z_getA h0 hR 4 (by decide) fO14 rfl lk_22 dX6_deliver_33 ?_
  refine z_iload_n h0 dX6_deliver_36 rfl ?_
  refine z_ialdR h0 hR 4 (by decide) rfl dX6_deliver_37 (nI_toInt (by first | omega | (dsimp only [sA, sT, mP, mM, mE] at *; omega))) (by simp only [rLen]; first | omega | (dsimp only [sA, sT, mP, mM, mE] at *; omega)) ?_
  refine z_top hk ?_
  refine z_istore_n (lo' := [_, _, _, _, _, _]) h0 dX6_deliver_38 (by decide) rfl rfl ?_
  refine z_aload_n h0 dX6_deliver_39 rfl ?_
  refine z_getA h0 hR 5 (by decide) fO15 rfl lk_25 dX6_deliver_40 ?_
  refine z_iload_n h0 dX6_deliver_43 rfl ?_
  refine z_ialdR h0 hR 5 (by decide) rfl dX6_deliver_44 (nI_toInt (by first | omega | (dsimp only [sA, sT, mP, mM, mE] at *; omega))) (by simp only [rLen]; first | omega | (dsimp only [sA, sT, mP, mM, mE] at *; omega)) ?_
  refine z_top hto ?_
  refine z_istore_n (lo' := [_, _, _, _, _, _]) h0 dX6_deliver_45 (by decide) rfl rfl ?_
  refine z_bipush (v := 72) h0 dX6_deliver_46 (by decide) ?_
  refine z_iload_n h0 dX6_deliver_48 rfl ?_
  refine z_iadd h0 dX6_deliver_49 ?_
  refine z_top (y := nI (72 + i)) (by rw [zc72, nI_add]) ?_
  refine z_istore (lo' := [_, _, _, _, _, _]) h0 dX6_deliver_50 (by decide) rfl rfl ?_
  refine z_iload_n h0 dX6_deliver_52 rfl ?_
  refine z_iconst (v := 1) h0 dX6_deliver_53 (by decide) ?_
  refine z_icmp_eq (tgt := 89) h0 dX6_deliver_54 (by decide) (fun h54 => absurd h54 (by decide)) (fun h54 => ?_)
  refine z_iload_n h0 dX6_deliver_57 rfl ?_
  refine z_iconst (v := 2) h0 dX6_deliver_58 (by decide) ?_
  refine z_icmp_ne (tgt := 73) h0 dX6_deliver_59 (by decide) (fun h59 => ?_) (fun h59 => absurd h59 (by decide))
  refine z_iload_n h0 dX6_deliver_73 rfl ?_
  refine z_iconst (v := 3) h0 dX6_deliver_74 (by decide) ?_
  refine z_icmp_ne (tgt := 93) h0 dX6_deliver_75 (by decide) (fun h75 => ?_) (fun h75 => absurd h75 (by decide))
  refine z_iconst (v := 0) h0 dX6_deliver_93 (by decide) ?_
  refine z_istore (lo' := [_, _, _, _, _, _]) h0 dX6_deliver_94 (by decide) rfl rfl ?_
  refine z_aload_n h0 dX6_deliver_96 rfl ?_
  refine z_iload h0 dX6_deliver_97 rfl ?_
  refine z_if_eq (tgt := 116) h0 dX6_deliver_99 (by decide) (fun h99 => ?_) (fun h99 => absurd (by decide) h99)
  refine z_iconst (v := 0) h0 dX6_deliver_116 (by decide) ?_
  refine z_putC h0 hR.1 fI15 lp_41 dX6_deliver_117 (fun S117 hX hR hcode => ?_)
  refine z_aload_n h0 dX6_deliver_120 rfl ?_
  refine z_getI h0 fI15 lk_41 dX6_deliver_121 (RF_m hR) ?_
  refine z_top hcode ?_
  refine z_if_le (tgt := 129) h0 dX6_deliver_124 (by decide) (fun h124 => ?_) (fun h124 => absurd (by decide) h124)
  refine z_iload_n h0 dX6_deliver_129 rfl ?_
  refine z_iconst (v := 2) h0 dX6_deliver_130 (by decide) ?_
  refine z_icmp_ge (tgt := 151) h0 dX6_deliver_131 (by decide) (fun h131 => ?_) (fun h131 => absurd (by decide) h131)
  refine z_iload_n h0 dX6_deliver_151 rfl ?_
  refine z_iconst (v := 5) h0 dX6_deliver_152 (by decide) ?_
  refine z_icmp_ge (tgt := 167) h0 dX6_deliver_153 (by decide) (fun h153 => ?_) (fun h153 => absurd (by decide) h153)
  refine z_iload_n h0 dX6_deliver_167 rfl ?_
  refine z_iconst (v := 5) h0 dX6_deliver_168 (by decide) ?_
  refine z_icmp_ne (tgt := 180) h0 dX6_deliver_169 (by decide) (fun h169 => ?_) (fun h169 => absurd h169 (by decide))
  refine z_aload_n h0 dX6_deliver_180 rfl ?_
  refine z_iload_n h0 dX6_deliver_181 rfl ?_
  refine z_aload_n h0 dX6_deliver_182 rfl ?_
  refine z_getA h0 hR 6 (by decide) fO16 rfl lk_28 dX6_deliver_183 ?_
  refine z_iload_n h0 dX6_deliver_186 rfl ?_
  refine z_ialdR h0 hR 6 (by decide) rfl dX6_deliver_187 (nI_toInt (by first | omega | (dsimp only [sA, sT, mP, mM, mE] at *; omega))) (by simp only [rLen]; first | omega | (dsimp only [sA, sT, mP, mM, mE] at *; omega)) ?_
  refine z_top hof ?_
  refine z_cVi (n := 2) (As := [_, _]) h0 hts hown (c_X6_takesClearing (RF_refl hR) (p := p) (by omega) (k := k) (MI_ln hI hp).1 (MI_ln hI hp).2 (by omega)) gX6_deliver_X6_takesClearing rfl (by decide +kernel) ⟨Nat.le_of_ble_eq_true rfl, Nat.le_of_ble_eq_true rfl⟩ kOk6 rfl (RF_m hR) dX6_deliver_188 rfl rfl (Nat.le_of_ble_eq_true rfl) ⟨Nat.le_of_ble_eq_true rfl, Nat.le_of_ble_eq_true rfl⟩ (fun r188 S188 hp188 => ?_)
  have hR := RF_trans hR hp188.1
  have hb := hp188.2
  exact z_zret h0 hr (by rw [hb]; exact bI_nar _) hlk dX6_deliver_191 (Nat.le_of_ble_eq_true rfl) (Nat.le_of_ble_eq_true rfl) (rP_yes (by unfold oDeliver; rw [if_neg (fun z => z (inR_of hi (by omega))), ix_of (x := nI i) rfl (by omega), if_neg (fun z => by rw [answers_0 (by rw [hk]; decide) (by rw [hk]; decide) (by rw [hk]; decide)] at z; exact nomatch z.1), mDel_6 hk e2 e3, hb]) (RX_trans hX0 (RX_trans hX hR.1)) (hR.2.trans hcode))

set_option maxRecDepth 100000 in
set_option maxHeartbeats 4000000 in
theorem c_X6_deliver_n {l : Launch} {D : va_G} {cI cZ cO : ClassId} {G : Nat → Nat} {S : PS} {m c : Nat} {A : Nat → Nat} {M : MS} (hR : RF S S m A M) (hI : MI c M) (hc : c < 512) {x : Int32} (hx : ¬ inR x (mM M)) : zMi l yX6_deliver wsX6_deliver rm_X6_deliver [.ref m, .int x] D cI cZ cO G S (fun r S' => rP S m A (oDeliver M x) r S') := by
  refine z_of (cc := cX6_deliver) (maxL := 6) (ret := (some .boolean)) (lo := [some (.ref m), some (.int x), none, none, none, none]) (by decide) rfl rfl (Nat.le_of_ble_eq_true rfl) rfl ?_
  intro pp ee ss mi aa bl mh cd h0 hts hown hr hlk hnm
  have hown : ss.vm.findClass RX6 = some mi.cls := hown
  have inX6 : ∀ w ∈ u_ws RX6 TX6 14, w ∈ wsX6_deliver := by decide +kernel
  have lk_41 : zLk ss mi aa RX6 41 7 0 := ⟨RX6, TX6, 14, "PurseWorldModel", wsX6_deliver, rfl, by decide, hts, inX6, hown, hts (.fieldLink RX6 41 "PurseWorldModel" "code" "I") (by decide +kernel), fun _ h => h⟩
  have lk_59 : zLk ss mi aa RX6 59 7 6 := ⟨RX6, TX6, 14, "PurseWorldModel", wsX6_deliver, rfl, by decide, hts, inX6, hown, hts (.fieldLink RX6 59 "PurseWorldModel" "messages" "I") (by decide +kernel), fun _ h => h⟩
  have lp_41 : zLp ss mi aa mh RX6 41 7 0 .int := ⟨RX6, TX6, 14, "PurseWorldModel", wsX6_deliver, tyX6, rfl, by decide, hts, inX6, hown, hts (.fieldLink RX6 41 "PurseWorldModel" "code" "I") (by decide +kernel), fun _ h => h, tyX6_ok, nmX6, by decide +kernel, Or.inl rfl⟩
  refine z_aload_n h0 dX6_deliver_0 rfl ?_
  refine z_iload_n h0 dX6_deliver_1 rfl ?_
  refine z_iconst (v := 0) h0 dX6_deliver_2 (by decide) ?_
  refine z_aload_n h0 dX6_deliver_3 rfl ?_
  refine z_getSM h0 hR fI17 lk_59 dX6_deliver_4 ?_
  refine z_iconst (v := 1) h0 dX6_deliver_7 (by decide) ?_
  refine z_isub h0 dX6_deliver_8 ?_
  refine z_cSi (n := 3) (As := [_, _, _]) h0 hts hown c_X6_in gX6_deliver_X6_in rfl (by decide +kernel) ⟨Nat.le_of_ble_eq_true rfl, Nat.le_of_ble_eq_true rfl⟩ dX6_deliver_9 rfl rfl (Nat.le_of_ble_eq_true rfl) ⟨Nat.le_of_ble_eq_true rfl, Nat.le_of_ble_eq_true rfl⟩ (fun r9 S9 hp9 => ?_)
  obtain ⟨rfl, hr9⟩ := hp9
  simp only [isP_iff (n := mM M) (by have := MI_p hI; have := MI_m hI; have := MI_e hI; omega)] at hr9
  refine z_if_eq (tgt := 19) h0 dX6_deliver_12 (by decide) (fun h12 => ?_) (fun h12 => absurd (ite_t hr9 h12) hx)
  refine z_iconst (v := 1) h0 dX6_deliver_19 (by decide) ?_
  refine z_putC h0 hR.1 fI15 lp_41 dX6_deliver_20 (fun S20 hX hR hcode => ?_)
  refine z_aload_n h0 dX6_deliver_23 rfl ?_
  refine z_getI h0 fI15 lk_41 dX6_deliver_24 (RF_m hR) ?_
  refine z_top hcode ?_
  refine z_if_le (tgt := 32) h0 dX6_deliver_27 (by decide) (fun h27 => absurd h27 (by decide)) (fun h27 => ?_)
  refine z_iconst (v := 0) h0 dX6_deliver_30 (by decide) ?_
  exact z_zret h0 hr rfl hlk dX6_deliver_31 (Nat.le_of_ble_eq_true rfl) (Nat.le_of_ble_eq_true rfl) (rP_no (c := 0) (by unfold oDeliver; rw [if_pos hx]) hX hcode)

theorem c_X6_deliver {l : Launch} {D : va_G} {cI cZ cO : ClassId} {G : Nat → Nat} {S : PS} {m c : Nat} {A : Nat → Nat} {M : MS} (hR : RF S S m A M) (hI : MI c M) (hc : c < 512) {x : Int32} : zMi l yX6_deliver wsX6_deliver rm_X6_deliver [.ref m, .int x] D cI cZ cO G S (fun r S' => rP S m A (oDeliver M x) r S') := by
  by_cases hx : inR x (mM M)
  · have := MI_m hI
    obtain ⟨i, hi, rfl⟩ := inR_nI hx (by omega)
    obtain ⟨kd, hk, hk6, h5, hr, hcl⟩ := hI.2.2.2.2.2.1 i hi
    rcases (show kd = 0 ∨ kd = 1 ∨ kd = 2 ∨ kd = 3 ∨ kd = 4 ∨ kd = 5 ∨ kd = 6 by omega) with rfl | rfl | rfl | rfl | rfl | rfl | rfl
    · obtain ⟨_, p, hp, hto, _⟩ := h5 (by decide)
      exact c_X6_deliver_0 hR hI hc hi hk hp hto
    · obtain ⟨_, p, hp, hto, _⟩ := h5 (by decide)
      exact c_X6_deliver_1 hR hI hc hi hk hp hto
    · obtain ⟨_, p, hp, hto, _⟩ := h5 (by decide)
      exact c_X6_deliver_2 hR hI hc hi hk hp hto
    · obtain ⟨_, p, hp, hto, _⟩ := h5 (by decide)
      exact c_X6_deliver_3 hR hI hc hi hk hp hto
    · obtain ⟨_, p, hp, hto, _⟩ := h5 (by decide)
      exact c_X6_deliver_4 hR hI hc hi hk hp hto
    · exact c_X6_deliver_5 hR hI hc hi hk
    · obtain ⟨⟨p, hp, hto⟩, k, hkk, hof⟩ := hcl rfl
      exact c_X6_deliver_6 hR hI hc hi hk hp hto hkk hof
  · exact c_X6_deliver_n hR hI hc hx

end REFPUB3
