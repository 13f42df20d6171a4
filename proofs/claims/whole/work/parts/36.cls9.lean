/-! THE CLASS: pending. -/
section CLS9
theorem acc_s {f : Nat → Int64} {a b v w : Int64} {n : Nat} (hf : f n = v) (hw : w = v) (hb : b = a + sumTo f n) : b + w = a + sumTo f (n + 1) := by rw [sum_s, hf, hw, hb, Int64.add_assoc]
theorem acc_z {f : Nat → Int64} {a b : Int64} {n : Nat} (hf : f n = 0) (hb : b = a + sumTo f n) : b = a + sumTo f (n + 1) := by rw [sum_s, hf, hb, Int64.add_zero]
theorem inLg_all {G : Nat → Nat} {S : PS} {x n0 ar : Nat} {L : Nat → Nat} {C : Nat → List Nat} {M : MS} {b c p a q t : Nat} (h : RC G S x n0 ar L C M) (hI : MIb b c M) (hp : (C 0)[p]? = some a) (ht : tr S t = mT M q) : (C (p + 3)).any (fun y => decide (tr S y = tr S t)) = inLg M p q := by
  have hl := (RC_len h hI hp).1
  have plog := (h.2.2.2.2.2.1 p a hp).2.2.2.2.2.2.2.2.2
  unfold inLg
  rw [← hl]
  exact any_list (fun j y hj => by rw [(plog j y hj).2, ht])

abbrev rm_X5_amountIfPayeeWaits : Room := { frames := 7, cells := 1, slots := 6, locals := 111 }
set_option maxRecDepth 100000 in
set_option maxHeartbeats 4000000 in
theorem c_X5_amountIfPayeeWaits {l : Launch} {D : va_G} {cI cZ cO : ClassId} {G : Nat → Nat} {S : PS} {x n0 ar : Nat} {L : Nat → Nat} {C : Nat → List Nat} {M : MS} (hC : RC G S x n0 ar L C M) {c : Nat} (hI : MI c M) (hc : c < 512) {t q : Nat} (t4 : isK S 4 t) (htr : tr S t = mT M q) (htk : tOk (mP M) (mT M q)) : zMl l yX5_amountIfPayeeWaits wsX5_amountIfPayeeWaits rm_X5_amountIfPayeeWaits [.ref x, .ref t] D cI cZ cO G S (fun r S' => S = S' ∧ r = awt M q) := by
  have hx5 := hC.1.1
  have hxn := hC.1.2.1
  have hxo := hC.1.2.2.1
  have hxs := hC.1.2.2.2.1
  have hxa := hC.1.2.2.2.2
  have har := hC.2.2.1.1
  have harr := hC.2.2.1.2
  have hA0 := hC.2.2.2.1.1 0 (by omega)
  have hA1 := hC.2.2.2.1.1 1 (by omega)
  have hA2 := hC.2.2.2.1.1 2 (by omega)
  have h70 := hA0.1
  have h71 := hA1.1
  have h72 := hA2.1
  have hl0 := hC.2.2.2.2.1.1
  have hl1 := hC.2.2.2.2.1.2.1
  have hl2 := hC.2.2.2.2.1.2.2
  have hs0 : pI S 20 (L 0) = nI (mP M) := by rw [← hl0]; exact hA0.2.1
  have hs1 : pI S 20 (L 1) = nI (mM M) := by rw [← hl1]; exact hA1.2.1
  have hs2 : pI S 20 (L 2) = nI (mE M) := by rw [← hl2]; exact hA2.2.1
  have := MI_p hI; have := MI_m hI; have := MI_e hI
  obtain ⟨pa, p, hpa0, hp, hab, ea, eb⟩ := htk
  have e2 := ix_of eb (by omega)
  obtain ⟨a0, ha0⟩ := RC_at hC hp
  have hen := RC_en hC
  refine z_of (cc := cX5_amountIfPayeeWaits) (maxL := 4) (ret := (some .long)) (lo := [some (.ref x), some (.ref t), none, none]) (by decide) rfl rfl (Nat.le_of_ble_eq_true rfl) rfl ?_
  intro pp ee ss mi aa bl mh cd h0 hts hown hr hlk hnm
  have hown : ss.vm.findClass RX5 = some mi.cls := hown
  have inX4 : ∀ w ∈ u_ws RX4 TX4 5, w ∈ wsX5_amountIfPayeeWaits := by decide +kernel
  have inX5 : ∀ w ∈ u_ws RX5 TX5 4, w ∈ wsX5_amountIfPayeeWaits := by decide +kernel
  have lk_31 : zLk ss mi aa RX5 31 6 3 := ⟨RX5, TX5, 4, "PurseWorld", wsX5_amountIfPayeeWaits, rfl, by decide, hts, inX5, hown, hts (.fieldLink RX5 31 "PurseWorld" "archive" "LPurseWorld$Archive;") (by decide +kernel), fun _ h => h⟩
  have lk_164 : zLk ss mi aa RX5 164 5 2 := ⟨RX4, TX4, 5, "PurseWorld$Transfer", wsX5_amountIfPayeeWaits, rfl, by decide, hts, inX4, hown, hts (.fieldLink RX5 164 "PurseWorld$Transfer" "payee" "I") (by decide +kernel), fun _ h => h⟩
  have lk_182 : zLk ss mi aa RX5 182 5 4 := ⟨RX4, TX4, 5, "PurseWorld$Transfer", wsX5_amountIfPayeeWaits, rfl, by decide, hts, inX4, hown, hts (.fieldLink RX5 182 "PurseWorld$Transfer" "amount" "I") (by decide +kernel), fun _ h => h⟩
  refine z_aload_n h0 dX5_amountIfPayeeWaits_0 rfl ?_
  refine z_aload_n h0 dX5_amountIfPayeeWaits_1 rfl ?_
  refine z_getI h0 fI12 lk_164 dX5_amountIfPayeeWaits_2 (by assumption) ?_
  refine z_top ((congrArg (part 2) htr).trans eb) ?_
  refine z_cVr (n := 1) (As := [_]) h0 hts hown (c_X5_purseAt_y hC hI hc hp ha0) gX5_amountIfPayeeWaits_X5_purseAt rfl (by decide +kernel) ⟨Nat.le_of_ble_eq_true rfl, Nat.le_of_ble_eq_true rfl⟩ kOk5 rfl (by assumption) dX5_amountIfPayeeWaits_5 rfl rfl (Nat.le_of_ble_eq_true rfl) ⟨Nat.le_of_ble_eq_true rfl, Nat.le_of_ble_eq_true rfl⟩ (fun r5 S5 hp5 => ?_)
  obtain ⟨rfl, hpa⟩ := hp5
  have hpr := hC.2.2.2.2.2.1 p _ hpa
  have k3 := hpr.1
  have pnum := hpr.2.1
  have pnot := hpr.2.2.1
  have pkept := hpr.2.2.2.1
  have pbal := hpr.2.2.2.2.1
  have pser := hpr.2.2.2.2.2.1
  have pst := hpr.2.2.2.2.2.2.1
  have pln := hpr.2.2.2.2.2.2.2.1
  obtain ⟨cu, pcu, cu4, cu0, cuT⟩ := hpr.2.2.2.2.2.2.2.2.1
  have plog := hpr.2.2.2.2.2.2.2.2.2
  have hAk := hC.2.2.2.1.1 (p + 3) (by omega)
  have h7k := hAk.1
  have hsk := hAk.2.1
  refine z_astore_n (lo' := [_, _, _, _]) h0 dX5_amountIfPayeeWaits_8 (by decide) rfl rfl ?_
  refine z_aload_n h0 dX5_amountIfPayeeWaits_9 rfl ?_
  refine z_iconst (v := 2) h0 dX5_amountIfPayeeWaits_10 (by decide) ?_
  refine z_aload_n h0 dX5_amountIfPayeeWaits_11 rfl ?_
  refine z_cVi (n := 2) (As := [_, _]) h0 hts hown (c_X3_does k3 pcu cu4 t4) gX5_amountIfPayeeWaits_X3_does rfl (by decide +kernel) ⟨Nat.le_of_ble_eq_true rfl, Nat.le_of_ble_eq_true rfl⟩ kOk3 rfl (by assumption) dX5_amountIfPayeeWaits_12 rfl rfl (Nat.le_of_ble_eq_true rfl) ⟨Nat.le_of_ble_eq_true rfl, Nat.le_of_ble_eq_true rfl⟩ (fun r12 S12 hp12 => ?_)
  obtain ⟨rfl, hr12⟩ := hp12
  have hb12 := does_wts hr12 pst (by decide) cuT htr
  refine z_if_ne (tgt := 41) h0 dX5_amountIfPayeeWaits_15 (by decide) (fun h15 => ?_) (fun h15 => ?_)
  · refine z_iconst (v := 1) h0 dX5_amountIfPayeeWaits_41 (by decide) ?_
    refine z_goto (tgt := 46) h0 dX5_amountIfPayeeWaits_42 (by decide) ?_
    refine z_istore_n (lo' := [_, _, _, _]) h0 dX5_amountIfPayeeWaits_46 (by decide) rfl rfl ?_
    refine z_iload_n h0 dX5_amountIfPayeeWaits_47 rfl ?_
    refine z_if_eq (tgt := 70) h0 dX5_amountIfPayeeWaits_48 (by decide) (fun h48 => absurd h48 (by decide)) (fun h48 => ?_)
    refine z_aload_n h0 dX5_amountIfPayeeWaits_51 rfl ?_
    refine z_getO h0 fO9 lk_31 dX5_amountIfPayeeWaits_52 (by assumption) (by assumption) ?_
    refine z_aload_n h0 dX5_amountIfPayeeWaits_55 rfl ?_
    refine z_cVi (n := 1) (As := [_]) h0 hts hown (c_X0_hasRefunded har harr hA2 hen t4) gX5_amountIfPayeeWaits_X0_hasRefunded rfl (by decide +kernel) ⟨Nat.le_of_ble_eq_true rfl, Nat.le_of_ble_eq_true rfl⟩ kOk0 rfl (by assumption) dX5_amountIfPayeeWaits_56 rfl rfl (Nat.le_of_ble_eq_true rfl) ⟨Nat.le_of_ble_eq_true rfl, Nat.le_of_ble_eq_true rfl⟩ (fun r56 S56 hp56 => ?_)
    obtain ⟨rfl, hr56⟩ := hp56
    rw [rfd_all hC htr] at hr56
    have hb56 : r56 = bI _ := hr56
    refine z_if_ne (tgt := 70) h0 dX5_amountIfPayeeWaits_59 (by decide) (fun h59 => ?_) (fun h59 => ?_)
    · refine z_lconst (v := 0) h0 dX5_amountIfPayeeWaits_70 (by decide) ?_
      exact z_lret h0 hr hlk dX5_amountIfPayeeWaits_71 (Nat.le_of_ble_eq_true rfl) (Nat.le_of_ble_eq_true rfl) (by
      refine ⟨rfl, ?_⟩
      unfold awt
      rw [e2]
      first
        | exact (if_pos ⟨by rw [bI_t hb12 h15]; rfl, bI_f hb56 h59⟩).symm
        | exact (if_pos ⟨by rw [bI_t hb20 h23, Bool.or_true]; rfl, bI_f hb56 h59⟩).symm
        | exact (if_pos ⟨by rw [bI_t hb35 h38, Bool.or_true], bI_f hb56 h59⟩).symm
        | exact (if_neg (fun z => absurd ((bI_t hb56 h59).symm.trans z.2) (by decide))).symm
        | exact (if_neg (fun z => absurd z.1 (by rw [bI_f hb12 h15, bI_f hb20 h23, bI_f hb35 h38]; decide))).symm)
    · refine z_aload_n h0 dX5_amountIfPayeeWaits_62 rfl ?_
      refine z_getI h0 fI14 lk_182 dX5_amountIfPayeeWaits_63 (by assumption) ?_
      refine z_top (y := part 4 (mT M q)) (congrArg (part 4) htr) ?_
      refine z_i2l h0 dX5_amountIfPayeeWaits_66 ?_
      refine z_goto (tgt := 71) h0 dX5_amountIfPayeeWaits_67 (by decide) ?_
      exact z_lret h0 hr hlk dX5_amountIfPayeeWaits_71 (Nat.le_of_ble_eq_true rfl) (Nat.le_of_ble_eq_true rfl) (by
      refine ⟨rfl, ?_⟩
      unfold awt
      rw [e2]
      first
        | exact (if_pos ⟨by rw [bI_t hb12 h15]; rfl, bI_f hb56 h59⟩).symm
        | exact (if_pos ⟨by rw [bI_t hb20 h23, Bool.or_true]; rfl, bI_f hb56 h59⟩).symm
        | exact (if_pos ⟨by rw [bI_t hb35 h38, Bool.or_true], bI_f hb56 h59⟩).symm
        | exact (if_neg (fun z => absurd ((bI_t hb56 h59).symm.trans z.2) (by decide))).symm
        | exact (if_neg (fun z => absurd z.1 (by rw [bI_f hb12 h15, bI_f hb20 h23, bI_f hb35 h38]; decide))).symm)
  · refine z_aload_n h0 dX5_amountIfPayeeWaits_18 rfl ?_
    refine z_aload_n h0 dX5_amountIfPayeeWaits_19 rfl ?_
    refine z_cVi (n := 1) (As := [_]) h0 hts hown (c_X3_hasKept k3 pkept hAk (fun y hy => by obtain ⟨j, hj⟩ := List.getElem?_of_mem hy; exact (plog j y hj).1) t4) gX5_amountIfPayeeWaits_X3_hasKept rfl (by decide +kernel) ⟨Nat.le_of_ble_eq_true rfl, Nat.le_of_ble_eq_true rfl⟩ kOk3 rfl (by assumption) dX5_amountIfPayeeWaits_20 rfl rfl (Nat.le_of_ble_eq_true rfl) ⟨Nat.le_of_ble_eq_true rfl, Nat.le_of_ble_eq_true rfl⟩ (fun r20 S20 hp20 => ?_)
    obtain ⟨rfl, hr20⟩ := hp20
    rw [inLg_all hC hI hpa htr] at hr20
    have hb20 : r20 = bI _ := hr20
    refine z_if_ne (tgt := 41) h0 dX5_amountIfPayeeWaits_23 (by decide) (fun h23 => ?_) (fun h23 => ?_)
    · refine z_iconst (v := 1) h0 dX5_amountIfPayeeWaits_41 (by decide) ?_
      refine z_goto (tgt := 46) h0 dX5_amountIfPayeeWaits_42 (by decide) ?_
      refine z_istore_n (lo' := [_, _, _, _]) h0 dX5_amountIfPayeeWaits_46 (by decide) rfl rfl ?_
      refine z_iload_n h0 dX5_amountIfPayeeWaits_47 rfl ?_
      refine z_if_eq (tgt := 70) h0 dX5_amountIfPayeeWaits_48 (by decide) (fun h48 => absurd h48 (by decide)) (fun h48 => ?_)
      refine z_aload_n h0 dX5_amountIfPayeeWaits_51 rfl ?_
      refine z_getO h0 fO9 lk_31 dX5_amountIfPayeeWaits_52 (by assumption) (by assumption) ?_
      refine z_aload_n h0 dX5_amountIfPayeeWaits_55 rfl ?_
      refine z_cVi (n := 1) (As := [_]) h0 hts hown (c_X0_hasRefunded har harr hA2 hen t4) gX5_amountIfPayeeWaits_X0_hasRefunded rfl (by decide +kernel) ⟨Nat.le_of_ble_eq_true rfl, Nat.le_of_ble_eq_true rfl⟩ kOk0 rfl (by assumption) dX5_amountIfPayeeWaits_56 rfl rfl (Nat.le_of_ble_eq_true rfl) ⟨Nat.le_of_ble_eq_true rfl, Nat.le_of_ble_eq_true rfl⟩ (fun r56 S56 hp56 => ?_)
      obtain ⟨rfl, hr56⟩ := hp56
      rw [rfd_all hC htr] at hr56
      have hb56 : r56 = bI _ := hr56
      refine z_if_ne (tgt := 70) h0 dX5_amountIfPayeeWaits_59 (by decide) (fun h59 => ?_) (fun h59 => ?_)
      · refine z_lconst (v := 0) h0 dX5_amountIfPayeeWaits_70 (by decide) ?_
        exact z_lret h0 hr hlk dX5_amountIfPayeeWaits_71 (Nat.le_of_ble_eq_true rfl) (Nat.le_of_ble_eq_true rfl) (by
      refine ⟨rfl, ?_⟩
      unfold awt
      rw [e2]
      first
        | exact (if_pos ⟨by rw [bI_t hb12 h15]; rfl, bI_f hb56 h59⟩).symm
        | exact (if_pos ⟨by rw [bI_t hb20 h23, Bool.or_true]; rfl, bI_f hb56 h59⟩).symm
        | exact (if_pos ⟨by rw [bI_t hb35 h38, Bool.or_true], bI_f hb56 h59⟩).symm
        | exact (if_neg (fun z => absurd ((bI_t hb56 h59).symm.trans z.2) (by decide))).symm
        | exact (if_neg (fun z => absurd z.1 (by rw [bI_f hb12 h15, bI_f hb20 h23, bI_f hb35 h38]; decide))).symm)
      · refine z_aload_n h0 dX5_amountIfPayeeWaits_62 rfl ?_
        refine z_getI h0 fI14 lk_182 dX5_amountIfPayeeWaits_63 (by assumption) ?_
        refine z_top (y := part 4 (mT M q)) (congrArg (part 4) htr) ?_
        refine z_i2l h0 dX5_amountIfPayeeWaits_66 ?_
        refine z_goto (tgt := 71) h0 dX5_amountIfPayeeWaits_67 (by decide) ?_
        exact z_lret h0 hr hlk dX5_amountIfPayeeWaits_71 (Nat.le_of_ble_eq_true rfl) (Nat.le_of_ble_eq_true rfl) (by
      refine ⟨rfl, ?_⟩
      unfold awt
      rw [e2]
      first
        | exact (if_pos ⟨by rw [bI_t hb12 h15]; rfl, bI_f hb56 h59⟩).symm
        | exact (if_pos ⟨by rw [bI_t hb20 h23, Bool.or_true]; rfl, bI_f hb56 h59⟩).symm
        | exact (if_pos ⟨by rw [bI_t hb35 h38, Bool.or_true], bI_f hb56 h59⟩).symm
        | exact (if_neg (fun z => absurd ((bI_t hb56 h59).symm.trans z.2) (by decide))).symm
        | exact (if_neg (fun z => absurd z.1 (by rw [bI_f hb12 h15, bI_f hb20 h23, bI_f hb35 h38]; decide))).symm)
    · refine z_aload_n h0 dX5_amountIfPayeeWaits_26 rfl ?_
      refine z_getO h0 fO9 lk_31 dX5_amountIfPayeeWaits_27 (by assumption) (by assumption) ?_
      refine z_aload_n h0 dX5_amountIfPayeeWaits_30 rfl ?_
      refine z_getI h0 fI12 lk_164 dX5_amountIfPayeeWaits_31 (by assumption) ?_
      refine z_top (y := part 2 (mT M q)) (congrArg (part 2) htr) ?_
      refine z_aload_n h0 dX5_amountIfPayeeWaits_34 rfl ?_
      refine z_cVi (n := 2) (As := [_, _]) h0 hts hown (c_X0_has har harr hA2 hen t4) gX5_amountIfPayeeWaits_X0_has rfl (by decide +kernel) ⟨Nat.le_of_ble_eq_true rfl, Nat.le_of_ble_eq_true rfl⟩ kOk0 rfl (by assumption) dX5_amountIfPayeeWaits_35 rfl rfl (Nat.le_of_ble_eq_true rfl) ⟨Nat.le_of_ble_eq_true rfl, Nat.le_of_ble_eq_true rfl⟩ (fun r35 S35 hp35 => ?_)
      obtain ⟨rfl, hr35⟩ := hp35
      rw [kpt_all hC htr] at hr35
      have hb35 : r35 = bI _ := hr35
      refine z_if_eq (tgt := 45) h0 dX5_amountIfPayeeWaits_38 (by decide) (fun h38 => ?_) (fun h38 => ?_)
      · refine z_iconst (v := 0) h0 dX5_amountIfPayeeWaits_45 (by decide) ?_
        refine z_istore_n (lo' := [_, _, _, _]) h0 dX5_amountIfPayeeWaits_46 (by decide) rfl rfl ?_
        refine z_iload_n h0 dX5_amountIfPayeeWaits_47 rfl ?_
        refine z_if_eq (tgt := 70) h0 dX5_amountIfPayeeWaits_48 (by decide) (fun h48 => ?_) (fun h48 => absurd (by decide) h48)
        refine z_lconst (v := 0) h0 dX5_amountIfPayeeWaits_70 (by decide) ?_
        exact z_lret h0 hr hlk dX5_amountIfPayeeWaits_71 (Nat.le_of_ble_eq_true rfl) (Nat.le_of_ble_eq_true rfl) (by
      refine ⟨rfl, ?_⟩
      unfold awt
      rw [e2]
      first
        | exact (if_pos ⟨by rw [bI_t hb12 h15]; rfl, bI_f hb56 h59⟩).symm
        | exact (if_pos ⟨by rw [bI_t hb20 h23, Bool.or_true]; rfl, bI_f hb56 h59⟩).symm
        | exact (if_pos ⟨by rw [bI_t hb35 h38, Bool.or_true], bI_f hb56 h59⟩).symm
        | exact (if_neg (fun z => absurd ((bI_t hb56 h59).symm.trans z.2) (by decide))).symm
        | exact (if_neg (fun z => absurd z.1 (by rw [bI_f hb12 h15, bI_f hb20 h23, bI_f hb35 h38]; decide))).symm)
      · refine z_iconst (v := 1) h0 dX5_amountIfPayeeWaits_41 (by decide) ?_
        refine z_goto (tgt := 46) h0 dX5_amountIfPayeeWaits_42 (by decide) ?_
        refine z_istore_n (lo' := [_, _, _, _]) h0 dX5_amountIfPayeeWaits_46 (by decide) rfl rfl ?_
        refine z_iload_n h0 dX5_amountIfPayeeWaits_47 rfl ?_
        refine z_if_eq (tgt := 70) h0 dX5_amountIfPayeeWaits_48 (by decide) (fun h48 => absurd h48 (by decide)) (fun h48 => ?_)
        refine z_aload_n h0 dX5_amountIfPayeeWaits_51 rfl ?_
        refine z_getO h0 fO9 lk_31 dX5_amountIfPayeeWaits_52 (by assumption) (by assumption) ?_
        refine z_aload_n h0 dX5_amountIfPayeeWaits_55 rfl ?_
        refine z_cVi (n := 1) (As := [_]) h0 hts hown (c_X0_hasRefunded har harr hA2 hen t4) gX5_amountIfPayeeWaits_X0_hasRefunded rfl (by decide +kernel) ⟨Nat.le_of_ble_eq_true rfl, Nat.le_of_ble_eq_true rfl⟩ kOk0 rfl (by assumption) dX5_amountIfPayeeWaits_56 rfl rfl (Nat.le_of_ble_eq_true rfl) ⟨Nat.le_of_ble_eq_true rfl, Nat.le_of_ble_eq_true rfl⟩ (fun r56 S56 hp56 => ?_)
        obtain ⟨rfl, hr56⟩ := hp56
        rw [rfd_all hC htr] at hr56
        have hb56 : r56 = bI _ := hr56
        refine z_if_ne (tgt := 70) h0 dX5_amountIfPayeeWaits_59 (by decide) (fun h59 => ?_) (fun h59 => ?_)
        · refine z_lconst (v := 0) h0 dX5_amountIfPayeeWaits_70 (by decide) ?_
          exact z_lret h0 hr hlk dX5_amountIfPayeeWaits_71 (Nat.le_of_ble_eq_true rfl) (Nat.le_of_ble_eq_true rfl) (by
      refine ⟨rfl, ?_⟩
      unfold awt
      rw [e2]
      first
        | exact (if_pos ⟨by rw [bI_t hb12 h15]; rfl, bI_f hb56 h59⟩).symm
        | exact (if_pos ⟨by rw [bI_t hb20 h23, Bool.or_true]; rfl, bI_f hb56 h59⟩).symm
        | exact (if_pos ⟨by rw [bI_t hb35 h38, Bool.or_true], bI_f hb56 h59⟩).symm
        | exact (if_neg (fun z => absurd ((bI_t hb56 h59).symm.trans z.2) (by decide))).symm
        | exact (if_neg (fun z => absurd z.1 (by rw [bI_f hb12 h15, bI_f hb20 h23, bI_f hb35 h38]; decide))).symm)
        · refine z_aload_n h0 dX5_amountIfPayeeWaits_62 rfl ?_
          refine z_getI h0 fI14 lk_182 dX5_amountIfPayeeWaits_63 (by assumption) ?_
          refine z_top (y := part 4 (mT M q)) (congrArg (part 4) htr) ?_
          refine z_i2l h0 dX5_amountIfPayeeWaits_66 ?_
          refine z_goto (tgt := 71) h0 dX5_amountIfPayeeWaits_67 (by decide) ?_
          exact z_lret h0 hr hlk dX5_amountIfPayeeWaits_71 (Nat.le_of_ble_eq_true rfl) (Nat.le_of_ble_eq_true rfl) (by
      refine ⟨rfl, ?_⟩
      unfold awt
      rw [e2]
      first
        | exact (if_pos ⟨by rw [bI_t hb12 h15]; rfl, bI_f hb56 h59⟩).symm
        | exact (if_pos ⟨by rw [bI_t hb20 h23, Bool.or_true]; rfl, bI_f hb56 h59⟩).symm
        | exact (if_pos ⟨by rw [bI_t hb35 h38, Bool.or_true], bI_f hb56 h59⟩).symm
        | exact (if_neg (fun z => absurd ((bI_t hb56 h59).symm.trans z.2) (by decide))).symm
        | exact (if_neg (fun z => absurd z.1 (by rw [bI_f hb12 h15, bI_f hb20 h23, bI_f hb35 h38]; decide))).symm)

abbrev rm_X5_pendingOfPayer : Room := { frames := 8, cells := 10, slots := 60, locals := 134 }
set_option maxRecDepth 100000 in
set_option maxHeartbeats 4000000 in
theorem c_X5_pendingOfPayer {l : Launch} {D : va_G} {cI cZ cO : ClassId} {G : Nat → Nat} {S : PS} {x n0 ar : Nat} {L : Nat → Nat} {C : Nat → List Nat} {M : MS} (hC : RC G S x n0 ar L C M) {c : Nat} (hI : MI c M) (hc : c < 512) {p a : Nat} (hp : p < mP M) (hpa : (C 0)[p]? = some a) : zMl l yX5_pendingOfPayer wsX5_pendingOfPayer rm_X5_pendingOfPayer [.ref x, .ref a] D cI cZ cO G S (fun r S' => S = S' ∧ r = cpnP M p) := by
  have hx5 := hC.1.1
  have hxn := hC.1.2.1
  have hxo := hC.1.2.2.1
  have hxs := hC.1.2.2.2.1
  have hxa := hC.1.2.2.2.2
  have har := hC.2.2.1.1
  have harr := hC.2.2.1.2
  have hA0 := hC.2.2.2.1.1 0 (by omega)
  have hA1 := hC.2.2.2.1.1 1 (by omega)
  have hA2 := hC.2.2.2.1.1 2 (by omega)
  have h70 := hA0.1
  have h71 := hA1.1
  have h72 := hA2.1
  have hl0 := hC.2.2.2.2.1.1
  have hl1 := hC.2.2.2.2.1.2.1
  have hl2 := hC.2.2.2.2.1.2.2
  have hs0 : pI S 20 (L 0) = nI (mP M) := by rw [← hl0]; exact hA0.2.1
  have hs1 : pI S 20 (L 1) = nI (mM M) := by rw [← hl1]; exact hA1.2.1
  have hs2 : pI S 20 (L 2) = nI (mE M) := by rw [← hl2]; exact hA2.2.1
  have := MI_p hI; have := MI_m hI; have := MI_e hI
  have hpr := hC.2.2.2.2.2.1 p _ hpa
  have k3 := hpr.1
  have pnum := hpr.2.1
  have pnot := hpr.2.2.1
  have pkept := hpr.2.2.2.1
  have pbal := hpr.2.2.2.2.1
  have pser := hpr.2.2.2.2.2.1
  have pst := hpr.2.2.2.2.2.2.1
  have pln := hpr.2.2.2.2.2.2.2.1
  obtain ⟨cu, pcu, cu4, cu0, cuT⟩ := hpr.2.2.2.2.2.2.2.2.1
  have plog := hpr.2.2.2.2.2.2.2.2.2
  have hAk := hC.2.2.2.1.1 (p + 3) (by omega)
  have h7k := hAk.1
  have hsk := hAk.2.1
  have hln := RC_len hC hI hpa
  have hen := RC_en hC
  obtain ⟨s, n0', v0, es, hs3, en, hn5, ev, hv1, hvb, hcur, hlog, hdis⟩ := hI.2.2.2.1 p hp
  have hln2 := lnN_of en (by omega)
  refine z_of (cc := cX5_pendingOfPayer) (maxL := 6) (ret := (some .long)) (lo := [some (.ref x), some (.ref a), none, none, none, none]) (by decide) rfl rfl (Nat.le_of_ble_eq_true rfl) rfl ?_
  intro pp ee ss mi aa bl mh cd h0 hts hown hr hlk hnm
  have hown : ss.vm.findClass RX5 = some mi.cls := hown
  have inX3 : ∀ w ∈ u_ws RX3 TX3 7, w ∈ wsX5_pendingOfPayer := by decide +kernel
  have inX4 : ∀ w ∈ u_ws RX4 TX4 5, w ∈ wsX5_pendingOfPayer := by decide +kernel
  have inX5 : ∀ w ∈ u_ws RX5 TX5 4, w ∈ wsX5_pendingOfPayer := by decide +kernel
  have lk_31 : zLk ss mi aa RX5 31 6 3 := ⟨RX5, TX5, 4, "PurseWorld", wsX5_pendingOfPayer, rfl, by decide, hts, inX5, hown, hts (.fieldLink RX5 31 "PurseWorld" "archive" "LPurseWorld$Archive;") (by decide +kernel), fun _ h => h⟩
  have lk_123 : zLk ss mi aa RX5 123 4 5 := ⟨RX3, TX3, 7, "PurseWorld$Purse", wsX5_pendingOfPayer, rfl, by decide, hts, inX3, hown, hts (.fieldLink RX5 123 "PurseWorld$Purse" "state" "I") (by decide +kernel), fun _ h => h⟩
  have lk_134 : zLk ss mi aa RX5 134 4 2 := ⟨RX3, TX3, 7, "PurseWorld$Purse", wsX5_pendingOfPayer, rfl, by decide, hts, inX3, hown, hts (.fieldLink RX5 134 "PurseWorld$Purse" "kept" "Ljava/util/ArrayList;") (by decide +kernel), fun _ h => h⟩
  have lk_158 : zLk ss mi aa RX5 158 5 0 := ⟨RX4, TX4, 5, "PurseWorld$Transfer", wsX5_pendingOfPayer, rfl, by decide, hts, inX4, hown, hts (.fieldLink RX5 158 "PurseWorld$Transfer" "payer" "I") (by decide +kernel), fun _ h => h⟩
  have lk_187 : zLk ss mi aa RX5 187 4 6 := ⟨RX3, TX3, 7, "PurseWorld$Purse", wsX5_pendingOfPayer, rfl, by decide, hts, inX3, hown, hts (.fieldLink RX5 187 "PurseWorld$Purse" "current" "LPurseWorld$Transfer;") (by decide +kernel), fun _ h => h⟩
  have lk_237 : zLk ss mi aa RX5 237 4 0 := ⟨RX3, TX3, 7, "PurseWorld$Purse", wsX5_pendingOfPayer, rfl, by decide, hts, inX3, hown, hts (.fieldLink RX5 237 "PurseWorld$Purse" "number" "I") (by decide +kernel), fun _ h => h⟩
  have loop : ∀ (n j cs sl : Nat) (b : Int64) (z5 : Option Value), lnN M p - j < n → j ≤ lnN M p → cs ≤ 1 + (j + 1) → sl ≤ 6 * (j + 2) → b = (if mA M 2 p = 3 then awt M p else 0) + sumTo (fun j => if part 0 (mT M (12 + 5 * p + j)) = nI p ∧ kpt M (nI p) (12 + 5 * p + j) (mE M) = false then awt M (12 + 5 * p + j) else 0) j → ZW pp l ee rm_X5_pendingOfPayer ss mi aa bl mh cd D cI cZ cO (zA cI cZ cO S ss.heap.size) (MQ bl (zQl D cI cZ cO S (fun r S' => S = S' ∧ r = cpnP M p) ss.heap.size) aa ss rm_X5_pendingOfPayer.cells rm_X5_pendingOfPayer.slots (zA cI cZ cO S ss.heap.size)) [] 6 S cs sl 24 [some (.ref x), some (.ref a), some (.long b), none, some (.int (nI j)), z5] [] := by
    intro n
    induction n with
    | zero => intro j cs sl b z5 h; exact absurd h (Nat.not_lt_zero _)
    | succ n ih =>
      intro j cs sl b z5 hm hj hcs hsl hb
      refine z_iload h0 dX5_pendingOfPayer_24 rfl ?_
      refine z_aload_n h0 dX5_pendingOfPayer_26 rfl ?_
      refine z_getO h0 fO4 lk_134 dX5_pendingOfPayer_27 (by assumption) (by assumption) ?_
      refine z_cVi (n := 0) (As := []) h0 hts hown (c_Jx4a65c_size_8abf5 h7k) gX5_pendingOfPayer_Jx4a65c_size_8abf5 rfl (by decide +kernel) ⟨Nat.le_of_ble_eq_true rfl, Nat.le_of_ble_eq_true rfl⟩ kOk7 rfl (by assumption) dX5_pendingOfPayer_30 rfl rfl (Nat.le_of_ble_eq_true rfl) ⟨by show cs + 0 ≤ 10; omega, by show sl + 0 ≤ 60; omega⟩ (fun r30 S30 hp30 => ?_)
      obtain ⟨rfl, hr30⟩ := hp30
      rw [hsk, hln.1] at hr30
      subst hr30
      refine z_icmp_ge (tgt := 93) h0 dX5_pendingOfPayer_33 (by decide) (fun h33 => ?_) (fun h33 => ?_)
      · refine z_lload_n h0 dX5_pendingOfPayer_93 rfl ?_
        exact z_lret h0 hr hlk dX5_pendingOfPayer_94 (by show cs + 0 ≤ 10; omega) (by show sl + 0 ≤ 60; omega) ⟨rfl, by rw [hb, Nat.le_antisymm hj (nI_geof h33 (by omega) (by omega))]; rfl⟩
      · have hlt : j < lnN M p := nI_ltof h33 (by omega)
        obtain ⟨t, ht⟩ := get_lt (xs := C (p + 3)) (i := j) (by omega)
        have ht4 := plog j t ht
        refine z_aload_n h0 dX5_pendingOfPayer_36 rfl ?_
        refine z_getO h0 fO4 lk_134 dX5_pendingOfPayer_37 (by assumption) (by assumption) ?_
        refine z_iload h0 dX5_pendingOfPayer_40 rfl ?_
        refine z_cVr (n := 1) (As := [_]) h0 hts hown (c_Jx4a65c_get_915e3 (j := j) hAk (nI_toInt (by omega)) ht) gX5_pendingOfPayer_Jx4a65c_get_915e3 rfl (by decide +kernel) ⟨Nat.le_of_ble_eq_true rfl, Nat.le_of_ble_eq_true rfl⟩ kOk7 rfl (by assumption) dX5_pendingOfPayer_42 rfl rfl (Nat.le_of_ble_eq_true rfl) ⟨by show cs + 0 + 0 ≤ 10; omega, by show sl + 0 + 0 ≤ 60; omega⟩ (fun r42 S42 hp42 => ?_)
        obtain ⟨rfl, rfl⟩ := hp42
        refine z_cast h0 hown (hts (.classLink RX5 7 "PurseWorld$Transfer") (by decide +kernel)) kOk4 rfl ht4.1 dX5_pendingOfPayer_45 ?_
        refine z_astore (lo' := [_, _, _, _, _, _]) h0 dX5_pendingOfPayer_48 (by decide) rfl rfl ?_
        refine z_aload h0 dX5_pendingOfPayer_50 rfl ?_
        refine z_getI h0 fI10 lk_158 dX5_pendingOfPayer_52 ht4.1 ?_
        refine z_top (y := part 0 (mT M (12 + 5 * p + j))) (congrArg (part 0) ht4.2) ?_
        refine z_aload_n h0 dX5_pendingOfPayer_55 rfl ?_
        refine z_getI h0 fI6 lk_237 dX5_pendingOfPayer_56 (by assumption) ?_
        refine z_top pnum ?_
        refine z_icmp_ne (tgt := 87) h0 dX5_pendingOfPayer_59 (by decide) (fun h59 => ?_) (fun h59 => ?_)
        · refine z_iinc (lo' := [_, _, _, _, _, _]) (v := nI (j + 1)) h0 dX5_pendingOfPayer_87 rfl (nI_1 j) (by decide) rfl rfl ?_
          refine z_goto (tgt := 24) h0 dX5_pendingOfPayer_90 (by decide) ?_
          exact ih (j + 1) _ _ _ _ (by omega) (by omega) (by show cs + 0 + 0 ≤ _; omega) (by show sl + 0 + 0 ≤ _; omega) (acc_z (if_neg (fun z => h59 z.1)) hb)
        · refine z_aload_n h0 dX5_pendingOfPayer_62 rfl ?_
          refine z_getO h0 fO9 lk_31 dX5_pendingOfPayer_63 (by assumption) (by assumption) ?_
          refine z_aload_n h0 dX5_pendingOfPayer_66 rfl ?_
          refine z_getI h0 fI6 lk_237 dX5_pendingOfPayer_67 (by assumption) ?_
          refine z_top pnum ?_
          refine z_aload h0 dX5_pendingOfPayer_70 rfl ?_
          refine z_cVi (n := 2) (As := [_, _]) h0 hts hown (c_X0_has har harr hA2 hen ht4.1) gX5_pendingOfPayer_X0_has rfl (by decide +kernel) ⟨Nat.le_of_ble_eq_true rfl, Nat.le_of_ble_eq_true rfl⟩ kOk0 rfl (by assumption) dX5_pendingOfPayer_72 rfl rfl (Nat.le_of_ble_eq_true rfl) ⟨by show cs + 0 + 0 + 0 ≤ 10; omega, by show sl + 0 + 0 + 0 ≤ 60; omega⟩ (fun r72 S72 hp72 => ?_)
          obtain ⟨rfl, hr72⟩ := hp72
          rw [kpt_all hC ht4.2] at hr72
          have hb72 : r72 = bI _ := hr72
          refine z_if_ne (tgt := 87) h0 dX5_pendingOfPayer_75 (by decide) (fun h75 => ?_) (fun h75 => ?_)
          · refine z_iinc (lo' := [_, _, _, _, _, _]) (v := nI (j + 1)) h0 dX5_pendingOfPayer_87 rfl (nI_1 j) (by decide) rfl rfl ?_
            refine z_goto (tgt := 24) h0 dX5_pendingOfPayer_90 (by decide) ?_
            exact ih (j + 1) _ _ _ _ (by omega) (by omega) (by show cs + 0 + 0 + 0 ≤ _; omega) (by show sl + 0 + 0 + 0 ≤ _; omega) (acc_z (if_neg (fun z => absurd ((bI_t hb72 h75).symm.trans z.2) (by decide))) hb)
          · refine z_lload_n h0 dX5_pendingOfPayer_78 rfl ?_
            refine z_aload_n h0 dX5_pendingOfPayer_79 rfl ?_
            refine z_aload h0 dX5_pendingOfPayer_80 rfl ?_
            refine z_cVl (n := 1) (As := [_]) h0 hts hown (c_X5_amountIfPayeeWaits hC hI hc ht4.1 (q := 12 + 5 * p + j) ht4.2 (hlog j (by omega)).1) gX5_pendingOfPayer_X5_amountIfPayeeWaits rfl (by decide +kernel) ⟨Nat.le_of_ble_eq_true rfl, Nat.le_of_ble_eq_true rfl⟩ kOk5 rfl (by assumption) dX5_pendingOfPayer_82 rfl rfl (Nat.le_of_ble_eq_true rfl) ⟨by show cs + 0 + 0 + 0 + 1 ≤ 10; omega, by show sl + 0 + 0 + 0 + 6 ≤ 60; omega⟩ (fun r82 S82 hp82 => ?_)
            obtain ⟨rfl, hr82⟩ := hp82
            refine z_ladd h0 dX5_pendingOfPayer_85 ?_
            refine z_lstore_n (lo' := [_, _, _, _, _, _]) h0 dX5_pendingOfPayer_86 (by decide) rfl rfl ?_
            refine z_iinc (lo' := [_, _, _, _, _, _]) (v := nI (j + 1)) h0 dX5_pendingOfPayer_87 rfl (nI_1 j) (by decide) rfl rfl ?_
            refine z_goto (tgt := 24) h0 dX5_pendingOfPayer_90 (by decide) ?_
            exact ih (j + 1) _ _ _ _ (by omega) (by omega) (by show cs + 0 + 0 + 0 + 1 ≤ _; omega) (by show sl + 0 + 0 + 0 + 6 ≤ _; omega) (acc_s (if_pos ⟨h59, bI_f hb72 h75⟩) hr82 hb)
  refine z_aload_n h0 dX5_pendingOfPayer_0 rfl ?_
  refine z_getI h0 fI9 lk_123 dX5_pendingOfPayer_1 (by assumption) ?_
  refine z_top pst ?_
  refine z_iconst (v := 3) h0 dX5_pendingOfPayer_4 (by decide) ?_
  refine z_icmp_ne (tgt := 19) h0 dX5_pendingOfPayer_5 (by decide) (fun h5 => ?_) (fun h5 => ?_)
  · refine z_lconst (v := 0) h0 dX5_pendingOfPayer_19 (by decide) ?_
    refine z_lstore_n (lo' := [_, _, _, _, _, _]) h0 dX5_pendingOfPayer_20 (by decide) rfl rfl ?_
    refine z_iconst (v := 0) h0 dX5_pendingOfPayer_21 (by decide) ?_
    refine z_istore (lo' := [_, _, _, _, _, _]) h0 dX5_pendingOfPayer_22 (by decide) rfl rfl ?_
    exact loop (lnN M p + 1) 0 _ _ _ none (by omega) (Nat.zero_le _) (by show 0 ≤ _; omega) (by show 0 ≤ _; omega) (by rw [if_neg h5, sum_0, Int64.add_zero])
  · have hs : s = 3 := (nI_eq (b := 3) (by omega) (by decide)).mp (es.symm.trans h5)
    have hne : ¬ mA M 2 p = 0 := by rw [h5]; decide
    refine z_aload_n h0 dX5_pendingOfPayer_8 rfl ?_
    refine z_aload_n h0 dX5_pendingOfPayer_9 rfl ?_
    refine z_getO h0 fO5 lk_187 dX5_pendingOfPayer_10 (by assumption) (by assumption) ?_
    refine z_cVl (n := 1) (As := [_]) h0 hts hown (c_X5_amountIfPayeeWaits hC hI hc cu4 (q := p) (cuT hne) (hcur (by omega)).2.1) gX5_pendingOfPayer_X5_amountIfPayeeWaits rfl (by decide +kernel) ⟨Nat.le_of_ble_eq_true rfl, Nat.le_of_ble_eq_true rfl⟩ kOk5 rfl (by assumption) dX5_pendingOfPayer_13 rfl rfl (Nat.le_of_ble_eq_true rfl) ⟨Nat.le_of_ble_eq_true rfl, Nat.le_of_ble_eq_true rfl⟩ (fun r13 S13 hp13 => ?_)
    obtain ⟨rfl, hr13⟩ := hp13
    refine z_goto (tgt := 20) h0 dX5_pendingOfPayer_16 (by decide) ?_
    refine z_lstore_n (lo' := [_, _, _, _, _, _]) h0 dX5_pendingOfPayer_20 (by decide) rfl rfl ?_
    refine z_iconst (v := 0) h0 dX5_pendingOfPayer_21 (by decide) ?_
    refine z_istore (lo' := [_, _, _, _, _, _]) h0 dX5_pendingOfPayer_22 (by decide) rfl rfl ?_
    exact loop (lnN M p + 1) 0 _ _ _ none (by omega) (Nat.zero_le _) (by show 0 + 1 ≤ _; omega) (by show 0 + 6 ≤ _; omega) (by rw [if_pos h5, sum_0, Int64.add_zero]; exact hr13)

abbrev rm_X5_pending : Room := { frames := 9, cells := 1000, slots := 4000, locals := 159 }
set_option maxRecDepth 100000 in
set_option maxHeartbeats 4000000 in
theorem c_X5_pending {l : Launch} {D : va_G} {cI cZ cO : ClassId} {G : Nat → Nat} {S : PS} {x n0 ar : Nat} {L : Nat → Nat} {C : Nat → List Nat} {M : MS} (hC : RC G S x n0 ar L C M) {c : Nat} (hI : MI c M) (hc : c < 512) : zMl l yX5_pending wsX5_pending rm_X5_pending [.ref x] D cI cZ cO G S (fun r S' => S = S' ∧ r = pndO M) := by
  have hx5 := hC.1.1
  have hxn := hC.1.2.1
  have hxo := hC.1.2.2.1
  have hxs := hC.1.2.2.2.1
  have hxa := hC.1.2.2.2.2
  have har := hC.2.2.1.1
  have harr := hC.2.2.1.2
  have hA0 := hC.2.2.2.1.1 0 (by omega)
  have hA1 := hC.2.2.2.1.1 1 (by omega)
  have hA2 := hC.2.2.2.1.1 2 (by omega)
  have h70 := hA0.1
  have h71 := hA1.1
  have h72 := hA2.1
  have hl0 := hC.2.2.2.2.1.1
  have hl1 := hC.2.2.2.2.1.2.1
  have hl2 := hC.2.2.2.2.1.2.2
  have hs0 : pI S 20 (L 0) = nI (mP M) := by rw [← hl0]; exact hA0.2.1
  have hs1 : pI S 20 (L 1) = nI (mM M) := by rw [← hl1]; exact hA1.2.1
  have hs2 : pI S 20 (L 2) = nI (mE M) := by rw [← hl2]; exact hA2.2.1
  have := MI_p hI; have := MI_m hI; have := MI_e hI
  refine z_of (cc := cX5_pending) (maxL := 5) (ret := (some .long)) (lo := [some (.ref x), none, none, none, none]) (by decide) rfl rfl (Nat.le_of_ble_eq_true rfl) rfl ?_
  intro pp ee ss mi aa bl mh cd h0 hts hown hr hlk hnm
  have hown : ss.vm.findClass RX5 = some mi.cls := hown
  have inX0 : ∀ w ∈ u_ws RX0 TX0 1, w ∈ wsX5_pending := by decide +kernel
  have inX1 : ∀ w ∈ u_ws RX1 TX1 3, w ∈ wsX5_pending := by decide +kernel
  have inX4 : ∀ w ∈ u_ws RX4 TX4 5, w ∈ wsX5_pending := by decide +kernel
  have inX5 : ∀ w ∈ u_ws RX5 TX5 4, w ∈ wsX5_pending := by decide +kernel
  have lk_21 : zLk ss mi aa RX5 21 6 1 := ⟨RX5, TX5, 4, "PurseWorld", wsX5_pending, rfl, by decide, hts, inX5, hown, hts (.fieldLink RX5 21 "PurseWorld" "owners" "Ljava/util/ArrayList;") (by decide +kernel), fun _ h => h⟩
  have lk_31 : zLk ss mi aa RX5 31 6 3 := ⟨RX5, TX5, 4, "PurseWorld", wsX5_pending, rfl, by decide, hts, inX5, hown, hts (.fieldLink RX5 31 "PurseWorld" "archive" "LPurseWorld$Archive;") (by decide +kernel), fun _ h => h⟩
  have lk_155 : zLk ss mi aa RX5 155 2 1 := ⟨RX1, TX1, 3, "PurseWorld$Entry", wsX5_pending, rfl, by decide, hts, inX1, hown, hts (.fieldLink RX5 155 "PurseWorld$Entry" "terms" "LPurseWorld$Transfer;") (by decide +kernel), fun _ h => h⟩
  have lk_158 : zLk ss mi aa RX5 158 5 0 := ⟨RX4, TX4, 5, "PurseWorld$Transfer", wsX5_pending, rfl, by decide, hts, inX4, hown, hts (.fieldLink RX5 158 "PurseWorld$Transfer" "payer" "I") (by decide +kernel), fun _ h => h⟩
  have lk_202 : zLk ss mi aa RX5 202 2 0 := ⟨RX1, TX1, 3, "PurseWorld$Entry", wsX5_pending, rfl, by decide, hts, inX1, hown, hts (.fieldLink RX5 202 "PurseWorld$Entry" "teller" "I") (by decide +kernel), fun _ h => h⟩
  have lk_207 : zLk ss mi aa RX5 207 1 0 := ⟨RX0, TX0, 1, "PurseWorld$Archive", wsX5_pending, rfl, by decide, hts, inX0, hown, hts (.fieldLink RX5 207 "PurseWorld$Archive" "rows" "Ljava/util/ArrayList;") (by decide +kernel), fun _ h => h⟩
  have loopE : ∀ (n i cs sl : Nat) (b : Int64) (z5 : Option Value), mE M - i < n → i ≤ mE M → cs ≤ 120 + i → sl ≤ 720 + 6 * i → b = sumTo (cpnP M) (mP M) + sumTo (cpnE M) i → ZW pp l ee rm_X5_pending ss mi aa bl mh cd D cI cZ cO (zA cI cZ cO S ss.heap.size) (MQ bl (zQl D cI cZ cO S (fun r S' => S = S' ∧ r = pndO M) ss.heap.size) aa ss rm_X5_pending.cells rm_X5_pending.slots (zA cI cZ cO S ss.heap.size)) [] 5 S cs sl 41 [some (.ref x), some (.long b), none, some (.int (nI i)), z5] [] := by
    intro n
    induction n with
    | zero => intro i cs sl b z5 h; exact absurd h (Nat.not_lt_zero _)
    | succ n ih =>
      intro i cs sl b z5 hm hi hcs hsl hb
      refine z_iload_n h0 dX5_pending_41 rfl ?_
      refine z_aload_n h0 dX5_pending_42 rfl ?_
      refine z_getO h0 fO9 lk_31 dX5_pending_43 (by assumption) (by assumption) ?_
      refine z_cVi (n := 0) (As := []) h0 hts hown (c_X0_size har harr hA2) gX5_pending_X0_size rfl (by decide +kernel) ⟨Nat.le_of_ble_eq_true rfl, Nat.le_of_ble_eq_true rfl⟩ kOk0 rfl (by assumption) dX5_pending_46 rfl rfl (Nat.le_of_ble_eq_true rfl) ⟨by show cs + 0 ≤ 1000; omega, by show sl + 0 ≤ 4000; omega⟩ (fun r46 S46 hp46 => ?_)
      obtain ⟨rfl, hr46⟩ := hp46
      rw [hl2] at hr46
      subst hr46
      refine z_icmp_ge (tgt := 102) h0 dX5_pending_49 (by decide) (fun h49 => ?_) (fun h49 => ?_)
      · refine z_lload_n h0 dX5_pending_102 rfl ?_
        exact z_lret h0 hr hlk dX5_pending_103 (by show cs + 0 ≤ 1000; omega) (by show sl + 0 ≤ 4000; omega) ⟨rfl, by rw [← pend_eq hI hc, hb, Nat.le_antisymm hi (nI_geof h49 (by omega) (by omega))]; rfl⟩
      · have hlt : i < mE M := nI_ltof h49 (by omega)
        obtain ⟨e, he⟩ := RC_eat hC hlt
        obtain ⟨k1, ete, ⟨t, et, t4, mtr⟩, er⟩ := hC.2.2.2.2.2.2.2 i _ he
        refine z_aload_n h0 dX5_pending_52 rfl ?_
        refine z_getO h0 fO9 lk_31 dX5_pending_53 (by assumption) (by assumption) ?_
        refine z_getO h0 fO0 lk_207 dX5_pending_56 (by assumption) (by assumption) ?_
        refine z_iload_n h0 dX5_pending_59 rfl ?_
        refine z_cVr (n := 1) (As := [_]) h0 hts hown (c_Jx4a65c_get_915e3 (j := i) hA2 (nI_toInt (by omega)) he) gX5_pending_Jx4a65c_get_915e3 rfl (by decide +kernel) ⟨Nat.le_of_ble_eq_true rfl, Nat.le_of_ble_eq_true rfl⟩ kOk7 rfl (by assumption) dX5_pending_60 rfl rfl (Nat.le_of_ble_eq_true rfl) ⟨by show cs + 0 + 0 ≤ 1000; omega, by show sl + 0 + 0 ≤ 4000; omega⟩ (fun r60 S60 hp60 => ?_)
        obtain ⟨rfl, rfl⟩ := hp60
        refine z_cast h0 hown (hts (.classLink RX5 156 "PurseWorld$Entry") (by decide +kernel)) kOk1 rfl (by assumption) dX5_pending_63 ?_
        refine z_astore (lo' := [_, _, _, _, _]) h0 dX5_pending_66 (by decide) rfl rfl ?_
        refine z_aload h0 dX5_pending_68 rfl ?_
        refine z_getI h0 fI0 lk_202 dX5_pending_70 (by assumption) ?_
        refine z_top ete ?_
        refine z_aload h0 dX5_pending_73 rfl ?_
        refine z_getO h0 fO1 lk_155 dX5_pending_75 (by assumption) (by assumption) ?_
        refine z_getI h0 fI10 lk_158 dX5_pending_78 (by assumption) ?_
        refine z_top (y := part 0 (mT M (872 + i))) (congrArg (part 0) mtr) ?_
        refine z_icmp_ne (tgt := 96) h0 dX5_pending_81 (by decide) (fun h81 => ?_) (fun h81 => ?_)
        · refine z_iinc (lo' := [_, _, _, _, _]) (v := nI (i + 1)) h0 dX5_pending_96 rfl (nI_1 i) (by decide) rfl rfl ?_
          refine z_goto (tgt := 41) h0 dX5_pending_99 (by decide) ?_
          exact ih (i + 1) _ _ _ _ (by omega) (by omega) (by show cs + 0 + 0 ≤ _; omega) (by show sl + 0 + 0 ≤ _; omega) (by rw [sum_s, hb]; unfold cpnE; rw [if_neg h81, Int64.add_zero])
        · refine z_lload_n h0 dX5_pending_84 rfl ?_
          refine z_aload_n h0 dX5_pending_85 rfl ?_
          refine z_aload h0 dX5_pending_86 rfl ?_
          refine z_getO h0 fO1 lk_155 dX5_pending_88 (by assumption) (by assumption) ?_
          refine z_cVl (n := 1) (As := [_]) h0 hts hown (c_X5_amountIfPayeeWaits hC hI hc t4 (q := 872 + i) mtr (hI.2.2.2.2.2.2.1 i hlt).1) gX5_pending_X5_amountIfPayeeWaits rfl (by decide +kernel) ⟨Nat.le_of_ble_eq_true rfl, Nat.le_of_ble_eq_true rfl⟩ kOk5 rfl (by assumption) dX5_pending_91 rfl rfl (Nat.le_of_ble_eq_true rfl) ⟨by show cs + 0 + 0 + 1 ≤ 1000; omega, by show sl + 0 + 0 + 6 ≤ 4000; omega⟩ (fun r91 S91 hp91 => ?_)
          obtain ⟨rfl, hr91⟩ := hp91
          refine z_ladd h0 dX5_pending_94 ?_
          refine z_lstore_n (lo' := [_, _, _, _, _]) h0 dX5_pending_95 (by decide) rfl rfl ?_
          refine z_iinc (lo' := [_, _, _, _, _]) (v := nI (i + 1)) h0 dX5_pending_96 rfl (nI_1 i) (by decide) rfl rfl ?_
          refine z_goto (tgt := 41) h0 dX5_pending_99 (by decide) ?_
          exact ih (i + 1) _ _ _ _ (by omega) (by omega) (by show cs + 0 + 0 + 1 ≤ _; omega) (by show sl + 0 + 0 + 6 ≤ _; omega) (by rw [sum_s, hb, hr91, Int64.add_assoc]; congr 2; unfold cpnE; rw [if_pos h81])
  have loopP : ∀ (n p cs sl : Nat) (b : Int64) (z5 : Option Value), mP M - p < n → p ≤ mP M → cs ≤ 10 * p → sl ≤ 60 * p → b = sumTo (cpnP M) p → ZW pp l ee rm_X5_pending ss mi aa bl mh cd D cI cZ cO (zA cI cZ cO S ss.heap.size) (MQ bl (zQl D cI cZ cO S (fun r S' => S = S' ∧ r = pndO M) ss.heap.size) aa ss rm_X5_pending.cells rm_X5_pending.slots (zA cI cZ cO S ss.heap.size)) [] 5 S cs sl 4 [some (.ref x), some (.long b), none, some (.int (nI p)), z5] [] := by
    intro n
    induction n with
    | zero => intro p cs sl b z5 h; exact absurd h (Nat.not_lt_zero _)
    | succ n ih =>
      intro p cs sl b z5 hm hi hcs hsl hb
      refine z_iload_n h0 dX5_pending_4 rfl ?_
      refine z_aload_n h0 dX5_pending_5 rfl ?_
      refine z_getO h0 fO7 lk_21 dX5_pending_6 (by assumption) (by assumption) ?_
      refine z_cVi (n := 0) (As := []) h0 hts hown (c_Jx4a65c_size_8abf5 h70) gX5_pending_Jx4a65c_size_8abf5 rfl (by decide +kernel) ⟨Nat.le_of_ble_eq_true rfl, Nat.le_of_ble_eq_true rfl⟩ kOk7 rfl (by assumption) dX5_pending_9 rfl rfl (Nat.le_of_ble_eq_true rfl) ⟨by show cs + 0 ≤ 1000; omega, by show sl + 0 ≤ 4000; omega⟩ (fun r9 S9 hp9 => ?_)
      obtain ⟨rfl, hr9⟩ := hp9
      rw [hs0] at hr9
      subst hr9
      refine z_icmp_ge (tgt := 39) h0 dX5_pending_12 (by decide) (fun h12 => ?_) (fun h12 => ?_)
      · refine z_iconst (v := 0) h0 dX5_pending_39 (by decide) ?_
        refine z_istore_n (lo' := [_, _, _, _, _]) h0 dX5_pending_40 (by decide) rfl rfl ?_
        exact loopE (mE M + 1) 0 _ _ _ _ (by omega) (Nat.zero_le _) (by show cs + 0 ≤ _; omega) (by show sl + 0 ≤ _; omega) (by rw [hb, Nat.le_antisymm hi (nI_geof h12 (by omega) (by omega))]; exact (Int64.add_zero _).symm)
      · have hlt : p < mP M := nI_ltof h12 (by omega)
        obtain ⟨a, ha⟩ := RC_at hC hlt
        have k3 := (hC.2.2.2.2.2.1 p _ ha).1
        refine z_lload_n h0 dX5_pending_15 rfl ?_
        refine z_aload_n h0 dX5_pending_16 rfl ?_
        refine z_aload_n h0 dX5_pending_17 rfl ?_
        refine z_getO h0 fO7 lk_21 dX5_pending_18 (by assumption) (by assumption) ?_
        refine z_iload_n h0 dX5_pending_21 rfl ?_
        refine z_cVr (n := 1) (As := [_]) h0 hts hown (c_Jx4a65c_get_915e3 (j := p) hA0 (nI_toInt (by omega)) ha) gX5_pending_Jx4a65c_get_915e3 rfl (by decide +kernel) ⟨Nat.le_of_ble_eq_true rfl, Nat.le_of_ble_eq_true rfl⟩ kOk7 rfl (by assumption) dX5_pending_22 rfl rfl (Nat.le_of_ble_eq_true rfl) ⟨by show cs + 0 + 0 ≤ 1000; omega, by show sl + 0 + 0 ≤ 4000; omega⟩ (fun r22 S22 hp22 => ?_)
        obtain ⟨rfl, rfl⟩ := hp22
        refine z_cast h0 hown (hts (.classLink RX5 52 "PurseWorld$Purse") (by decide +kernel)) kOk3 rfl (by assumption) dX5_pending_25 ?_
        refine z_cVl (n := 1) (As := [_]) h0 hts hown (c_X5_pendingOfPayer hC hI hc hlt ha) gX5_pending_X5_pendingOfPayer rfl (by decide +kernel) ⟨Nat.le_of_ble_eq_true rfl, Nat.le_of_ble_eq_true rfl⟩ kOk5 rfl (by assumption) dX5_pending_28 rfl rfl (Nat.le_of_ble_eq_true rfl) ⟨by show cs + 0 + 0 + 10 ≤ 1000; omega, by show sl + 0 + 0 + 60 ≤ 4000; omega⟩ (fun r28 S28 hp28 => ?_)
        obtain ⟨rfl, hr28⟩ := hp28
        refine z_ladd h0 dX5_pending_31 ?_
        refine z_lstore_n (lo' := [_, _, _, _, _]) h0 dX5_pending_32 (by decide) rfl rfl ?_
        refine z_iinc (lo' := [_, _, _, _, _]) (v := nI (p + 1)) h0 dX5_pending_33 rfl (nI_1 p) (by decide) rfl rfl ?_
        refine z_goto (tgt := 4) h0 dX5_pending_36 (by decide) ?_
        exact ih (p + 1) _ _ _ _ (by omega) (by omega) (by show cs + 0 + 0 + 10 ≤ _; omega) (by show sl + 0 + 0 + 60 ≤ _; omega) (by rw [hb, hr28]; rfl)
  refine z_lconst (v := 0) h0 dX5_pending_0 (by decide) ?_
  refine z_lstore_n (lo' := [_, _, _, _, _]) h0 dX5_pending_1 (by decide) rfl rfl ?_
  refine z_iconst (v := 0) h0 dX5_pending_2 (by decide) ?_
  refine z_istore_n (lo' := [_, _, _, _, _]) h0 dX5_pending_3 (by decide) rfl rfl ?_
  exact loopP (mP M + 1) 0 _ _ 0 none (by omega) (Nat.zero_le _) (Nat.le_refl _) (Nat.le_refl _) rfl

end CLS9
