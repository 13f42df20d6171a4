/-! THE CLASS: the rest of what is delivered, and deliver. -/
section CLS5
theorem w_t {α : Type} {b : Bool} {x y : α} (h : b = true) : (if b then x else y) = x := by rw [h]; rfl
theorem w_f {α : Type} {b : Bool} {x y : α} (h : b = false) : (if b then x else y) = y := by rw [h]; rfl

abbrev rm_X5_takeAsk : Room := { frames := 8, cells := 4, slots := 1520, locals := 215 }
set_option maxRecDepth 100000 in
set_option maxHeartbeats 4000000 in
theorem c_X5_takeAsk {l : Launch} {D : va_G} {cI cZ cO : ClassId} {G : Nat → Nat} {S : PS} {x n0 ar : Nat} {L : Nat → Nat} {C : Nat → List Nat} {M : MS} (hC : RC G S x n0 ar L C M) {c : Nat} (hI : MI c M) (hc : c < 512) {i g p : Nat} (hi : i < mM M) (hg : (C 1)[i]? = some g) (hk : mA M 4 i = 2) (hp : p < mP M) (hto : mA M 5 i = nI p) (hm8 : wts M p 1 (72 + i) = true → mM M < 800) : zMi l yX5_takeAsk wsX5_takeAsk rm_X5_takeAsk [.ref x, .ref g] D cI cZ cO G S (fun r S' => (∃ C', RC G S' x n0 ar L C' ((if wts M p 1 (72 + i) then mAsk M p (72 + i) else M, wts M p 1 (72 + i))).1) ∧ KF S S' ∧ r = bI ((if wts M p 1 (72 + i) then mAsk M p (72 + i) else M, wts M p 1 (72 + i))).2) := by
  have hx5 := hC.1.1
  have hxn := hC.1.2.1
  have hxo := hC.1.2.2.1
  have hxs := hC.1.2.2.2.1
  have hxa := hC.1.2.2.2.2
  have har := hC.2.2.1.1
  have harr := hC.2.2.1.2
  have hA0 := hC.2.2.2.1.1 0 (by omega)
  have hA1 := hC.2.2.2.1.1 1 (by omega)
  have hA2 := hC.2.2.2.1.1 2 (by omega)
  have h70 := hA0.1
  have h71 := hA1.1
  have h72 := hA2.1
  have hl0 := hC.2.2.2.2.1.1
  have hl1 := hC.2.2.2.2.1.2.1
  have hl2 := hC.2.2.2.2.1.2.2
  have hs0 : pI S 20 (L 0) = nI (mP M) := by rw [← hl0]; exact hA0.2.1
  have hs1 : pI S 20 (L 1) = nI (mM M) := by rw [← hl1]; exact hA1.2.1
  have hs2 : pI S 20 (L 2) = nI (mE M) := by rw [← hl2]; exact hA2.2.1
  have := MI_p hI; have := MI_m hI; have := MI_e hI
  have hmr := hC.2.2.2.2.2.2.1 i g hg
  have k2 := hmr.1
  have mk := hmr.2.1
  have mto := hmr.2.2.1
  obtain ⟨t, mt, t4, mtr⟩ := hmr.2.2.2.1
  obtain ⟨a0, ha0⟩ := RC_at hC hp
  refine z_of (cc := cX5_takeAsk) (maxL := 3) (ret := (some .boolean)) (lo := [some (.ref x), some (.ref g), none]) (by decide) rfl rfl (Nat.le_of_ble_eq_true rfl) rfl ?_
  intro pp ee ss mi aa bl mh cd h0 hts hown hr hlk hnm
  have hown : ss.vm.findClass RX5 = some mi.cls := hown
  have inX2 : ∀ w ∈ u_ws RX2 TX2 5, w ∈ wsX5_takeAsk := by decide +kernel
  have inX3 : ∀ w ∈ u_ws RX3 TX3 7, w ∈ wsX5_takeAsk := by decide +kernel
  have inX4 : ∀ w ∈ u_ws RX4 TX4 5, w ∈ wsX5_takeAsk := by decide +kernel
  have lk_113 : zLk ss mi aa RX5 113 3 2 := ⟨RX2, TX2, 5, "PurseWorld$Message", wsX5_takeAsk, rfl, by decide, hts, inX2, hown, hts (.fieldLink RX5 113 "PurseWorld$Message" "terms" "LPurseWorld$Transfer;") (by decide +kernel), fun _ h => h⟩
  have lk_164 : zLk ss mi aa RX5 164 5 2 := ⟨RX4, TX4, 5, "PurseWorld$Transfer", wsX5_takeAsk, rfl, by decide, hts, inX4, hown, hts (.fieldLink RX5 164 "PurseWorld$Transfer" "payee" "I") (by decide +kernel), fun _ h => h⟩
  have lk_179 : zLk ss mi aa RX5 179 4 3 := ⟨RX3, TX3, 7, "PurseWorld$Purse", wsX5_takeAsk, rfl, by decide, hts, inX3, hown, hts (.fieldLink RX5 179 "PurseWorld$Purse" "balance" "I") (by decide +kernel), fun _ h => h⟩
  have lk_182 : zLk ss mi aa RX5 182 5 4 := ⟨RX4, TX4, 5, "PurseWorld$Transfer", wsX5_takeAsk, rfl, by decide, hts, inX4, hown, hts (.fieldLink RX5 182 "PurseWorld$Transfer" "amount" "I") (by decide +kernel), fun _ h => h⟩
  have lk_199 : zLk ss mi aa RX5 199 3 1 := ⟨RX2, TX2, 5, "PurseWorld$Message", wsX5_takeAsk, rfl, by decide, hts, inX2, hown, hts (.fieldLink RX5 199 "PurseWorld$Message" "to" "I") (by decide +kernel), fun _ h => h⟩
  have lp_123 : zLp ss mi aa mh RX5 123 4 5 .int := ⟨RX3, TX3, 7, "PurseWorld$Purse", wsX5_takeAsk, tyX3, rfl, by decide, hts, inX3, hown, hts (.fieldLink RX5 123 "PurseWorld$Purse" "state" "I") (by decide +kernel), fun _ h => h, tyX3_ok, nmX3, by decide +kernel, Or.inl rfl⟩
  have lp_179 : zLp ss mi aa mh RX5 179 4 3 .int := ⟨RX3, TX3, 7, "PurseWorld$Purse", wsX5_takeAsk, tyX3, rfl, by decide, hts, inX3, hown, hts (.fieldLink RX5 179 "PurseWorld$Purse" "balance" "I") (by decide +kernel), fun _ h => h, tyX3_ok, nmX3, by decide +kernel, Or.inl rfl⟩
  refine z_aload_n h0 dX5_takeAsk_0 rfl ?_
  refine z_aload_n h0 dX5_takeAsk_1 rfl ?_
  refine z_getI h0 fI3 lk_199 dX5_takeAsk_2 (by assumption) ?_
  refine z_top (mto.trans hto) ?_
  refine z_cVr (n := 1) (As := [_]) h0 hts hown (c_X5_purseAt_y hC hI hc hp ha0) gX5_takeAsk_X5_purseAt rfl (by decide +kernel) ⟨Nat.le_of_ble_eq_true rfl, Nat.le_of_ble_eq_true rfl⟩ kOk5 rfl (by assumption) dX5_takeAsk_5 rfl rfl (Nat.le_of_ble_eq_true rfl) ⟨Nat.le_of_ble_eq_true rfl, Nat.le_of_ble_eq_true rfl⟩ (fun r5 S5 hp5 => ?_)
  obtain ⟨rfl, hpa⟩ := hp5
  have hpr := hC.2.2.2.2.2.1 p _ hpa
  have k3 := hpr.1
  have pnum := hpr.2.1
  have pnot := hpr.2.2.1
  have pkept := hpr.2.2.2.1
  have pbal := hpr.2.2.2.2.1
  have pser := hpr.2.2.2.2.2.1
  have pst := hpr.2.2.2.2.2.2.1
  have pln := hpr.2.2.2.2.2.2.2.1
  obtain ⟨cu, pcu, cu4, cu0, cuT⟩ := hpr.2.2.2.2.2.2.2.2.1
  have plog := hpr.2.2.2.2.2.2.2.2.2
  have hAk := hC.2.2.2.1.1 (p + 3) (by omega)
  have h7k := hAk.1
  have hsk := hAk.2.1
  refine z_astore_n (lo' := [_, _, _]) h0 dX5_takeAsk_8 (by decide) rfl rfl ?_
  refine z_aload_n h0 dX5_takeAsk_9 rfl ?_
  refine z_iconst (v := 1) h0 dX5_takeAsk_10 (by decide) ?_
  refine z_aload_n h0 dX5_takeAsk_11 rfl ?_
  refine z_getO h0 fO2 lk_113 dX5_takeAsk_12 (by assumption) (by assumption) ?_
  refine z_cVi (n := 2) (As := [_, _]) h0 hts hown (c_X3_does k3 pcu cu4 t4) gX5_takeAsk_X3_does rfl (by decide +kernel) ⟨Nat.le_of_ble_eq_true rfl, Nat.le_of_ble_eq_true rfl⟩ kOk3 rfl (by assumption) dX5_takeAsk_15 rfl rfl (Nat.le_of_ble_eq_true rfl) ⟨Nat.le_of_ble_eq_true rfl, Nat.le_of_ble_eq_true rfl⟩ (fun r15 S15 hp15 => ?_)
  obtain ⟨rfl, hr15⟩ := hp15
  have hrw := does_wts hr15 pst (by decide) cuT mtr
  refine z_if_ne (tgt := 23) h0 dX5_takeAsk_18 (by decide) (fun h18 => ?_) (fun h18 => ?_)
  · have hw := bI_t hrw h18
    refine z_aload_n h0 dX5_takeAsk_23 rfl ?_
    refine z_dup h0 dX5_takeAsk_24 rfl ?_
    refine z_getI h0 fI7 lk_179 dX5_takeAsk_25 (by assumption) ?_
    refine z_top pbal ?_
    refine z_aload_n h0 dX5_takeAsk_28 rfl ?_
    refine z_getO h0 fO2 lk_113 dX5_takeAsk_29 (by assumption) (by assumption) ?_
    refine z_getI h0 fI14 lk_182 dX5_takeAsk_32 (by assumption) ?_
    refine z_top (y := part 4 (mT M (72 + i))) (congrArg (part 4) mtr) ?_
    refine z_isub h0 dX5_takeAsk_35 ?_
    refine z_putI h0 fI7 lp_179 dX5_takeAsk_36 (by assumption) rfl rfl ?_
    refine z_aload_n h0 dX5_takeAsk_39 rfl ?_
    refine z_iconst (v := 3) h0 dX5_takeAsk_40 (by decide) ?_
    refine z_putI h0 fI9 lp_123 dX5_takeAsk_41 (by assumption) rfl rfl ?_
    obtain ⟨hC1, hF1⟩ := RC_ask (v := mA M 0 p - part 4 (mT M (72 + i))) hC hI hpa (by rw [(wts_iff.mp hw).1]; decide)
    have hI1 := MIb_state (s := 1) (s' := 3) (MIb_bal hI p (mA M 0 p - part 4 (mT M (72 + i)))) hp ((mA_f (by decide)).trans (wts_iff.mp hw).1) (by decide) (by decide) (Or.inr ⟨rfl, rfl⟩)
    refine z_aload_n h0 dX5_takeAsk_44 rfl ?_
    refine z_iconst (v := 3) h0 dX5_takeAsk_45 (by decide) ?_
    refine z_aload_n h0 dX5_takeAsk_46 rfl ?_
    refine z_getO h0 fO2 lk_113 dX5_takeAsk_47 (by assumption) (by assumption) ?_
    refine z_getI h0 fI12 lk_164 dX5_takeAsk_50 (by assumption) ?_
    refine z_top (y := part 2 (mT M (72 + i))) ((p97 12 (by decide) (by decide)).trans (congrArg (part 2) mtr)) ?_
    refine z_aload_n h0 dX5_takeAsk_53 rfl ?_
    refine z_getO h0 fO2 lk_113 dX5_takeAsk_54 (by assumption) (by assumption) ?_
    refine z_cVi (n := 3) (As := [_, _, _]) h0 hts hown (c_X5_send hC1 hI1 (show mM M < 800 from hm8 hw) (k := 3) (t := t) (r := 72 + i) (KF_K hF1 t4) ((KF_tr hF1 t4).trans mtr) (by decide) (by decide)) gX5_takeAsk_X5_send rfl (by decide +kernel) ⟨Nat.le_of_ble_eq_true rfl, Nat.le_of_ble_eq_true rfl⟩ kOk5 rfl hC1.1.1 dX5_takeAsk_57 rfl rfl (Nat.le_of_ble_eq_true rfl) ⟨Nat.le_of_ble_eq_true rfl, Nat.le_of_ble_eq_true rfl⟩ (fun r57 S57 hp57 => ?_)
    obtain ⟨⟨v9, hC2⟩, hF2, -⟩ := hp57
    refine z_pop h0 dX5_takeAsk_60 rfl ?_
    refine z_iconst (v := 1) h0 dX5_takeAsk_61 (by decide) ?_
    exact z_zret h0 hr rfl hlk dX5_takeAsk_62 (Nat.le_of_ble_eq_true rfl) (Nat.le_of_ble_eq_true rfl) ⟨⟨_, by rw [w_t hw]; exact hC2⟩, KF_trans hF1 hF2, by rw [hw]; rfl⟩
  · refine z_iconst (v := 0) h0 dX5_takeAsk_21 (by decide) ?_
    exact z_zret h0 hr rfl hlk dX5_takeAsk_22 (Nat.le_of_ble_eq_true rfl) (Nat.le_of_ble_eq_true rfl) ⟨⟨C, by rw [w_f (bI_f hrw h18)]; exact hC⟩, KF_refl S, by rw [bI_f hrw h18]; rfl⟩

abbrev rm_X5_takeValue : Room := { frames := 8, cells := 4, slots := 1520, locals := 215 }
set_option maxRecDepth 100000 in
set_option maxHeartbeats 4000000 in
theorem c_X5_takeValue {l : Launch} {D : va_G} {cI cZ cO : ClassId} {G : Nat → Nat} {S : PS} {x n0 ar : Nat} {L : Nat → Nat} {C : Nat → List Nat} {M : MS} (hC : RC G S x n0 ar L C M) {c : Nat} (hI : MI c M) (hc : c < 512) {i g p : Nat} (hi : i < mM M) (hg : (C 1)[i]? = some g) (hk : mA M 4 i = 3) (hp : p < mP M) (hto : mA M 5 i = nI p) (hm8 : wts M p 2 (72 + i) = true → mM M < 800) : zMi l yX5_takeValue wsX5_takeValue rm_X5_takeValue [.ref x, .ref g] D cI cZ cO G S (fun r S' => (∃ C', RC G S' x n0 ar L C' ((if wts M p 2 (72 + i) then mVal M p (72 + i) else M, wts M p 2 (72 + i))).1) ∧ KF S S' ∧ r = bI ((if wts M p 2 (72 + i) then mVal M p (72 + i) else M, wts M p 2 (72 + i))).2) := by
  have hx5 := hC.1.1
  have hxn := hC.1.2.1
  have hxo := hC.1.2.2.1
  have hxs := hC.1.2.2.2.1
  have hxa := hC.1.2.2.2.2
  have har := hC.2.2.1.1
  have harr := hC.2.2.1.2
  have hA0 := hC.2.2.2.1.1 0 (by omega)
  have hA1 := hC.2.2.2.1.1 1 (by omega)
  have hA2 := hC.2.2.2.1.1 2 (by omega)
  have h70 := hA0.1
  have h71 := hA1.1
  have h72 := hA2.1
  have hl0 := hC.2.2.2.2.1.1
  have hl1 := hC.2.2.2.2.1.2.1
  have hl2 := hC.2.2.2.2.1.2.2
  have hs0 : pI S 20 (L 0) = nI (mP M) := by rw [← hl0]; exact hA0.2.1
  have hs1 : pI S 20 (L 1) = nI (mM M) := by rw [← hl1]; exact hA1.2.1
  have hs2 : pI S 20 (L 2) = nI (mE M) := by rw [← hl2]; exact hA2.2.1
  have := MI_p hI; have := MI_m hI; have := MI_e hI
  have hmr := hC.2.2.2.2.2.2.1 i g hg
  have k2 := hmr.1
  have mk := hmr.2.1
  have mto := hmr.2.2.1
  obtain ⟨t, mt, t4, mtr⟩ := hmr.2.2.2.1
  obtain ⟨a0, ha0⟩ := RC_at hC hp
  refine z_of (cc := cX5_takeValue) (maxL := 3) (ret := (some .boolean)) (lo := [some (.ref x), some (.ref g), none]) (by decide) rfl rfl (Nat.le_of_ble_eq_true rfl) rfl ?_
  intro pp ee ss mi aa bl mh cd h0 hts hown hr hlk hnm
  have hown : ss.vm.findClass RX5 = some mi.cls := hown
  have inX2 : ∀ w ∈ u_ws RX2 TX2 5, w ∈ wsX5_takeValue := by decide +kernel
  have inX3 : ∀ w ∈ u_ws RX3 TX3 7, w ∈ wsX5_takeValue := by decide +kernel
  have inX4 : ∀ w ∈ u_ws RX4 TX4 5, w ∈ wsX5_takeValue := by decide +kernel
  have lk_113 : zLk ss mi aa RX5 113 3 2 := ⟨RX2, TX2, 5, "PurseWorld$Message", wsX5_takeValue, rfl, by decide, hts, inX2, hown, hts (.fieldLink RX5 113 "PurseWorld$Message" "terms" "LPurseWorld$Transfer;") (by decide +kernel), fun _ h => h⟩
  have lk_158 : zLk ss mi aa RX5 158 5 0 := ⟨RX4, TX4, 5, "PurseWorld$Transfer", wsX5_takeValue, rfl, by decide, hts, inX4, hown, hts (.fieldLink RX5 158 "PurseWorld$Transfer" "payer" "I") (by decide +kernel), fun _ h => h⟩
  have lk_179 : zLk ss mi aa RX5 179 4 3 := ⟨RX3, TX3, 7, "PurseWorld$Purse", wsX5_takeValue, rfl, by decide, hts, inX3, hown, hts (.fieldLink RX5 179 "PurseWorld$Purse" "balance" "I") (by decide +kernel), fun _ h => h⟩
  have lk_182 : zLk ss mi aa RX5 182 5 4 := ⟨RX4, TX4, 5, "PurseWorld$Transfer", wsX5_takeValue, rfl, by decide, hts, inX4, hown, hts (.fieldLink RX5 182 "PurseWorld$Transfer" "amount" "I") (by decide +kernel), fun _ h => h⟩
  have lk_199 : zLk ss mi aa RX5 199 3 1 := ⟨RX2, TX2, 5, "PurseWorld$Message", wsX5_takeValue, rfl, by decide, hts, inX2, hown, hts (.fieldLink RX5 199 "PurseWorld$Message" "to" "I") (by decide +kernel), fun _ h => h⟩
  have lp_179 : zLp ss mi aa mh RX5 179 4 3 .int := ⟨RX3, TX3, 7, "PurseWorld$Purse", wsX5_takeValue, tyX3, rfl, by decide, hts, inX3, hown, hts (.fieldLink RX5 179 "PurseWorld$Purse" "balance" "I") (by decide +kernel), fun _ h => h, tyX3_ok, nmX3, by decide +kernel, Or.inl rfl⟩
  refine z_aload_n h0 dX5_takeValue_0 rfl ?_
  refine z_aload_n h0 dX5_takeValue_1 rfl ?_
  refine z_getI h0 fI3 lk_199 dX5_takeValue_2 (by assumption) ?_
  refine z_top (mto.trans hto) ?_
  refine z_cVr (n := 1) (As := [_]) h0 hts hown (c_X5_purseAt_y hC hI hc hp ha0) gX5_takeValue_X5_purseAt rfl (by decide +kernel) ⟨Nat.le_of_ble_eq_true rfl, Nat.le_of_ble_eq_true rfl⟩ kOk5 rfl (by assumption) dX5_takeValue_5 rfl rfl (Nat.le_of_ble_eq_true rfl) ⟨Nat.le_of_ble_eq_true rfl, Nat.le_of_ble_eq_true rfl⟩ (fun r5 S5 hp5 => ?_)
  obtain ⟨rfl, hpa⟩ := hp5
  have hpr := hC.2.2.2.2.2.1 p _ hpa
  have k3 := hpr.1
  have pnum := hpr.2.1
  have pnot := hpr.2.2.1
  have pkept := hpr.2.2.2.1
  have pbal := hpr.2.2.2.2.1
  have pser := hpr.2.2.2.2.2.1
  have pst := hpr.2.2.2.2.2.2.1
  have pln := hpr.2.2.2.2.2.2.2.1
  obtain ⟨cu, pcu, cu4, cu0, cuT⟩ := hpr.2.2.2.2.2.2.2.2.1
  have plog := hpr.2.2.2.2.2.2.2.2.2
  have hAk := hC.2.2.2.1.1 (p + 3) (by omega)
  have h7k := hAk.1
  have hsk := hAk.2.1
  refine z_astore_n (lo' := [_, _, _]) h0 dX5_takeValue_8 (by decide) rfl rfl ?_
  refine z_aload_n h0 dX5_takeValue_9 rfl ?_
  refine z_iconst (v := 2) h0 dX5_takeValue_10 (by decide) ?_
  refine z_aload_n h0 dX5_takeValue_11 rfl ?_
  refine z_getO h0 fO2 lk_113 dX5_takeValue_12 (by assumption) (by assumption) ?_
  refine z_cVi (n := 2) (As := [_, _]) h0 hts hown (c_X3_does k3 pcu cu4 t4) gX5_takeValue_X3_does rfl (by decide +kernel) ⟨Nat.le_of_ble_eq_true rfl, Nat.le_of_ble_eq_true rfl⟩ kOk3 rfl (by assumption) dX5_takeValue_15 rfl rfl (Nat.le_of_ble_eq_true rfl) ⟨Nat.le_of_ble_eq_true rfl, Nat.le_of_ble_eq_true rfl⟩ (fun r15 S15 hp15 => ?_)
  obtain ⟨rfl, hr15⟩ := hp15
  have hrw := does_wts hr15 pst (by decide) cuT mtr
  refine z_if_ne (tgt := 23) h0 dX5_takeValue_18 (by decide) (fun h18 => ?_) (fun h18 => ?_)
  · have hw := bI_t hrw h18
    refine z_aload_n h0 dX5_takeValue_23 rfl ?_
    refine z_dup h0 dX5_takeValue_24 rfl ?_
    refine z_getI h0 fI7 lk_179 dX5_takeValue_25 (by assumption) ?_
    refine z_top pbal ?_
    refine z_aload_n h0 dX5_takeValue_28 rfl ?_
    refine z_getO h0 fO2 lk_113 dX5_takeValue_29 (by assumption) (by assumption) ?_
    refine z_getI h0 fI14 lk_182 dX5_takeValue_32 (by assumption) ?_
    refine z_top (y := part 4 (mT M (72 + i))) (congrArg (part 4) mtr) ?_
    refine z_iadd h0 dX5_takeValue_35 ?_
    refine z_putI h0 fI7 lp_179 dX5_takeValue_36 (by assumption) rfl rfl ?_
    refine z_aload_n h0 dX5_takeValue_39 rfl ?_
    refine z_cVv (n := 0) (As := []) h0 hts hown (c_X3_rest (S := sI S 7 r5 (mA M 0 p + part 4 (mT M (72 + i)))) (n0 := n0) k3 pnot) gX5_takeValue_X3_rest rfl (by decide +kernel) ⟨Nat.le_of_ble_eq_true rfl, Nat.le_of_ble_eq_true rfl⟩ kOk3 rfl (by assumption) dX5_takeValue_40 rfl rfl (Nat.le_of_ble_eq_true rfl) ⟨Nat.le_of_ble_eq_true rfl, Nat.le_of_ble_eq_true rfl⟩ (fun S40 hp40 => ?_)
    subst hp40
    obtain ⟨hC1, hF1⟩ := RC_rest (v := mA M 0 p + part 4 (mT M (72 + i))) hC hI hpa
    have hI1 := MIb_state (s := 2) (s' := 0) (MIb_bal hI p (mA M 0 p + part 4 (mT M (72 + i)))) hp ((mA_f (by decide)).trans (wts_iff.mp hw).1) (by decide) (by decide) (Or.inl rfl)
    have mt1 := (KF_O hF1 k2 (f := 2) (by decide) (by decide) (by decide)).trans mt
    have k21 := KF_K hF1 k2
    have t41 := KF_K hF1 t4
    refine z_aload_n h0 dX5_takeValue_43 rfl ?_
    refine z_iconst (v := 4) h0 dX5_takeValue_44 (by decide) ?_
    refine z_aload_n h0 dX5_takeValue_45 rfl ?_
    refine z_getO h0 fO2 lk_113 dX5_takeValue_46 k21 mt1 ?_
    refine z_getI h0 fI10 lk_158 dX5_takeValue_49 t41 ?_
    refine z_top (y := part 0 (mT M (72 + i))) (congrArg (part 0) ((KF_tr hF1 t4).trans mtr)) ?_
    refine z_aload_n h0 dX5_takeValue_52 rfl ?_
    refine z_getO h0 fO2 lk_113 dX5_takeValue_53 k21 mt1 ?_
    refine z_cVi (n := 3) (As := [_, _, _]) h0 hts hown (c_X5_send hC1 hI1 (show mM M < 800 from hm8 hw) (k := 4) (t := t) (r := 72 + i) t41 ((KF_tr hF1 t4).trans mtr) (by decide) (by decide)) gX5_takeValue_X5_send rfl (by decide +kernel) ⟨Nat.le_of_ble_eq_true rfl, Nat.le_of_ble_eq_true rfl⟩ kOk5 rfl hC1.1.1 dX5_takeValue_56 rfl rfl (Nat.le_of_ble_eq_true rfl) ⟨Nat.le_of_ble_eq_true rfl, Nat.le_of_ble_eq_true rfl⟩ (fun r56 S56 hp56 => ?_)
    obtain ⟨⟨v9, hC2⟩, hF2, -⟩ := hp56
    refine z_pop h0 dX5_takeValue_59 rfl ?_
    refine z_iconst (v := 1) h0 dX5_takeValue_60 (by decide) ?_
    exact z_zret h0 hr rfl hlk dX5_takeValue_61 (Nat.le_of_ble_eq_true rfl) (Nat.le_of_ble_eq_true rfl) ⟨⟨_, by rw [w_t hw]; exact hC2⟩, KF_trans hF1 hF2, by rw [hw]; rfl⟩
  · refine z_iconst (v := 0) h0 dX5_takeValue_21 (by decide) ?_
    exact z_zret h0 hr rfl hlk dX5_takeValue_22 (Nat.le_of_ble_eq_true rfl) (Nat.le_of_ble_eq_true rfl) ⟨⟨C, by rw [w_f (bI_f hrw h18)]; exact hC⟩, KF_refl S, by rw [bI_f hrw h18]; rfl⟩

abbrev rm_X5_takeThanks : Room := { frames := 7, cells := 2, slots := 12, locals := 111 }
set_option maxRecDepth 100000 in
set_option maxHeartbeats 4000000 in
theorem c_X5_takeThanks {l : Launch} {D : va_G} {cI cZ cO : ClassId} {G : Nat → Nat} {S : PS} {x n0 ar : Nat} {L : Nat → Nat} {C : Nat → List Nat} {M : MS} (hC : RC G S x n0 ar L C M) {c : Nat} (hI : MI c M) (hc : c < 512) {i g p : Nat} (hi : i < mM M) (hg : (C 1)[i]? = some g) (hk : mA M 4 i = 4) (hp : p < mP M) (hto : mA M 5 i = nI p) : zMi l yX5_takeThanks wsX5_takeThanks rm_X5_takeThanks [.ref x, .ref g] D cI cZ cO G S (fun r S' => (∃ C', RC G S' x n0 ar L C' ((if wts M p 3 (72 + i) then mThk M p else M, wts M p 3 (72 + i))).1) ∧ KF S S' ∧ r = bI ((if wts M p 3 (72 + i) then mThk M p else M, wts M p 3 (72 + i))).2) := by
  have hx5 := hC.1.1
  have hxn := hC.1.2.1
  have hxo := hC.1.2.2.1
  have hxs := hC.1.2.2.2.1
  have hxa := hC.1.2.2.2.2
  have har := hC.2.2.1.1
  have harr := hC.2.2.1.2
  have hA0 := hC.2.2.2.1.1 0 (by omega)
  have hA1 := hC.2.2.2.1.1 1 (by omega)
  have hA2 := hC.2.2.2.1.1 2 (by omega)
  have h70 := hA0.1
  have h71 := hA1.1
  have h72 := hA2.1
  have hl0 := hC.2.2.2.2.1.1
  have hl1 := hC.2.2.2.2.1.2.1
  have hl2 := hC.2.2.2.2.1.2.2
  have hs0 : pI S 20 (L 0) = nI (mP M) := by rw [← hl0]; exact hA0.2.1
  have hs1 : pI S 20 (L 1) = nI (mM M) := by rw [← hl1]; exact hA1.2.1
  have hs2 : pI S 20 (L 2) = nI (mE M) := by rw [← hl2]; exact hA2.2.1
  have := MI_p hI; have := MI_m hI; have := MI_e hI
  have hmr := hC.2.2.2.2.2.2.1 i g hg
  have k2 := hmr.1
  have mk := hmr.2.1
  have mto := hmr.2.2.1
  obtain ⟨t, mt, t4, mtr⟩ := hmr.2.2.2.1
  obtain ⟨a0, ha0⟩ := RC_at hC hp
  refine z_of (cc := cX5_takeThanks) (maxL := 3) (ret := (some .boolean)) (lo := [some (.ref x), some (.ref g), none]) (by decide) rfl rfl (Nat.le_of_ble_eq_true rfl) rfl ?_
  intro pp ee ss mi aa bl mh cd h0 hts hown hr hlk hnm
  have hown : ss.vm.findClass RX5 = some mi.cls := hown
  have inX2 : ∀ w ∈ u_ws RX2 TX2 5, w ∈ wsX5_takeThanks := by decide +kernel
  have lk_113 : zLk ss mi aa RX5 113 3 2 := ⟨RX2, TX2, 5, "PurseWorld$Message", wsX5_takeThanks, rfl, by decide, hts, inX2, hown, hts (.fieldLink RX5 113 "PurseWorld$Message" "terms" "LPurseWorld$Transfer;") (by decide +kernel), fun _ h => h⟩
  have lk_199 : zLk ss mi aa RX5 199 3 1 := ⟨RX2, TX2, 5, "PurseWorld$Message", wsX5_takeThanks, rfl, by decide, hts, inX2, hown, hts (.fieldLink RX5 199 "PurseWorld$Message" "to" "I") (by decide +kernel), fun _ h => h⟩
  refine z_aload_n h0 dX5_takeThanks_0 rfl ?_
  refine z_aload_n h0 dX5_takeThanks_1 rfl ?_
  refine z_getI h0 fI3 lk_199 dX5_takeThanks_2 (by assumption) ?_
  refine z_top (mto.trans hto) ?_
  refine z_cVr (n := 1) (As := [_]) h0 hts hown (c_X5_purseAt_y hC hI hc hp ha0) gX5_takeThanks_X5_purseAt rfl (by decide +kernel) ⟨Nat.le_of_ble_eq_true rfl, Nat.le_of_ble_eq_true rfl⟩ kOk5 rfl (by assumption) dX5_takeThanks_5 rfl rfl (Nat.le_of_ble_eq_true rfl) ⟨Nat.le_of_ble_eq_true rfl, Nat.le_of_ble_eq_true rfl⟩ (fun r5 S5 hp5 => ?_)
  obtain ⟨rfl, hpa⟩ := hp5
  have hpr := hC.2.2.2.2.2.1 p _ hpa
  have k3 := hpr.1
  have pnum := hpr.2.1
  have pnot := hpr.2.2.1
  have pkept := hpr.2.2.2.1
  have pbal := hpr.2.2.2.2.1
  have pser := hpr.2.2.2.2.2.1
  have pst := hpr.2.2.2.2.2.2.1
  have pln := hpr.2.2.2.2.2.2.2.1
  obtain ⟨cu, pcu, cu4, cu0, cuT⟩ := hpr.2.2.2.2.2.2.2.2.1
  have plog := hpr.2.2.2.2.2.2.2.2.2
  have hAk := hC.2.2.2.1.1 (p + 3) (by omega)
  have h7k := hAk.1
  have hsk := hAk.2.1
  refine z_astore_n (lo' := [_, _, _]) h0 dX5_takeThanks_8 (by decide) rfl rfl ?_
  refine z_aload_n h0 dX5_takeThanks_9 rfl ?_
  refine z_iconst (v := 3) h0 dX5_takeThanks_10 (by decide) ?_
  refine z_aload_n h0 dX5_takeThanks_11 rfl ?_
  refine z_getO h0 fO2 lk_113 dX5_takeThanks_12 (by assumption) (by assumption) ?_
  refine z_cVi (n := 2) (As := [_, _]) h0 hts hown (c_X3_does k3 pcu cu4 t4) gX5_takeThanks_X3_does rfl (by decide +kernel) ⟨Nat.le_of_ble_eq_true rfl, Nat.le_of_ble_eq_true rfl⟩ kOk3 rfl (by assumption) dX5_takeThanks_15 rfl rfl (Nat.le_of_ble_eq_true rfl) ⟨Nat.le_of_ble_eq_true rfl, Nat.le_of_ble_eq_true rfl⟩ (fun r15 S15 hp15 => ?_)
  obtain ⟨rfl, hr15⟩ := hp15
  have hrw := does_wts hr15 pst (by decide) cuT mtr
  refine z_if_ne (tgt := 23) h0 dX5_takeThanks_18 (by decide) (fun h18 => ?_) (fun h18 => ?_)
  · have hw := bI_t hrw h18
    refine z_aload_n h0 dX5_takeThanks_23 rfl ?_
    refine z_cVv (n := 0) (As := []) h0 hts hown (c_X3_rest (n0 := n0) k3 pnot) gX5_takeThanks_X3_rest rfl (by decide +kernel) ⟨Nat.le_of_ble_eq_true rfl, Nat.le_of_ble_eq_true rfl⟩ kOk3 rfl (by assumption) dX5_takeThanks_24 rfl rfl (Nat.le_of_ble_eq_true rfl) ⟨Nat.le_of_ble_eq_true rfl, Nat.le_of_ble_eq_true rfl⟩ (fun S24 hp24 => ?_)
    subst hp24
    obtain ⟨hC2, hF2⟩ := RC_thk hC hI hpa
    refine z_iconst (v := 1) h0 dX5_takeThanks_27 (by decide) ?_
    exact z_zret h0 hr rfl hlk dX5_takeThanks_28 (Nat.le_of_ble_eq_true rfl) (Nat.le_of_ble_eq_true rfl) ⟨⟨_, by rw [w_t hw]; exact hC2⟩, hF2, by rw [hw]; rfl⟩
  · refine z_iconst (v := 0) h0 dX5_takeThanks_21 (by decide) ?_
    exact z_zret h0 hr rfl hlk dX5_takeThanks_22 (Nat.le_of_ble_eq_true rfl) (Nat.le_of_ble_eq_true rfl) ⟨⟨C, by rw [w_f (bI_f hrw h18)]; exact hC⟩, KF_refl S, by rw [bI_f hrw h18]; rfl⟩

theorem all_f {f : Nat → Bool} {n j : Nat} (hj : j < n) (h : f j = false) : (List.range n).all f = false := by
  rw [List.all_eq_false]; exact ⟨j, List.mem_range.mpr hj, by rw [h]; decide⟩
theorem clr_t {M : MS} {p k : Nat} (h0 : mA M 2 p = 0) (hn : 0 < lnN M p) (h : (List.range (lnN M p)).all (fun j => kpt M (nI p) (12 + 5 * p + j) k) = true) : clr M p k (lnN M p) = true := by unfold clr; rw [h, decide_eq_true ⟨h0, hn⟩]; rfl
theorem clr_f {M : MS} {p k : Nat} (h : ¬ (mA M 2 p = 0 ∧ 0 < lnN M p) ∨ ∃ j, j < lnN M p ∧ kpt M (nI p) (12 + 5 * p + j) k = false) : clr M p k (lnN M p) = false := by
  unfold clr
  rcases h with h | ⟨j, hj, h⟩
  · rw [decide_eq_false h]; rfl
  · rw [all_f hj h, Bool.and_false]

abbrev rm_X5_takeClear : Room := { frames := 7, cells := 2, slots := 12, locals := 111 }
set_option maxRecDepth 100000 in
set_option maxHeartbeats 4000000 in
theorem c_X5_takeClear {l : Launch} {D : va_G} {cI cZ cO : ClassId} {G : Nat → Nat} {S : PS} {x n0 ar : Nat} {L : Nat → Nat} {C : Nat → List Nat} {M : MS} (hC : RC G S x n0 ar L C M) {c : Nat} (hI : MI c M) (hc : c < 512) {i g p : Nat} (hi : i < mM M) (hg : (C 1)[i]? = some g) (hk : mA M 4 i = 6) (hp : p < mP M) (hto : mA M 5 i = nI p) {k : Nat} (hkk : k ≤ mE M) (hof : mA M 6 i = nI k) : zMi l yX5_takeClear wsX5_takeClear rm_X5_takeClear [.ref x, .ref g] D cI cZ cO G S (fun r S' => (∃ C', RC G S' x n0 ar L C' ((if clr M p k (lnN M p) then sA M 3 p 0 else M, clr M p k (lnN M p))).1) ∧ KF S S' ∧ r = bI ((if clr M p k (lnN M p) then sA M 3 p 0 else M, clr M p k (lnN M p))).2) := by
  have hx5 := hC.1.1
  have hxn := hC.1.2.1
  have hxo := hC.1.2.2.1
  have hxs := hC.1.2.2.2.1
  have hxa := hC.1.2.2.2.2
  have har := hC.2.2.1.1
  have harr := hC.2.2.1.2
  have hA0 := hC.2.2.2.1.1 0 (by omega)
  have hA1 := hC.2.2.2.1.1 1 (by omega)
  have hA2 := hC.2.2.2.1.1 2 (by omega)
  have h70 := hA0.1
  have h71 := hA1.1
  have h72 := hA2.1
  have hl0 := hC.2.2.2.2.1.1
  have hl1 := hC.2.2.2.2.1.2.1
  have hl2 := hC.2.2.2.2.1.2.2
  have hs0 : pI S 20 (L 0) = nI (mP M) := by rw [← hl0]; exact hA0.2.1
  have hs1 : pI S 20 (L 1) = nI (mM M) := by rw [← hl1]; exact hA1.2.1
  have hs2 : pI S 20 (L 2) = nI (mE M) := by rw [← hl2]; exact hA2.2.1
  have := MI_p hI; have := MI_m hI; have := MI_e hI
  have hmr := hC.2.2.2.2.2.2.1 i g hg
  have k2 := hmr.1
  have mk := hmr.2.1
  have mto := hmr.2.2.1
  obtain ⟨t, mt, t4, mtr⟩ := hmr.2.2.2.1
  have mar := hmr.2.2.2.2.2
  obtain ⟨a0, ha0⟩ := RC_at hC hp
  have hen := RC_en hC
  refine z_of (cc := cX5_takeClear) (maxL := 4) (ret := (some .boolean)) (lo := [some (.ref x), some (.ref g), none, none]) (by decide) rfl rfl (Nat.le_of_ble_eq_true rfl) rfl ?_
  intro pp ee ss mi aa bl mh cd h0 hts hown hr hlk hnm
  have hown : ss.vm.findClass RX5 = some mi.cls := hown
  have inX2 : ∀ w ∈ u_ws RX2 TX2 5, w ∈ wsX5_takeClear := by decide +kernel
  have inX3 : ∀ w ∈ u_ws RX3 TX3 7, w ∈ wsX5_takeClear := by decide +kernel
  have inX5 : ∀ w ∈ u_ws RX5 TX5 4, w ∈ wsX5_takeClear := by decide +kernel
  have lk_31 : zLk ss mi aa RX5 31 6 3 := ⟨RX5, TX5, 4, "PurseWorld", wsX5_takeClear, rfl, by decide, hts, inX5, hown, hts (.fieldLink RX5 31 "PurseWorld" "archive" "LPurseWorld$Archive;") (by decide +kernel), fun _ h => h⟩
  have lk_123 : zLk ss mi aa RX5 123 4 5 := ⟨RX3, TX3, 7, "PurseWorld$Purse", wsX5_takeClear, rfl, by decide, hts, inX3, hown, hts (.fieldLink RX5 123 "PurseWorld$Purse" "state" "I") (by decide +kernel), fun _ h => h⟩
  have lk_134 : zLk ss mi aa RX5 134 4 2 := ⟨RX3, TX3, 7, "PurseWorld$Purse", wsX5_takeClear, rfl, by decide, hts, inX3, hown, hts (.fieldLink RX5 134 "PurseWorld$Purse" "kept" "Ljava/util/ArrayList;") (by decide +kernel), fun _ h => h⟩
  have lk_199 : zLk ss mi aa RX5 199 3 1 := ⟨RX2, TX2, 5, "PurseWorld$Message", wsX5_takeClear, rfl, by decide, hts, inX2, hown, hts (.fieldLink RX5 199 "PurseWorld$Message" "to" "I") (by decide +kernel), fun _ h => h⟩
  have lk_237 : zLk ss mi aa RX5 237 4 0 := ⟨RX3, TX3, 7, "PurseWorld$Purse", wsX5_takeClear, rfl, by decide, hts, inX3, hown, hts (.fieldLink RX5 237 "PurseWorld$Purse" "number" "I") (by decide +kernel), fun _ h => h⟩
  have lk_250 : zLk ss mi aa RX5 250 3 4 := ⟨RX2, TX2, 5, "PurseWorld$Message", wsX5_takeClear, rfl, by decide, hts, inX2, hown, hts (.fieldLink RX5 250 "PurseWorld$Message" "archived" "I") (by decide +kernel), fun _ h => h⟩
  have loop : ∀ (n j a : Nat), (C 0)[p]? = some a → mA M 2 p = 0 → 0 < lnN M p → lnN M p - j < n → j ≤ lnN M p → (List.range j).all (fun j => kpt M (nI p) (12 + 5 * p + j) k) = true → ZW pp l ee rm_X5_takeClear ss mi aa bl mh cd D cI cZ cO (zA cI cZ cO S ss.heap.size) (MQ bl (zQi D cI cZ cO S (fun r S' => (∃ C', RC G S' x n0 ar L C' ((if clr M p k (lnN M p) then sA M 3 p 0 else M, clr M p k (lnN M p))).1) ∧ KF S S' ∧ r = bI ((if clr M p k (lnN M p) then sA M 3 p 0 else M, clr M p k (lnN M p))).2) ss.heap.size) aa ss rm_X5_takeClear.cells rm_X5_takeClear.slots (zA cI cZ cO S ss.heap.size)) [] 4 S 1 6 30 [some (.ref x), some (.ref g), some (.ref a), some (.int (nI j))] [] := by
    intro n
    induction n with
    | zero => intro j a _ _ _ h; exact absurd h (Nat.not_lt_zero _)
    | succ n ih =>
      intro j a hpa hst0 hn0 hm hj hall
      have hpr := hC.2.2.2.2.2.1 p _ hpa
      have k3 := hpr.1
      have pnum := hpr.2.1
      have pnot := hpr.2.2.1
      have pkept := hpr.2.2.2.1
      have pbal := hpr.2.2.2.2.1
      have pser := hpr.2.2.2.2.2.1
      have pst := hpr.2.2.2.2.2.2.1
      have pln := hpr.2.2.2.2.2.2.2.1
      obtain ⟨cu, pcu, cu4, cu0, cuT⟩ := hpr.2.2.2.2.2.2.2.2.1
      have plog := hpr.2.2.2.2.2.2.2.2.2
      have hAk := hC.2.2.2.1.1 (p + 3) (by omega)
      have h7k := hAk.1
      have hsk := hAk.2.1
      have hln := RC_len hC hI hpa
      refine z_iload_n h0 dX5_takeClear_30 rfl ?_
      refine z_aload_n h0 dX5_takeClear_31 rfl ?_
      refine z_getO h0 fO4 lk_134 dX5_takeClear_32 (by assumption) (by assumption) ?_
      refine z_cVi (n := 0) (As := []) h0 hts hown (c_Jx4a65c_size_8abf5 h7k) gX5_takeClear_Jx4a65c_size_8abf5 rfl (by decide +kernel) ⟨Nat.le_of_ble_eq_true rfl, Nat.le_of_ble_eq_true rfl⟩ kOk7 rfl (by assumption) dX5_takeClear_35 rfl rfl (Nat.le_of_ble_eq_true rfl) ⟨Nat.le_of_ble_eq_true rfl, Nat.le_of_ble_eq_true rfl⟩ (fun r35 S35 hp35 => ?_)
      obtain ⟨rfl, hr35⟩ := hp35
      rw [hsk, hln.1] at hr35
      subst hr35
      refine z_icmp_ge (tgt := 78) h0 dX5_takeClear_38 (by decide) (fun h38 => ?_) (fun h38 => ?_)
      · refine z_aload_n h0 dX5_takeClear_78 rfl ?_
        refine z_getO h0 fO4 lk_134 dX5_takeClear_79 (by assumption) (by assumption) ?_
        refine z_G0 h0 (fun hG => ?_)
        refine z_cVv (n := 0) (As := []) h0 hts hown (c_Jx4a65c_clear_da8c8 hAk) gX5_takeClear_Jx4a65c_clear_da8c8 rfl (by decide +kernel) ⟨Nat.le_of_ble_eq_true rfl, Nat.le_of_ble_eq_true rfl⟩ kOk7 rfl (by assumption) dX5_takeClear_82 rfl rfl (Nat.le_of_ble_eq_true rfl) ⟨Nat.le_of_ble_eq_true rfl, Nat.le_of_ble_eq_true rfl⟩ (fun S82 hp82 => ?_)
        obtain ⟨hC2, hF2⟩ := RC_clr hC hI hpa hp82.1 hp82.2 hG
        have hcl := clr_t hst0 hn0 (by rw [Nat.le_antisymm hj (nI_geof h38 (by omega) (by omega))] at hall; exact hall)
        refine z_iconst (v := 1) h0 dX5_takeClear_85 (by decide) ?_
        exact z_zret h0 hr rfl hlk dX5_takeClear_86 (Nat.le_of_ble_eq_true rfl) (Nat.le_of_ble_eq_true rfl) ⟨⟨_, by rw [w_t hcl]; exact hC2⟩, hF2, by rw [hcl]; rfl⟩
      · have hlt : j < lnN M p := nI_ltof h38 (by omega)
        obtain ⟨t1, ht1⟩ := get_lt (xs := C (p + 3)) (i := j) (by omega)
        have hlt1 := plog j t1 ht1
        refine z_aload_n h0 dX5_takeClear_41 rfl ?_
        refine z_getO h0 fO9 lk_31 dX5_takeClear_42 (by assumption) (by assumption) ?_
        refine z_aload_n h0 dX5_takeClear_45 rfl ?_
        refine z_getI h0 fI5 lk_250 dX5_takeClear_46 (by assumption) ?_
        refine z_top ((mar hk).trans hof) ?_
        refine z_aload_n h0 dX5_takeClear_49 rfl ?_
        refine z_getI h0 fI6 lk_237 dX5_takeClear_50 (by assumption) ?_
        refine z_top pnum ?_
        refine z_aload_n h0 dX5_takeClear_53 rfl ?_
        refine z_getO h0 fO4 lk_134 dX5_takeClear_54 (by assumption) (by assumption) ?_
        refine z_iload_n h0 dX5_takeClear_57 rfl ?_
        refine z_cVr (n := 1) (As := [_]) h0 hts hown (c_Jx4a65c_get_915e3 (j := j) hAk (nI_toInt (by omega)) ht1) gX5_takeClear_Jx4a65c_get_915e3 rfl (by decide +kernel) ⟨Nat.le_of_ble_eq_true rfl, Nat.le_of_ble_eq_true rfl⟩ kOk7 rfl (by assumption) dX5_takeClear_58 rfl rfl (Nat.le_of_ble_eq_true rfl) ⟨Nat.le_of_ble_eq_true rfl, Nat.le_of_ble_eq_true rfl⟩ (fun r58 S58 hp58 => ?_)
        obtain ⟨rfl, rfl⟩ := hp58
        refine z_cast h0 hown (hts (.classLink RX5 7 "PurseWorld$Transfer") (by decide +kernel)) kOk4 rfl hlt1.1 dX5_takeClear_61 ?_
        refine z_cVi (n := 3) (As := [_, _, _]) h0 hts hown (c_X0_hadAmong (k := k) har harr hA2 hen hlt1.1 (by omega)) gX5_takeClear_X0_hadAmong rfl (by decide +kernel) ⟨Nat.le_of_ble_eq_true rfl, Nat.le_of_ble_eq_true rfl⟩ kOk0 rfl (by assumption) dX5_takeClear_64 rfl rfl (Nat.le_of_ble_eq_true rfl) ⟨Nat.le_of_ble_eq_true rfl, Nat.le_of_ble_eq_true rfl⟩ (fun r64 S64 hp64 => ?_)
        obtain ⟨rfl, hr64⟩ := hp64
        rw [kpt_take hC hkk hlt1.2] at hr64
        have hk64 : r64 = bI (kpt M (nI p) (12 + 5 * p + j) k) := hr64
        refine z_if_ne (tgt := 72) h0 dX5_takeClear_67 (by decide) (fun h67 => ?_) (fun h67 => ?_)
        · refine z_iinc (lo' := [_, _, _, _]) (v := nI (j + 1)) h0 dX5_takeClear_72 rfl (nI_1 j) (by decide) rfl rfl ?_
          refine z_goto (tgt := 30) h0 dX5_takeClear_75 (by decide) ?_
          exact ih (j + 1) a hpa hst0 hn0 (by omega) (by omega) (by rw [all_s, hall, bI_t hk64 h67]; rfl)
        · refine z_iconst (v := 0) h0 dX5_takeClear_70 (by decide) ?_
          exact z_zret h0 hr rfl hlk dX5_takeClear_71 (Nat.le_of_ble_eq_true rfl) (Nat.le_of_ble_eq_true rfl) ⟨⟨C, by rw [w_f (clr_f (Or.inr ⟨j, hlt, bI_f hk64 h67⟩))]; exact hC⟩, KF_refl S, by rw [clr_f (Or.inr ⟨j, hlt, bI_f hk64 h67⟩)]; rfl⟩
  refine z_aload_n h0 dX5_takeClear_0 rfl ?_
  refine z_aload_n h0 dX5_takeClear_1 rfl ?_
  refine z_getI h0 fI3 lk_199 dX5_takeClear_2 (by assumption) ?_
  refine z_top (mto.trans hto) ?_
  refine z_cVr (n := 1) (As := [_]) h0 hts hown (c_X5_purseAt_y hC hI hc hp ha0) gX5_takeClear_X5_purseAt rfl (by decide +kernel) ⟨Nat.le_of_ble_eq_true rfl, Nat.le_of_ble_eq_true rfl⟩ kOk5 rfl (by assumption) dX5_takeClear_5 rfl rfl (Nat.le_of_ble_eq_true rfl) ⟨Nat.le_of_ble_eq_true rfl, Nat.le_of_ble_eq_true rfl⟩ (fun r5 S5 hp5 => ?_)
  obtain ⟨rfl, hpa⟩ := hp5
  have hpr := hC.2.2.2.2.2.1 p _ hpa
  have k3 := hpr.1
  have pnum := hpr.2.1
  have pnot := hpr.2.2.1
  have pkept := hpr.2.2.2.1
  have pbal := hpr.2.2.2.2.1
  have pser := hpr.2.2.2.2.2.1
  have pst := hpr.2.2.2.2.2.2.1
  have pln := hpr.2.2.2.2.2.2.2.1
  obtain ⟨cu, pcu, cu4, cu0, cuT⟩ := hpr.2.2.2.2.2.2.2.2.1
  have plog := hpr.2.2.2.2.2.2.2.2.2
  have hAk := hC.2.2.2.1.1 (p + 3) (by omega)
  have h7k := hAk.1
  have hsk := hAk.2.1
  refine z_astore_n (lo' := [_, _, _, _]) h0 dX5_takeClear_8 (by decide) rfl rfl ?_
  refine z_aload_n h0 dX5_takeClear_9 rfl ?_
  refine z_getI h0 fI9 lk_123 dX5_takeClear_10 (by assumption) ?_
  refine z_top pst ?_
  refine z_if_ne (tgt := 26) h0 dX5_takeClear_13 (by decide) (fun h13 => ?_) (fun h13 => ?_)
  · refine z_iconst (v := 0) h0 dX5_takeClear_26 (by decide) ?_
    exact z_zret h0 hr rfl hlk dX5_takeClear_27 (Nat.le_of_ble_eq_true rfl) (Nat.le_of_ble_eq_true rfl) ⟨⟨C, by rw [w_f (clr_f (Or.inl (fun w => h13 w.1)))]; exact hC⟩, KF_refl S, by rw [clr_f (Or.inl (fun w => h13 w.1))]; rfl⟩
  · refine z_aload_n h0 dX5_takeClear_16 rfl ?_
    refine z_getO h0 fO4 lk_134 dX5_takeClear_17 (by assumption) (by assumption) ?_
    refine z_cVi (n := 0) (As := []) h0 hts hown (c_Jx4a65c_isEmpty_aae02 h7k) gX5_takeClear_Jx4a65c_isEmpty_aae02 rfl (by decide +kernel) ⟨Nat.le_of_ble_eq_true rfl, Nat.le_of_ble_eq_true rfl⟩ kOk7 rfl (by assumption) dX5_takeClear_20 rfl rfl (Nat.le_of_ble_eq_true rfl) ⟨Nat.le_of_ble_eq_true rfl, Nat.le_of_ble_eq_true rfl⟩ (fun r20 S20 hp20 => ?_)
    obtain ⟨rfl, hr20⟩ := hp20
    have hln := RC_len hC hI hpa
    rw [hsk] at hr20
    refine z_if_eq (tgt := 28) h0 dX5_takeClear_23 (by decide) (fun h23 => ?_) (fun h23 => ?_)
    · have hn0 : 0 < lnN M p := Nat.pos_of_ne_zero (fun z => by rw [if_pos (by rw [hln.1, z]; rfl)] at hr20; rw [hr20] at h23; exact absurd h23 (by decide))
      refine z_iconst (v := 0) h0 dX5_takeClear_28 (by decide) ?_
      refine z_istore_n (lo' := [_, _, _, _]) h0 dX5_takeClear_29 (by decide) rfl rfl ?_
      exact loop (lnN M p + 1) 0 r5 hpa h13 hn0 (by omega) (Nat.zero_le _) rfl
    · refine z_iconst (v := 0) h0 dX5_takeClear_26 (by decide) ?_
      exact z_zret h0 hr rfl hlk dX5_takeClear_27 (Nat.le_of_ble_eq_true rfl) (Nat.le_of_ble_eq_true rfl) ⟨⟨C, by rw [w_f (clr_f (Or.inl (fun w => h23 (by rw [hr20, if_neg (nI_ne0 (by omega) (by omega))]))))]; exact hC⟩, KF_refl S, by rw [clr_f (Or.inl (fun w => h23 (by rw [hr20, if_neg (nI_ne0 (by omega) (by omega))])))]; rfl⟩

end CLS5
