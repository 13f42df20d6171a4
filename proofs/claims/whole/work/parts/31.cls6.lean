/-! THE CLASS: deliver. -/
section CLS6
abbrev xBU (o : OR) (E : String) : Prop := (o.1 = 1 ∧ E = eB) ∨ (o.1 = 2 ∧ E = eU)
theorem rec_sum {G : Nat → Nat} {S S' : PS} {x n0 ar : Nat} {L : Nat → Nat} {C : Nat → List Nat} {M : MS} {b c i t : Nat} {r : Int32} (hC : RC G S x n0 ar L C M) (hI : MIb b c M) (hi : i < mM M) (hk : mA M 4 i = 5) (t4 : isK S 4 t) (mtr : tr S t = mT M (72 + i))
    (h : ((C 2).any (fun x => decide (pI S 0 x = mA M 6 i ∧ enT S x = tr S t)) = true ∧ S = S' ∧ r = 0) ∨ ((C 2).any (fun x => decide (pI S 0 x = mA M 6 i ∧ enT S x = tr S t)) = false ∧ r = 1 ∧ ∃ q, q ∉ pL S ∧ Added G (sO (sI (sN S q 1 0) 0 q (mA M 6 i)) 1 q (some t)) S' (L 2) (C 2) q)) (hG : G 0 ∉ pL S') :
    (∃ C', RC G S' x n0 ar L C' (if kpt M (mA M 6 i) (72 + i) (mE M) then M else mRec M i)) ∧ KF S S' ∧ r = bI (!kpt M (mA M 6 i) (72 + i) (mE M)) := by
  rw [kpt_all hC mtr] at h
  rcases h with ⟨z1, rfl, z2⟩ | ⟨z1, z2, q, hq, hAd⟩
  · exact ⟨⟨C, by rw [w_t z1]; exact hC⟩, KF_refl S, by rw [z1]; exact z2⟩
  · obtain ⟨g1, g2⟩ := RC_rec hC hI hi hk z1 hq t4 mtr hAd hG
    exact ⟨⟨_, by rw [w_f z1]; exact g1⟩, g2, by rw [z1]; exact z2⟩

abbrev rm_X5_deliver : Room := { frames := 9, cells := 10, slots := 3060, locals := 238 }
set_option maxRecDepth 100000 in
set_option maxHeartbeats 4000000 in
theorem c_X5_deliver {l : Launch} {D : va_G} {cI cZ cO : ClassId} {G : Nat → Nat} {S : PS} (hl : l.stackTraces = false) {x n0 ar : Nat} {L : Nat → Nat} {C : Nat → List Nat} {M : MS} (hC : RC G S x n0 ar L C M) {c : Nat} (hI : MI c M) (hc : c < 512) {y : Int32} : zXi l yX5_deliver wsX5_deliver rm_X5_deliver [.ref x, .int y] D cI cZ cO G S (fun r S' => cP G S x (oDeliver M y) r S') (xBU (oDeliver M y)) := by
  have hx5 := hC.1.1
  have hxn := hC.1.2.1
  have hxo := hC.1.2.2.1
  have hxs := hC.1.2.2.2.1
  have hxa := hC.1.2.2.2.2
  have har := hC.2.2.1.1
  have harr := hC.2.2.1.2
  have hA0 := hC.2.2.2.1.1 0 (by omega)
  have hA1 := hC.2.2.2.1.1 1 (by omega)
  have hA2 := hC.2.2.2.1.1 2 (by omega)
  have h70 := hA0.1
  have h71 := hA1.1
  have h72 := hA2.1
  have hl0 := hC.2.2.2.2.1.1
  have hl1 := hC.2.2.2.2.1.2.1
  have hl2 := hC.2.2.2.2.1.2.2
  have hs0 : pI S 20 (L 0) = nI (mP M) := by rw [← hl0]; exact hA0.2.1
  have hs1 : pI S 20 (L 1) = nI (mM M) := by rw [← hl1]; exact hA1.2.1
  have hs2 : pI S 20 (L 2) = nI (mE M) := by rw [← hl2]; exact hA2.2.1
  have := MI_p hI; have := MI_m hI; have := MI_e hI
  refine z_ofX (cc := cX5_deliver) (maxL := 3) (ret := (some .boolean)) (lo := [some (.ref x), some (.int y), none]) (by decide) rfl rfl (Nat.le_of_ble_eq_true rfl) rfl ?_
  intro pp ee ss mi aa bl mh cd h0 hts hown hr hlk hnm htab
  have hown : ss.vm.findClass RX5 = some mi.cls := hown
  have inX2 : ∀ w ∈ u_ws RX2 TX2 5, w ∈ wsX5_deliver := by decide +kernel
  have inX5 : ∀ w ∈ u_ws RX5 TX5 4, w ∈ wsX5_deliver := by decide +kernel
  have lk_31 : zLk ss mi aa RX5 31 6 3 := ⟨RX5, TX5, 4, "PurseWorld", wsX5_deliver, rfl, by decide, hts, inX5, hown, hts (.fieldLink RX5 31 "PurseWorld" "archive" "LPurseWorld$Archive;") (by decide +kernel), fun _ h => h⟩
  have lk_90 : zLk ss mi aa RX5 90 3 0 := ⟨RX2, TX2, 5, "PurseWorld$Message", wsX5_deliver, rfl, by decide, hts, inX2, hown, hts (.fieldLink RX5 90 "PurseWorld$Message" "kind" "I") (by decide +kernel), fun _ h => h⟩
  have lk_110 : zLk ss mi aa RX5 110 3 3 := ⟨RX2, TX2, 5, "PurseWorld$Message", wsX5_deliver, rfl, by decide, hts, inX2, hown, hts (.fieldLink RX5 110 "PurseWorld$Message" "teller" "I") (by decide +kernel), fun _ h => h⟩
  have lk_113 : zLk ss mi aa RX5 113 3 2 := ⟨RX2, TX2, 5, "PurseWorld$Message", wsX5_deliver, rfl, by decide, hts, inX2, hown, hts (.fieldLink RX5 113 "PurseWorld$Message" "terms" "LPurseWorld$Transfer;") (by decide +kernel), fun _ h => h⟩
  refine z_aload_n h0 dX5_deliver_0 rfl ?_
  refine z_iload_n h0 dX5_deliver_1 rfl ?_
  refine z_xVr (n := 1) (As := [_]) h0 hts hown (c_X5_messageAt_x hl hC hI hc) gX5_deliver_X5_messageAt rfl (by decide +kernel) ⟨Nat.le_of_ble_eq_true rfl, Nat.le_of_ble_eq_true rfl⟩ kOk5 rfl (by assumption) dX5_deliver_2 rfl rfl (Nat.le_of_ble_eq_true rfl) ⟨Nat.le_of_ble_eq_true rfl, Nat.le_of_ble_eq_true rfl⟩ htab hlk (Nat.le_of_ble_eq_true rfl) (Nat.le_of_ble_eq_true rfl) (fun E hE => Or.inl ⟨x1 (by unfold oDeliver; rw [if_pos hE.2]), hE.1⟩) (fun r2 S2 hp2 => ?_)
  obtain ⟨rfl, i, hi, rfl, hg⟩ := hp2
  have hin := inR_of hi (by omega)
  have e1 := ix_of (x := nI i) rfl (by omega)
  have hmr := hC.2.2.2.2.2.2.1 i _ hg
  have k2 := hmr.1
  have mk := hmr.2.1
  have mto := hmr.2.2.1
  obtain ⟨t, mt, t4, mtr⟩ := hmr.2.2.2.1
  obtain ⟨kd, hkd, hk6, hg5, hgr, hcl⟩ := hI.2.2.2.2.2.1 i hi
  rcases (show kd = 0 ∨ kd = 1 ∨ kd = 2 ∨ kd = 3 ∨ kd = 4 ∨ kd = 5 ∨ kd = 6 by omega) with rfl | rfl | rfl | rfl | rfl | rfl | rfl
  · obtain ⟨htk, p, hp, hto, z0, z1⟩ := hg5 (by decide)
    have e2 := ix_of hto (by omega)
    have hk : mA M 4 i = 0 := hkd
    refine z_astore_n (lo' := [_, _, _]) h0 dX5_deliver_5 (by decide) rfl rfl ?_
    refine z_aload_n h0 dX5_deliver_6 rfl ?_
    refine z_aload_n h0 dX5_deliver_7 rfl ?_
    refine z_cVi (n := 1) (As := [_]) h0 hts hown (c_X5_mayBeAnswered_0 hC hI hc hi hg hk hp hto) gX5_deliver_X5_mayBeAnswered rfl (by decide +kernel) ⟨Nat.le_of_ble_eq_true rfl, Nat.le_of_ble_eq_true rfl⟩ kOk5 rfl (by assumption) dX5_deliver_8 rfl rfl (Nat.le_of_ble_eq_true rfl) ⟨Nat.le_of_ble_eq_true rfl, Nat.le_of_ble_eq_true rfl⟩ (fun r8 S8 hp8 => ?_)
    obtain ⟨rfl, hr8⟩ := hp8
    refine z_if_eq (tgt := 19) h0 dX5_deliver_11 (by decide) (fun h11 => ?_) (fun h11 => absurd ((answers_0 (by rw [hk]; decide) (by rw [hk]; decide) (by rw [hk]; decide)).symm.trans (bI_t hr8 h11)) (by decide))
    refine z_aload_n h0 dX5_deliver_19 rfl ?_
    refine z_getI h0 fI2 lk_90 dX5_deliver_20 (by assumption) ?_
    refine z_top (mk.trans hk) ?_
    refine z_tableIn (off := 37) (tgt := 60) h0 dX5_deliver_23 (by decide) (by decide) (by decide) (by decide) ?_
    refine z_aload_n h0 dX5_deliver_60 rfl ?_
    refine z_aload_n h0 dX5_deliver_61 rfl ?_
    refine z_cVi (n := 1) (As := [_]) h0 hts hown (c_X5_takePay hC hI hc hi hg hk hp hto (z0 rfl)) gX5_deliver_X5_takePay rfl (by decide +kernel) ⟨Nat.le_of_ble_eq_true rfl, Nat.le_of_ble_eq_true rfl⟩ kOk5 rfl (by assumption) dX5_deliver_62 rfl rfl (Nat.le_of_ble_eq_true rfl) ⟨Nat.le_of_ble_eq_true rfl, Nat.le_of_ble_eq_true rfl⟩ (fun r62 S62 hp62 => ?_)
    obtain ⟨⟨C2, hC2⟩, hF2, hrr⟩ := hp62
    refine z_x ?_
    exact z_zret h0 hr (by rw [hrr]; exact bI_nar _) hlk dX5_deliver_65 (Nat.le_of_ble_eq_true rfl) (Nat.le_of_ble_eq_true rfl) (by first | exact (cP_y (by unfold oDeliver; rw [if_neg (fun z => z hin), e1, if_neg (fun z => absurd ((bI_f hr8 h11).symm.trans z.1) (by decide)), mDel_0 hk e2, hrr]) hC2 hF2) | exact (cP_y (by unfold oDeliver; rw [if_neg (fun z => z hin), e1, if_neg (fun z => by have := z.2; omega), mDel_0 hk e2, hrr]) hC2 hF2))
  · obtain ⟨htk, p, hp, hto, z0, z1⟩ := hg5 (by decide)
    have e2 := ix_of hto (by omega)
    have hk : mA M 4 i = 1 := hkd
    refine z_astore_n (lo' := [_, _, _]) h0 dX5_deliver_5 (by decide) rfl rfl ?_
    refine z_aload_n h0 dX5_deliver_6 rfl ?_
    refine z_aload_n h0 dX5_deliver_7 rfl ?_
    refine z_cVi (n := 1) (As := [_]) h0 hts hown (c_X5_mayBeAnswered_1 hC hI hc hi hg hk hp hto) gX5_deliver_X5_mayBeAnswered rfl (by decide +kernel) ⟨Nat.le_of_ble_eq_true rfl, Nat.le_of_ble_eq_true rfl⟩ kOk5 rfl (by assumption) dX5_deliver_8 rfl rfl (Nat.le_of_ble_eq_true rfl) ⟨Nat.le_of_ble_eq_true rfl, Nat.le_of_ble_eq_true rfl⟩ (fun r8 S8 hp8 => ?_)
    obtain ⟨rfl, hr8⟩ := hp8
    refine z_if_eq (tgt := 19) h0 dX5_deliver_11 (by decide) (fun h11 => absurd ((bI_f hr8 h11).symm.trans (answers_1 hk)) (by decide)) (fun h11 => ?_)
    refine z_aload_n h0 dX5_deliver_14 rfl ?_
    refine z_iconst (v := 1) h0 dX5_deliver_15 (by decide) ?_
    refine z_top zc1 ?_
    refine z_xVv (n := 1) (As := [_]) h0 hts hown (c_X5_needRoomFor_x hl hC hI hc (k := 1) (by decide)) gX5_deliver_X5_needRoomFor rfl (by decide +kernel) ⟨Nat.le_of_ble_eq_true rfl, Nat.le_of_ble_eq_true rfl⟩ kOk5 rfl (by assumption) dX5_deliver_16 rfl rfl (Nat.le_of_ble_eq_true rfl) ⟨Nat.le_of_ble_eq_true rfl, Nat.le_of_ble_eq_true rfl⟩ htab hlk (Nat.le_of_ble_eq_true rfl) (Nat.le_of_ble_eq_true rfl) (fun E hE => Or.inr ⟨x2 (by unfold oDeliver; rw [if_neg (fun z => z hin), e1, if_pos ⟨bI_t hr8 h11, by have := hE.2; omega⟩]), hE.1⟩) (fun S16 hp16 => ?_)
    obtain ⟨rfl, hm1⟩ := hp16
    refine z_aload_n h0 dX5_deliver_19 rfl ?_
    refine z_getI h0 fI2 lk_90 dX5_deliver_20 (by assumption) ?_
    refine z_top (mk.trans hk) ?_
    refine z_tableIn (off := 43) (tgt := 66) h0 dX5_deliver_23 (by decide) (by decide) (by decide) (by decide) ?_
    refine z_aload_n h0 dX5_deliver_66 rfl ?_
    refine z_aload_n h0 dX5_deliver_67 rfl ?_
    refine z_cVi (n := 1) (As := [_]) h0 hts hown (c_X5_takeEarn hC hI hc hi hg hk hp hto (z1 rfl) htk (by omega)) gX5_deliver_X5_takeEarn rfl (by decide +kernel) ⟨Nat.le_of_ble_eq_true rfl, Nat.le_of_ble_eq_true rfl⟩ kOk5 rfl (by assumption) dX5_deliver_68 rfl rfl (Nat.le_of_ble_eq_true rfl) ⟨Nat.le_of_ble_eq_true rfl, Nat.le_of_ble_eq_true rfl⟩ (fun r68 S68 hp68 => ?_)
    obtain ⟨⟨C2, hC2⟩, hF2, hrr⟩ := hp68
    refine z_x ?_
    exact z_zret h0 hr (by rw [hrr]; exact bI_nar _) hlk dX5_deliver_71 (Nat.le_of_ble_eq_true rfl) (Nat.le_of_ble_eq_true rfl) (by first | exact (cP_y (by unfold oDeliver; rw [if_neg (fun z => z hin), e1, if_neg (fun z => absurd ((bI_f hr8 h11).symm.trans z.1) (by decide)), mDel_1 hk e2, hrr]) hC2 hF2) | exact (cP_y (by unfold oDeliver; rw [if_neg (fun z => z hin), e1, if_neg (fun z => by have := z.2; omega), mDel_1 hk e2, hrr]) hC2 hF2))
  · obtain ⟨htk, p, hp, hto, z0, z1⟩ := hg5 (by decide)
    have e2 := ix_of hto (by omega)
    have hk : mA M 4 i = 2 := hkd
    refine z_astore_n (lo' := [_, _, _]) h0 dX5_deliver_5 (by decide) rfl rfl ?_
    refine z_aload_n h0 dX5_deliver_6 rfl ?_
    refine z_aload_n h0 dX5_deliver_7 rfl ?_
    refine z_cVi (n := 1) (As := [_]) h0 hts hown (c_X5_mayBeAnswered_2 hC hI hc hi hg hk hp hto) gX5_deliver_X5_mayBeAnswered rfl (by decide +kernel) ⟨Nat.le_of_ble_eq_true rfl, Nat.le_of_ble_eq_true rfl⟩ kOk5 rfl (by assumption) dX5_deliver_8 rfl rfl (Nat.le_of_ble_eq_true rfl) ⟨Nat.le_of_ble_eq_true rfl, Nat.le_of_ble_eq_true rfl⟩ (fun r8 S8 hp8 => ?_)
    obtain ⟨rfl, hr8⟩ := hp8
    refine z_if_eq (tgt := 19) h0 dX5_deliver_11 (by decide) (fun h11 => ?_) (fun h11 => ?_)
    · refine z_aload_n h0 dX5_deliver_19 rfl ?_
      refine z_getI h0 fI2 lk_90 dX5_deliver_20 (by assumption) ?_
      refine z_top (mk.trans hk) ?_
      refine z_tableIn (off := 49) (tgt := 72) h0 dX5_deliver_23 (by decide) (by decide) (by decide) (by decide) ?_
      refine z_aload_n h0 dX5_deliver_72 rfl ?_
      refine z_aload_n h0 dX5_deliver_73 rfl ?_
      refine z_cVi (n := 1) (As := [_]) h0 hts hown (c_X5_takeAsk hC hI hc hi hg hk hp hto (fun w => by first | omega | exact absurd ((bI_f hr8 h11).symm.trans ((answers_2 hk e2).trans w)) (by decide))) gX5_deliver_X5_takeAsk rfl (by decide +kernel) ⟨Nat.le_of_ble_eq_true rfl, Nat.le_of_ble_eq_true rfl⟩ kOk5 rfl (by assumption) dX5_deliver_74 rfl rfl (Nat.le_of_ble_eq_true rfl) ⟨Nat.le_of_ble_eq_true rfl, Nat.le_of_ble_eq_true rfl⟩ (fun r74 S74 hp74 => ?_)
      obtain ⟨⟨C2, hC2⟩, hF2, hrr⟩ := hp74
      refine z_x ?_
      exact z_zret h0 hr (by rw [hrr]; exact bI_nar _) hlk dX5_deliver_77 (Nat.le_of_ble_eq_true rfl) (Nat.le_of_ble_eq_true rfl) (by first | exact (cP_y (by unfold oDeliver; rw [if_neg (fun z => z hin), e1, if_neg (fun z => absurd ((bI_f hr8 h11).symm.trans z.1) (by decide)), mDel_2 hk e2, hrr]) hC2 hF2) | exact (cP_y (by unfold oDeliver; rw [if_neg (fun z => z hin), e1, if_neg (fun z => by have := z.2; omega), mDel_2 hk e2, hrr]) hC2 hF2))
    · refine z_aload_n h0 dX5_deliver_14 rfl ?_
      refine z_iconst (v := 1) h0 dX5_deliver_15 (by decide) ?_
      refine z_top zc1 ?_
      refine z_xVv (n := 1) (As := [_]) h0 hts hown (c_X5_needRoomFor_x hl hC hI hc (k := 1) (by decide)) gX5_deliver_X5_needRoomFor rfl (by decide +kernel) ⟨Nat.le_of_ble_eq_true rfl, Nat.le_of_ble_eq_true rfl⟩ kOk5 rfl (by assumption) dX5_deliver_16 rfl rfl (Nat.le_of_ble_eq_true rfl) ⟨Nat.le_of_ble_eq_true rfl, Nat.le_of_ble_eq_true rfl⟩ htab hlk (Nat.le_of_ble_eq_true rfl) (Nat.le_of_ble_eq_true rfl) (fun E hE => Or.inr ⟨x2 (by unfold oDeliver; rw [if_neg (fun z => z hin), e1, if_pos ⟨bI_t hr8 h11, by have := hE.2; omega⟩]), hE.1⟩) (fun S16 hp16 => ?_)
      obtain ⟨rfl, hm1⟩ := hp16
      refine z_aload_n h0 dX5_deliver_19 rfl ?_
      refine z_getI h0 fI2 lk_90 dX5_deliver_20 (by assumption) ?_
      refine z_top (mk.trans hk) ?_
      refine z_tableIn (off := 49) (tgt := 72) h0 dX5_deliver_23 (by decide) (by decide) (by decide) (by decide) ?_
      refine z_aload_n h0 dX5_deliver_72 rfl ?_
      refine z_aload_n h0 dX5_deliver_73 rfl ?_
      refine z_cVi (n := 1) (As := [_]) h0 hts hown (c_X5_takeAsk hC hI hc hi hg hk hp hto (fun w => by first | omega | exact absurd ((bI_f hr8 h11).symm.trans ((answers_2 hk e2).trans w)) (by decide))) gX5_deliver_X5_takeAsk rfl (by decide +kernel) ⟨Nat.le_of_ble_eq_true rfl, Nat.le_of_ble_eq_true rfl⟩ kOk5 rfl (by assumption) dX5_deliver_74 rfl rfl (Nat.le_of_ble_eq_true rfl) ⟨Nat.le_of_ble_eq_true rfl, Nat.le_of_ble_eq_true rfl⟩ (fun r74 S74 hp74 => ?_)
      obtain ⟨⟨C2, hC2⟩, hF2, hrr⟩ := hp74
      refine z_x ?_
      exact z_zret h0 hr (by rw [hrr]; exact bI_nar _) hlk dX5_deliver_77 (Nat.le_of_ble_eq_true rfl) (Nat.le_of_ble_eq_true rfl) (by first | exact (cP_y (by unfold oDeliver; rw [if_neg (fun z => z hin), e1, if_neg (fun z => absurd ((bI_f hr8 h11).symm.trans z.1) (by decide)), mDel_2 hk e2, hrr]) hC2 hF2) | exact (cP_y (by unfold oDeliver; rw [if_neg (fun z => z hin), e1, if_neg (fun z => by have := z.2; omega), mDel_2 hk e2, hrr]) hC2 hF2))
  · obtain ⟨htk, p, hp, hto, z0, z1⟩ := hg5 (by decide)
    have e2 := ix_of hto (by omega)
    have hk : mA M 4 i = 3 := hkd
    refine z_astore_n (lo' := [_, _, _]) h0 dX5_deliver_5 (by decide) rfl rfl ?_
    refine z_aload_n h0 dX5_deliver_6 rfl ?_
    refine z_aload_n h0 dX5_deliver_7 rfl ?_
    refine z_cVi (n := 1) (As := [_]) h0 hts hown (c_X5_mayBeAnswered_3 hC hI hc hi hg hk hp hto) gX5_deliver_X5_mayBeAnswered rfl (by decide +kernel) ⟨Nat.le_of_ble_eq_true rfl, Nat.le_of_ble_eq_true rfl⟩ kOk5 rfl (by assumption) dX5_deliver_8 rfl rfl (Nat.le_of_ble_eq_true rfl) ⟨Nat.le_of_ble_eq_true rfl, Nat.le_of_ble_eq_true rfl⟩ (fun r8 S8 hp8 => ?_)
    obtain ⟨rfl, hr8⟩ := hp8
    refine z_if_eq (tgt := 19) h0 dX5_deliver_11 (by decide) (fun h11 => ?_) (fun h11 => ?_)
    · refine z_aload_n h0 dX5_deliver_19 rfl ?_
      refine z_getI h0 fI2 lk_90 dX5_deliver_20 (by assumption) ?_
      refine z_top (mk.trans hk) ?_
      refine z_tableIn (off := 55) (tgt := 78) h0 dX5_deliver_23 (by decide) (by decide) (by decide) (by decide) ?_
      refine z_aload_n h0 dX5_deliver_78 rfl ?_
      refine z_aload_n h0 dX5_deliver_79 rfl ?_
      refine z_cVi (n := 1) (As := [_]) h0 hts hown (c_X5_takeValue hC hI hc hi hg hk hp hto (fun w => by first | omega | exact absurd ((bI_f hr8 h11).symm.trans ((answers_3 hk e2).trans w)) (by decide))) gX5_deliver_X5_takeValue rfl (by decide +kernel) ⟨Nat.le_of_ble_eq_true rfl, Nat.le_of_ble_eq_true rfl⟩ kOk5 rfl (by assumption) dX5_deliver_80 rfl rfl (Nat.le_of_ble_eq_true rfl) ⟨Nat.le_of_ble_eq_true rfl, Nat.le_of_ble_eq_true rfl⟩ (fun r80 S80 hp80 => ?_)
      obtain ⟨⟨C2, hC2⟩, hF2, hrr⟩ := hp80
      refine z_x ?_
      exact z_zret h0 hr (by rw [hrr]; exact bI_nar _) hlk dX5_deliver_83 (Nat.le_of_ble_eq_true rfl) (Nat.le_of_ble_eq_true rfl) (by first | exact (cP_y (by unfold oDeliver; rw [if_neg (fun z => z hin), e1, if_neg (fun z => absurd ((bI_f hr8 h11).symm.trans z.1) (by decide)), mDel_3 hk e2, hrr]) hC2 hF2) | exact (cP_y (by unfold oDeliver; rw [if_neg (fun z => z hin), e1, if_neg (fun z => by have := z.2; omega), mDel_3 hk e2, hrr]) hC2 hF2))
    · refine z_aload_n h0 dX5_deliver_14 rfl ?_
      refine z_iconst (v := 1) h0 dX5_deliver_15 (by decide) ?_
      refine z_top zc1 ?_
      refine z_xVv (n := 1) (As := [_]) h0 hts hown (c_X5_needRoomFor_x hl hC hI hc (k := 1) (by decide)) gX5_deliver_X5_needRoomFor rfl (by decide +kernel) ⟨Nat.le_of_ble_eq_true rfl, Nat.le_of_ble_eq_true rfl⟩ kOk5 rfl (by assumption) dX5_deliver_16 rfl rfl (Nat.le_of_ble_eq_true rfl) ⟨Nat.le_of_ble_eq_true rfl, Nat.le_of_ble_eq_true rfl⟩ htab hlk (Nat.le_of_ble_eq_true rfl) (Nat.le_of_ble_eq_true rfl) (fun E hE => Or.inr ⟨x2 (by unfold oDeliver; rw [if_neg (fun z => z hin), e1, if_pos ⟨bI_t hr8 h11, by have := hE.2; omega⟩]), hE.1⟩) (fun S16 hp16 => ?_)
      obtain ⟨rfl, hm1⟩ := hp16
      refine z_aload_n h0 dX5_deliver_19 rfl ?_
      refine z_getI h0 fI2 lk_90 dX5_deliver_20 (by assumption) ?_
      refine z_top (mk.trans hk) ?_
      refine z_tableIn (off := 55) (tgt := 78) h0 dX5_deliver_23 (by decide) (by decide) (by decide) (by decide) ?_
      refine z_aload_n h0 dX5_deliver_78 rfl ?_
      refine z_aload_n h0 dX5_deliver_79 rfl ?_
      refine z_cVi (n := 1) (As := [_]) h0 hts hown (c_X5_takeValue hC hI hc hi hg hk hp hto (fun w => by first | omega | exact absurd ((bI_f hr8 h11).symm.trans ((answers_3 hk e2).trans w)) (by decide))) gX5_deliver_X5_takeValue rfl (by decide +kernel) ⟨Nat.le_of_ble_eq_true rfl, Nat.le_of_ble_eq_true rfl⟩ kOk5 rfl (by assumption) dX5_deliver_80 rfl rfl (Nat.le_of_ble_eq_true rfl) ⟨Nat.le_of_ble_eq_true rfl, Nat.le_of_ble_eq_true rfl⟩ (fun r80 S80 hp80 => ?_)
      obtain ⟨⟨C2, hC2⟩, hF2, hrr⟩ := hp80
      refine z_x ?_
      exact z_zret h0 hr (by rw [hrr]; exact bI_nar _) hlk dX5_deliver_83 (Nat.le_of_ble_eq_true rfl) (Nat.le_of_ble_eq_true rfl) (by first | exact (cP_y (by unfold oDeliver; rw [if_neg (fun z => z hin), e1, if_neg (fun z => absurd ((bI_f hr8 h11).symm.trans z.1) (by decide)), mDel_3 hk e2, hrr]) hC2 hF2) | exact (cP_y (by unfold oDeliver; rw [if_neg (fun z => z hin), e1, if_neg (fun z => by have := z.2; omega), mDel_3 hk e2, hrr]) hC2 hF2))
  · obtain ⟨htk, p, hp, hto, z0, z1⟩ := hg5 (by decide)
    have e2 := ix_of hto (by omega)
    have hk : mA M 4 i = 4 := hkd
    refine z_astore_n (lo' := [_, _, _]) h0 dX5_deliver_5 (by decide) rfl rfl ?_
    refine z_aload_n h0 dX5_deliver_6 rfl ?_
    refine z_aload_n h0 dX5_deliver_7 rfl ?_
    refine z_cVi (n := 1) (As := [_]) h0 hts hown (c_X5_mayBeAnswered_4 hC hI hc hi hg hk hp hto) gX5_deliver_X5_mayBeAnswered rfl (by decide +kernel) ⟨Nat.le_of_ble_eq_true rfl, Nat.le_of_ble_eq_true rfl⟩ kOk5 rfl (by assumption) dX5_deliver_8 rfl rfl (Nat.le_of_ble_eq_true rfl) ⟨Nat.le_of_ble_eq_true rfl, Nat.le_of_ble_eq_true rfl⟩ (fun r8 S8 hp8 => ?_)
    obtain ⟨rfl, hr8⟩ := hp8
    refine z_if_eq (tgt := 19) h0 dX5_deliver_11 (by decide) (fun h11 => ?_) (fun h11 => absurd ((answers_0 (by rw [hk]; decide) (by rw [hk]; decide) (by rw [hk]; decide)).symm.trans (bI_t hr8 h11)) (by decide))
    refine z_aload_n h0 dX5_deliver_19 rfl ?_
    refine z_getI h0 fI2 lk_90 dX5_deliver_20 (by assumption) ?_
    refine z_top (mk.trans hk) ?_
    refine z_tableIn (off := 61) (tgt := 84) h0 dX5_deliver_23 (by decide) (by decide) (by decide) (by decide) ?_
    refine z_aload_n h0 dX5_deliver_84 rfl ?_
    refine z_aload_n h0 dX5_deliver_85 rfl ?_
    refine z_cVi (n := 1) (As := [_]) h0 hts hown (c_X5_takeThanks hC hI hc hi hg hk hp hto) gX5_deliver_X5_takeThanks rfl (by decide +kernel) ⟨Nat.le_of_ble_eq_true rfl, Nat.le_of_ble_eq_true rfl⟩ kOk5 rfl (by assumption) dX5_deliver_86 rfl rfl (Nat.le_of_ble_eq_true rfl) ⟨Nat.le_of_ble_eq_true rfl, Nat.le_of_ble_eq_true rfl⟩ (fun r86 S86 hp86 => ?_)
    obtain ⟨⟨C2, hC2⟩, hF2, hrr⟩ := hp86
    refine z_x ?_
    exact z_zret h0 hr (by rw [hrr]; exact bI_nar _) hlk dX5_deliver_89 (Nat.le_of_ble_eq_true rfl) (Nat.le_of_ble_eq_true rfl) (by first | exact (cP_y (by unfold oDeliver; rw [if_neg (fun z => z hin), e1, if_neg (fun z => absurd ((bI_f hr8 h11).symm.trans z.1) (by decide)), mDel_4 hk e2, hrr]) hC2 hF2) | exact (cP_y (by unfold oDeliver; rw [if_neg (fun z => z hin), e1, if_neg (fun z => by have := z.2; omega), mDel_4 hk e2, hrr]) hC2 hF2))
  · have hr5 := hgr rfl
    have hk : mA M 4 i = 5 := hkd
    refine z_astore_n (lo' := [_, _, _]) h0 dX5_deliver_5 (by decide) rfl rfl ?_
    refine z_aload_n h0 dX5_deliver_6 rfl ?_
    refine z_aload_n h0 dX5_deliver_7 rfl ?_
    refine z_cVi (n := 1) (As := [_]) h0 hts hown (c_X5_mayBeAnswered_5 hC hI hc hi hg hk) gX5_deliver_X5_mayBeAnswered rfl (by decide +kernel) ⟨Nat.le_of_ble_eq_true rfl, Nat.le_of_ble_eq_true rfl⟩ kOk5 rfl (by assumption) dX5_deliver_8 rfl rfl (Nat.le_of_ble_eq_true rfl) ⟨Nat.le_of_ble_eq_true rfl, Nat.le_of_ble_eq_true rfl⟩ (fun r8 S8 hp8 => ?_)
    obtain ⟨rfl, hr8⟩ := hp8
    refine z_if_eq (tgt := 19) h0 dX5_deliver_11 (by decide) (fun h11 => ?_) (fun h11 => absurd ((answers_0 (by rw [hk]; decide) (by rw [hk]; decide) (by rw [hk]; decide)).symm.trans (bI_t hr8 h11)) (by decide))
    refine z_aload_n h0 dX5_deliver_19 rfl ?_
    refine z_getI h0 fI2 lk_90 dX5_deliver_20 (by assumption) ?_
    refine z_top (mk.trans hk) ?_
    refine z_tableIn (off := 67) (tgt := 90) h0 dX5_deliver_23 (by decide) (by decide) (by decide) (by decide) ?_
    refine z_aload_n h0 dX5_deliver_90 rfl ?_
    refine z_getO h0 fO9 lk_31 dX5_deliver_91 (by assumption) (by assumption) ?_
    refine z_aload_n h0 dX5_deliver_94 rfl ?_
    refine z_getI h0 fI4 lk_110 dX5_deliver_95 (by assumption) ?_
    refine z_top (hmr.2.2.2.2.1 hk) ?_
    refine z_aload_n h0 dX5_deliver_98 rfl ?_
    refine z_getO h0 fO2 lk_113 dX5_deliver_99 (by assumption) (by assumption) ?_
    refine z_cVi (n := 2) (As := [_, _]) h0 hts hown (c_X0_takeRecord har harr hA2 (RC_en hC) t4 (by omega)) gX5_deliver_X0_takeRecord rfl (by decide +kernel) ⟨Nat.le_of_ble_eq_true rfl, Nat.le_of_ble_eq_true rfl⟩ kOk0 rfl (by assumption) dX5_deliver_102 rfl rfl (Nat.le_of_ble_eq_true rfl) ⟨Nat.le_of_ble_eq_true rfl, Nat.le_of_ble_eq_true rfl⟩ (fun r102 S102 hp102 => ?_)
    refine z_G0 h0 (fun hG => ?_)
    obtain ⟨⟨C2, hC2⟩, hF2, hrr⟩ := rec_sum hC hI hi hk t4 mtr hp102 hG
    refine z_x ?_
    exact z_zret h0 hr (by rw [hrr]; exact bI_nar _) hlk dX5_deliver_105 (Nat.le_of_ble_eq_true rfl) (Nat.le_of_ble_eq_true rfl) (by first | exact (cP_y (by unfold oDeliver; rw [if_neg (fun z => z hin), e1, if_neg (fun z => absurd ((bI_f hr8 h11).symm.trans z.1) (by decide)), mDel_5 hk, hrr]) hC2 hF2) | exact (cP_y (by unfold oDeliver; rw [if_neg (fun z => z hin), e1, if_neg (fun z => by have := z.2; omega), mDel_5 hk, hrr]) hC2 hF2))
  · obtain ⟨⟨p, hp, hto⟩, k, hkk, hof⟩ := hcl rfl
    have e2 := ix_of hto (by omega)
    have e3 := ix_of hof (by omega)
    have hk : mA M 4 i = 6 := hkd
    refine z_astore_n (lo' := [_, _, _]) h0 dX5_deliver_5 (by decide) rfl rfl ?_
    refine z_aload_n h0 dX5_deliver_6 rfl ?_
    refine z_aload_n h0 dX5_deliver_7 rfl ?_
    refine z_cVi (n := 1) (As := [_]) h0 hts hown (c_X5_mayBeAnswered_6 hC hI hc hi hg hk hp hto) gX5_deliver_X5_mayBeAnswered rfl (by decide +kernel) ⟨Nat.le_of_ble_eq_true rfl, Nat.le_of_ble_eq_true rfl⟩ kOk5 rfl (by assumption) dX5_deliver_8 rfl rfl (Nat.le_of_ble_eq_true rfl) ⟨Nat.le_of_ble_eq_true rfl, Nat.le_of_ble_eq_true rfl⟩ (fun r8 S8 hp8 => ?_)
    obtain ⟨rfl, hr8⟩ := hp8
    refine z_if_eq (tgt := 19) h0 dX5_deliver_11 (by decide) (fun h11 => ?_) (fun h11 => absurd ((answers_0 (by rw [hk]; decide) (by rw [hk]; decide) (by rw [hk]; decide)).symm.trans (bI_t hr8 h11)) (by decide))
    refine z_aload_n h0 dX5_deliver_19 rfl ?_
    refine z_getI h0 fI2 lk_90 dX5_deliver_20 (by assumption) ?_
    refine z_top (mk.trans hk) ?_
    refine z_tableOut (tgt := 106) h0 dX5_deliver_23 (by decide) (by decide) ?_
    refine z_aload_n h0 dX5_deliver_106 rfl ?_
    refine z_aload_n h0 dX5_deliver_107 rfl ?_
    refine z_cVi (n := 1) (As := [_]) h0 hts hown (c_X5_takeClear hC hI hc hi hg hk hp hto hkk hof) gX5_deliver_X5_takeClear rfl (by decide +kernel) ⟨Nat.le_of_ble_eq_true rfl, Nat.le_of_ble_eq_true rfl⟩ kOk5 rfl (by assumption) dX5_deliver_108 rfl rfl (Nat.le_of_ble_eq_true rfl) ⟨Nat.le_of_ble_eq_true rfl, Nat.le_of_ble_eq_true rfl⟩ (fun r108 S108 hp108 => ?_)
    obtain ⟨⟨C2, hC2⟩, hF2, hrr⟩ := hp108
    refine z_x ?_
    exact z_zret h0 hr (by rw [hrr]; exact bI_nar _) hlk dX5_deliver_111 (Nat.le_of_ble_eq_true rfl) (Nat.le_of_ble_eq_true rfl) (by first | exact (cP_y (by unfold oDeliver; rw [if_neg (fun z => z hin), e1, if_neg (fun z => absurd ((bI_f hr8 h11).symm.trans z.1) (by decide)), mDel_6 hk e2 e3, hrr]) hC2 hF2) | exact (cP_y (by unfold oDeliver; rw [if_neg (fun z => z hin), e1, if_neg (fun z => by have := z.2; omega), mDel_6 hk e2 e3, hrr]) hC2 hF2))

end CLS6
