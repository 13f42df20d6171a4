/-! THE CLASS: the calls that change it, II. -/
section CLS8

abbrev rm_X5_readLog : Room := { frames := 7, cells := 20, slots := 9000, locals := 191 }
set_option maxRecDepth 100000 in
set_option maxHeartbeats 4000000 in
theorem c_X5_readLog {l : Launch} {D : va_G} {cI cZ cO : ClassId} {G : Nat → Nat} {S : PS} (hl : l.stackTraces = false) {x n0 ar : Nat} {L : Nat → Nat} {C : Nat → List Nat} {M : MS} (hC : RC G S x n0 ar L C M) {c : Nat} (hI : MI c M) (hc : c < 512) {y : Int32} : zXi l yX5_readLog wsX5_readLog rm_X5_readLog [.ref x, .int y] D cI cZ cO G S (fun r S' => cP G S x (oReadLog M y) r S') (xBSU (oReadLog M y)) := by
  have hx5 := hC.1.1
  have hxn := hC.1.2.1
  have hxo := hC.1.2.2.1
  have hxs := hC.1.2.2.2.1
  have hxa := hC.1.2.2.2.2
  have har := hC.2.2.1.1
  have harr := hC.2.2.1.2
  have hA0 := hC.2.2.2.1.1 0 (by omega)
  have hA1 := hC.2.2.2.1.1 1 (by omega)
  have hA2 := hC.2.2.2.1.1 2 (by omega)
  have h70 := hA0.1
  have h71 := hA1.1
  have h72 := hA2.1
  have hl0 := hC.2.2.2.2.1.1
  have hl1 := hC.2.2.2.2.1.2.1
  have hl2 := hC.2.2.2.2.1.2.2
  have hs0 : pI S 20 (L 0) = nI (mP M) := by rw [← hl0]; exact hA0.2.1
  have hs1 : pI S 20 (L 1) = nI (mM M) := by rw [← hl1]; exact hA1.2.1
  have hs2 : pI S 20 (L 2) = nI (mE M) := by rw [← hl2]; exact hA2.2.1
  have := MI_p hI; have := MI_m hI; have := MI_e hI
  refine z_ofX (cc := cX5_readLog) (maxL := 5) (ret := (some .int)) (lo := [some (.ref x), some (.int y), none, none, none]) (by decide) rfl rfl (Nat.le_of_ble_eq_true rfl) rfl ?_
  intro pp ee ss mi aa bl mh cd h0 hts hown hr hlk hnm htab
  have hown : ss.vm.findClass RX5 = some mi.cls := hown
  have inX3 : ∀ w ∈ u_ws RX3 TX3 7, w ∈ wsX5_readLog := by decide +kernel
  have inX5 : ∀ w ∈ u_ws RX5 TX5 4, w ∈ wsX5_readLog := by decide +kernel
  have lk_25 : zLk ss mi aa RX5 25 6 2 := ⟨RX5, TX5, 4, "PurseWorld", wsX5_readLog, rfl, by decide, hts, inX5, hown, hts (.fieldLink RX5 25 "PurseWorld" "sent" "Ljava/util/ArrayList;") (by decide +kernel), fun _ h => h⟩
  have lk_123 : zLk ss mi aa RX5 123 4 5 := ⟨RX3, TX3, 7, "PurseWorld$Purse", wsX5_readLog, rfl, by decide, hts, inX3, hown, hts (.fieldLink RX5 123 "PurseWorld$Purse" "state" "I") (by decide +kernel), fun _ h => h⟩
  have lk_134 : zLk ss mi aa RX5 134 4 2 := ⟨RX3, TX3, 7, "PurseWorld$Purse", wsX5_readLog, rfl, by decide, hts, inX3, hown, hts (.fieldLink RX5 134 "PurseWorld$Purse" "kept" "Ljava/util/ArrayList;") (by decide +kernel), fun _ h => h⟩
  have loop : ∀ (n j a r cs sl : Nat) (S1 : PS) (C1 : Nat → List Nat) (z4 : Option Value), y = nI a → a < mP M → mA M 2 a = 0 → mM M + lnN M a ≤ 800 → (C 0)[a]? = some r → cs ≤ 3 + 2 * j → sl ≤ 18 + 1505 * j → lnN M a - j < n → j ≤ lnN M a → RC G S1 x n0 ar L C1 (mRead M a j) → (∀ i, i ≠ 1 → C1 i = C i) → KF S S1 → ZW pp l ee rm_X5_readLog ss mi aa bl mh cd D cI cZ cO (zA cI cZ cO S ss.heap.size) (vx_MQ bl (zQi D cI cZ cO S (fun r S' => cP G S x (oReadLog M y) r S') ss.heap.size) (zX D cI cZ cO S (xBSU (oReadLog M y)) ss.heap.size) aa ss rm_X5_readLog.cells rm_X5_readLog.slots (zA cI cZ cO S ss.heap.size)) [] 5 S1 cs sl 39 [some (.ref x), some (.int y), some (.ref r), some (.int (nI (lnN M a))), some (.int (nI j))] [] := by
    intro n
    induction n with
    | zero => intro j a r cs sl S1 C1 z4 _ _ _ _ _ _ _ h; exact absurd h (Nat.not_lt_zero _)
    | succ n ih =>
      intro j a r cs sl S1 C1 z4 hya ha hst hmm hpa0 hcs hsl hm hj hC1 hCC hF1
      subst hya
      have hln := RC_len hC hI hpa0
      have hMr := mRead_M M a j
      have hI1 := MIb_read hI ha j hj hmm
      have hpa : (C1 0)[a]? = some r := by rw [hCC 0 (by decide)]; exact hpa0
      have hpr := hC1.2.2.2.2.2.1 a r hpa
      have k3 := hpr.1
      have pkept := hpr.2.2.2.1
      have plog := hpr.2.2.2.2.2.2.2.2.2
      have hAk := hC1.2.2.2.1.1 (a + 3) (by omega)
      have hx51 := hC1.1.1
      have hxs1 := hC1.1.2.2.2.1
      have hAs := hC1.2.2.2.1.1 1 (by omega)
      have hl11 := hC1.2.2.2.2.1.2.1
      have hck : C1 (a + 3) = C (a + 3) := hCC _ (by omega)
      refine z_iload h0 dX5_readLog_39 rfl ?_
      refine z_iload_n h0 dX5_readLog_41 rfl ?_
      refine z_icmp_ge (tgt := 82) h0 dX5_readLog_42 (by decide) (fun h42 => ?_) (fun h42 => ?_)
      · refine z_iload_n h0 dX5_readLog_82 rfl ?_
        refine z_x ?_
        exact z_iret h0 hr hlk dX5_readLog_83 (by show cs ≤ 20; omega) (by show sl ≤ 9000; omega) (by have hje : j = lnN M a := Nat.le_antisymm hj (nI_geof h42 (by omega) (by omega)); subst hje; exact cP_y (by unfold oReadLog; rw [if_neg (fun z => z (inR_of ha (by omega))), ix_of (x := nI a) rfl (by omega), if_neg (fun z => z hst), if_neg (by omega), (MI_ln hI ha).1]) hC1 hF1)
      · have hlt : j < lnN M a := nI_ltof h42 (by omega)
        obtain ⟨t, ht⟩ := get_lt (xs := C1 (a + 3)) (i := j) (by rw [hck]; omega)
        have ht4 := plog j t ht
        refine z_aload_n h0 dX5_readLog_45 rfl ?_
        refine z_getO h0 fO8 lk_25 dX5_readLog_46 hx51 hxs1 ?_
        refine z_new h0 nOk2 hts (by decide +kernel) tyX2 tyX2_ok hown (hts (.classLink RX5 91 RX2) (by decide +kernel)) (hts (.instantiable RX2 5) (by decide +kernel)) (hts (.initialized RX2) (by decide +kernel)) rfl (fun j hj => by rcases (show j = 0 ∨ j = 1 ∨ j = 2 ∨ j = 3 ∨ j = 4 by omega) with rfl | rfl | rfl | rfl | rfl <;> rfl) (by show cs + 1 ≤ 20; omega) (by show sl + 5 ≤ 9000; omega) dX5_readLog_49 (fun q49 hq49 => ?_)
        refine z_dup h0 dX5_readLog_52 rfl ?_
        refine z_iconst (v := 5) h0 dX5_readLog_53 (by decide) ?_
        refine z_iconst (v := -1) h0 dX5_readLog_54 (by decide) ?_
        refine z_aload_n h0 dX5_readLog_55 rfl ?_
        refine z_getO h0 fO4 lk_134 dX5_readLog_56 (isK_old (k := 2) (n := 0) k3 hq49) ((upA_a _ _ _ (isK_ne k3 hq49)).trans pkept) ?_
        refine z_iload h0 dX5_readLog_59 rfl ?_
        refine z_cVr (n := 1) (As := [_]) h0 hts hown (c_Jx4a65c_get_915e3 (S := sN S1 q49 2 0) (j := j) (AL_new hAk hq49) (nI_toInt (by omega)) ht) gX5_readLog_Jx4a65c_get_915e3 rfl (by decide +kernel) ⟨Nat.le_of_ble_eq_true rfl, Nat.le_of_ble_eq_true rfl⟩ kOk7 rfl (AL_new (k := 2) (n := 0) hAk hq49).1 dX5_readLog_61 rfl rfl (Nat.le_of_ble_eq_true rfl) ⟨by show cs + 1 + 0 ≤ 20; omega, by show sl + 5 + 0 ≤ 9000; omega⟩ (fun r61 S61 hp61 => ?_)
        obtain ⟨rfl, rfl⟩ := hp61
        refine z_cast h0 hown (hts (.classLink RX5 7 "PurseWorld$Transfer") (by decide +kernel)) kOk4 rfl (isK_old (k := 2) (n := 0) ht4.1 hq49) dX5_readLog_64 ?_
        refine z_iload_n h0 dX5_readLog_67 rfl ?_
        refine z_iconst (v := 0) h0 dX5_readLog_68 (by decide) ?_
        refine z_cIv (n := 5) (As := [_, _, _, _, _]) h0 hts hown (c_X2_init (isK_new (S := S1) (q := q49) (k := 2) (n := 0))) gX5_readLog_X2_init rfl (by decide +kernel) ⟨Nat.le_of_ble_eq_true rfl, Nat.le_of_ble_eq_true rfl⟩ (hts (.initialized RX2) (by decide +kernel)) (hts (.methodLink RX5 141 yX2_init) (by decide +kernel)) (hts (.instanceMethod yX2_init) (by decide +kernel)) rfl dX5_readLog_69 rfl rfl (Nat.le_of_ble_eq_true rfl) ⟨by show cs + 1 + 0 + 0 ≤ 20; omega, by show sl + 5 + 0 + 0 ≤ 9000; omega⟩ (fun S69 hp69 => ?_)
        subst hp69
        refine z_G0 h0 (fun hG => ?_)
        have hL := LS_msg (k := 5) (to := -1) (t := r61) (x3 := nI a) (x4 := 0) hC1.2.2.2.1 hq49
        refine z_cVi (n := 1) (As := [_]) h0 hts hown (c_Jx4a65c_add_9ea2d (S := mkMsg S1 q49 5 (-1) r61 (nI a) 0) (hL.1 1 (by omega)) (by omega) ⟨2, by simp, isK_new (S := S1) (q := q49) (k := 2) (n := 0)⟩) gX5_readLog_Jx4a65c_add_9ea2d rfl (by decide +kernel) ⟨Nat.le_of_ble_eq_true rfl, Nat.le_of_ble_eq_true rfl⟩ kOk7 rfl (hL.1 1 (by omega)).1 dX5_readLog_72 rfl rfl (Nat.le_of_ble_eq_true rfl) ⟨by show cs + 1 + 0 + 0 + 1 ≤ 20; omega, by show sl + 5 + 0 + 0 + 1500 ≤ 9000; omega⟩ (fun r72 S72 hp72 => ?_)
        obtain ⟨hp72, -⟩ := hp72
        have hCs : RC G S1 x n0 ar L C1 (sA (mRead M a j) 6 (mM (mRead M a j)) (nI a)) := RC_slot hC1 hI1 (by omega) rfl rfl rfl (fun f i hf => by by_cases h6 : f = 6; exact mA_a (hf h6); exact mA_f h6) (fun _ _ => rfl)
        have hIs : MIb (2 * c + 1) c (sA (mRead M a j) 6 (mM (mRead M a j)) (nI a)) := MIb_slot6 hI1 _
        obtain ⟨hC2, hF2⟩ := RC_msg hCs hIs (show mM (mRead M a j) < 800 by omega) (r := 12 + 5 * a + j) hq49 hG hp72 ht4.1 ht4.2 (fun _ => mA_s.symm) (fun w => absurd w (by decide))
        refine z_pop h0 dX5_readLog_75 rfl ?_
        refine z_iinc (lo' := [_, _, _, _, _]) (v := nI (j + 1)) h0 dX5_readLog_76 rfl (nI_1 j) (by decide) rfl rfl ?_
        refine z_goto (tgt := 39) h0 dX5_readLog_79 (by decide) ?_
        exact ih (j + 1) a r _ _ S72 _ none rfl ha hst hmm hpa0 (by show cs + 1 + 0 + 0 + 1 ≤ _; omega) (by show sl + 5 + 0 + 0 + 1500 ≤ _; omega) (by omega) (by omega) hC2 (fun i hi => (va_up_ne _ _ hi).trans (hCC i hi)) (KF_trans hF1 hF2)
  refine z_aload_n h0 dX5_readLog_0 rfl ?_
  refine z_iload_n h0 dX5_readLog_1 rfl ?_
  refine z_xVr (n := 1) (As := [_]) h0 hts hown (c_X5_purseAt_x hl hC hI hc) gX5_readLog_X5_purseAt rfl (by decide +kernel) ⟨Nat.le_of_ble_eq_true rfl, Nat.le_of_ble_eq_true rfl⟩ kOk5 rfl (by assumption) dX5_readLog_2 rfl rfl (Nat.le_of_ble_eq_true rfl) ⟨Nat.le_of_ble_eq_true rfl, Nat.le_of_ble_eq_true rfl⟩ htab hlk (Nat.le_of_ble_eq_true rfl) (Nat.le_of_ble_eq_true rfl) (fun E hE => Or.inl ⟨x1 (by unfold oReadLog; rw [if_pos hE.2]), hE.1⟩) (fun r2 S2 hp2 => ?_)
  obtain ⟨rfl, a, ha, rfl, hpa⟩ := hp2
  have hin := inR_of ha (by omega)
  have e1 := ix_of (x := nI a) rfl (by omega)
  have hpr := hC.2.2.2.2.2.1 a _ hpa
  have k3 := hpr.1
  have pnum := hpr.2.1
  have pnot := hpr.2.2.1
  have pkept := hpr.2.2.2.1
  have pbal := hpr.2.2.2.2.1
  have pser := hpr.2.2.2.2.2.1
  have pst := hpr.2.2.2.2.2.2.1
  have pln := hpr.2.2.2.2.2.2.2.1
  obtain ⟨cu, pcu, cu4, cu0, cuT⟩ := hpr.2.2.2.2.2.2.2.2.1
  have plog := hpr.2.2.2.2.2.2.2.2.2
  have hAk := hC.2.2.2.1.1 (a + 3) (by omega)
  have h7k := hAk.1
  have hsk := hAk.2.1
  refine z_astore_n (lo' := [_, _, _, _, _]) h0 dX5_readLog_5 (by decide) rfl rfl ?_
  refine z_aload_n h0 dX5_readLog_6 rfl ?_
  refine z_getI h0 fI9 lk_123 dX5_readLog_7 (by assumption) ?_
  refine z_top pst ?_
  refine z_if_eq (tgt := 23) h0 dX5_readLog_10 (by decide) (fun h10 => ?_) (fun h10 => ?_)
  · refine z_aload_n h0 dX5_readLog_23 rfl ?_
    refine z_getO h0 fO4 lk_134 dX5_readLog_24 (by assumption) (by assumption) ?_
    refine z_cVi (n := 0) (As := []) h0 hts hown (c_Jx4a65c_size_8abf5 h7k) gX5_readLog_Jx4a65c_size_8abf5 rfl (by decide +kernel) ⟨Nat.le_of_ble_eq_true rfl, Nat.le_of_ble_eq_true rfl⟩ kOk7 rfl (by assumption) dX5_readLog_27 rfl rfl (Nat.le_of_ble_eq_true rfl) ⟨Nat.le_of_ble_eq_true rfl, Nat.le_of_ble_eq_true rfl⟩ (fun r27 S27 hp27 => ?_)
    obtain ⟨rfl, hr27⟩ := hp27
    have hln := RC_len hC hI hpa
    rw [hsk, hln.1] at hr27
    subst hr27
    refine z_istore_n (lo' := [_, _, _, _, _]) h0 dX5_readLog_30 (by decide) rfl rfl ?_
    refine z_aload_n h0 dX5_readLog_31 rfl ?_
    refine z_iload_n h0 dX5_readLog_32 rfl ?_
    refine z_xVv (n := 1) (As := [_]) h0 hts hown (c_X5_needRoomFor_x hl hC hI hc (k := lnN M a) (by omega)) gX5_readLog_X5_needRoomFor rfl (by decide +kernel) ⟨Nat.le_of_ble_eq_true rfl, Nat.le_of_ble_eq_true rfl⟩ kOk5 rfl (by assumption) dX5_readLog_33 rfl rfl (Nat.le_of_ble_eq_true rfl) ⟨Nat.le_of_ble_eq_true rfl, Nat.le_of_ble_eq_true rfl⟩ htab hlk (Nat.le_of_ble_eq_true rfl) (Nat.le_of_ble_eq_true rfl) (fun E hE => Or.inr (Or.inr ⟨x3 (by unfold oReadLog; rw [if_neg (fun z => z hin), e1, if_neg (fun z => z h10), if_pos hE.2]), hE.1⟩)) (fun S33 hp33 => ?_)
    obtain ⟨rfl, hmm⟩ := hp33
    refine z_iconst (v := 0) h0 dX5_readLog_36 (by decide) ?_
    refine z_istore (lo' := [_, _, _, _, _]) h0 dX5_readLog_37 (by decide) rfl rfl ?_
    exact loop (lnN M a + 1) 0 a r2 _ _ S C none rfl ha h10 hmm hpa (by show _ ≤ 3; decide) (by show _ ≤ 18; decide) (by omega) (Nat.zero_le _) hC (fun _ _ => rfl) (KF_refl S)
  · exact z_throw h0 hl hown (by decide +kernel) (hts (.classLink RX5 129 "java/lang/IllegalStateException") (by decide +kernel)) (hts (.initialized "java/lang/IllegalStateException") (by decide +kernel)) (h0.2.2.2.2.2.2.2.2.2.2.1 (131, "the purse is not idle") (by decide +kernel)) (xe_hat xe_bad3 h0.2.2.2.2.2 (by decide +kernel) (fun w hw => hts w (List.mem_cons_of_mem _ (List.mem_append_left _ (List.mem_append_left _ (List.mem_append_right _ hw)))))) (xe_ot3 _) dX5_readLog_13 dX5_readLog_16 dX5_readLog_17 dX5_readLog_19 dX5_readLog_22 htab hlk (Nat.le_of_ble_eq_true rfl) (Nat.le_of_ble_eq_true rfl) (Nat.le_of_ble_eq_true rfl) (Nat.le_of_ble_eq_true rfl) (Nat.le_of_ble_eq_true rfl) (Nat.le_of_ble_eq_true rfl) (Or.inr (Or.inl ⟨x2 (by unfold oReadLog; rw [if_neg (fun z => z hin), e1, if_pos h10]), rfl⟩))

abbrev rm_X5_authorise : Room := { frames := 7, cells := 6, slots := 1540, locals := 191 }
set_option maxRecDepth 100000 in
set_option maxHeartbeats 4000000 in
theorem c_X5_authorise {l : Launch} {D : va_G} {cI cZ cO : ClassId} {G : Nat → Nat} {S : PS} (hl : l.stackTraces = false) {x n0 ar : Nat} {L : Nat → Nat} {C : Nat → List Nat} {M : MS} (hC : RC G S x n0 ar L C M) {c : Nat} (hI : MI c M) (hc : c < 512) {y : Int32} : zXi l yX5_authorise wsX5_authorise rm_X5_authorise [.ref x, .int y] D cI cZ cO G S (fun r S' => cP G S x (oAuth M y) r S') (xBSU (oAuth M y)) := by
  have hx5 := hC.1.1
  have hxn := hC.1.2.1
  have hxo := hC.1.2.2.1
  have hxs := hC.1.2.2.2.1
  have hxa := hC.1.2.2.2.2
  have har := hC.2.2.1.1
  have harr := hC.2.2.1.2
  have hA0 := hC.2.2.2.1.1 0 (by omega)
  have hA1 := hC.2.2.2.1.1 1 (by omega)
  have hA2 := hC.2.2.2.1.1 2 (by omega)
  have h70 := hA0.1
  have h71 := hA1.1
  have h72 := hA2.1
  have hl0 := hC.2.2.2.2.1.1
  have hl1 := hC.2.2.2.2.1.2.1
  have hl2 := hC.2.2.2.2.1.2.2
  have hs0 : pI S 20 (L 0) = nI (mP M) := by rw [← hl0]; exact hA0.2.1
  have hs1 : pI S 20 (L 1) = nI (mM M) := by rw [← hl1]; exact hA1.2.1
  have hs2 : pI S 20 (L 2) = nI (mE M) := by rw [← hl2]; exact hA2.2.1
  have := MI_p hI; have := MI_m hI; have := MI_e hI
  refine z_ofX (cc := cX5_authorise) (maxL := 3) (ret := (some .int)) (lo := [some (.ref x), some (.int y), none]) (by decide) rfl rfl (Nat.le_of_ble_eq_true rfl) rfl ?_
  intro pp ee ss mi aa bl mh cd h0 hts hown hr hlk hnm htab
  have hown : ss.vm.findClass RX5 = some mi.cls := hown
  have inX5 : ∀ w ∈ u_ws RX5 TX5 4, w ∈ wsX5_authorise := by decide +kernel
  have lk_14 : zLk ss mi aa RX5 14 6 0 := ⟨RX5, TX5, 4, "PurseWorld", wsX5_authorise, rfl, by decide, hts, inX5, hown, hts (.fieldLink RX5 14 "PurseWorld" "nothing" "LPurseWorld$Transfer;") (by decide +kernel), fun _ h => h⟩
  have lk_25 : zLk ss mi aa RX5 25 6 2 := ⟨RX5, TX5, 4, "PurseWorld", wsX5_authorise, rfl, by decide, hts, inX5, hown, hts (.fieldLink RX5 25 "PurseWorld" "sent" "Ljava/util/ArrayList;") (by decide +kernel), fun _ h => h⟩
  have lk_31 : zLk ss mi aa RX5 31 6 3 := ⟨RX5, TX5, 4, "PurseWorld", wsX5_authorise, rfl, by decide, hts, inX5, hown, hts (.fieldLink RX5 31 "PurseWorld" "archive" "LPurseWorld$Archive;") (by decide +kernel), fun _ h => h⟩
  refine z_aload_n h0 dX5_authorise_0 rfl ?_
  refine z_iload_n h0 dX5_authorise_1 rfl ?_
  refine z_xVr (n := 1) (As := [_]) h0 hts hown (c_X5_purseAt_x hl hC hI hc) gX5_authorise_X5_purseAt rfl (by decide +kernel) ⟨Nat.le_of_ble_eq_true rfl, Nat.le_of_ble_eq_true rfl⟩ kOk5 rfl (by assumption) dX5_authorise_2 rfl rfl (Nat.le_of_ble_eq_true rfl) ⟨Nat.le_of_ble_eq_true rfl, Nat.le_of_ble_eq_true rfl⟩ htab hlk (Nat.le_of_ble_eq_true rfl) (Nat.le_of_ble_eq_true rfl) (fun E hE => Or.inl ⟨x1 (by unfold oAuth; rw [if_pos hE.2]), hE.1⟩) (fun r2 S2 hp2 => ?_)
  obtain ⟨rfl, a, ha, rfl, hpa⟩ := hp2
  have hin := inR_of ha (by omega)
  have e1 := ix_of (x := nI a) rfl (by omega)
  have hpr := hC.2.2.2.2.2.1 a _ hpa
  have k3 := hpr.1
  have pnum := hpr.2.1
  have pnot := hpr.2.2.1
  have pkept := hpr.2.2.2.1
  have pbal := hpr.2.2.2.2.1
  have pser := hpr.2.2.2.2.2.1
  have pst := hpr.2.2.2.2.2.2.1
  have pln := hpr.2.2.2.2.2.2.2.1
  obtain ⟨cu, pcu, cu4, cu0, cuT⟩ := hpr.2.2.2.2.2.2.2.2.1
  have plog := hpr.2.2.2.2.2.2.2.2.2
  have hAk := hC.2.2.2.1.1 (a + 3) (by omega)
  have h7k := hAk.1
  have hsk := hAk.2.1
  refine z_pop h0 dX5_authorise_5 rfl ?_
  refine z_aload_n h0 dX5_authorise_6 rfl ?_
  refine z_getO h0 fO9 lk_31 dX5_authorise_7 (by assumption) (by assumption) ?_
  refine z_iload_n h0 dX5_authorise_10 rfl ?_
  refine z_cVi (n := 1) (As := [_]) h0 hts hown (c_X0_hasAnyOf har harr hA2 (RC_en hC)) gX5_authorise_X0_hasAnyOf rfl (by decide +kernel) ⟨Nat.le_of_ble_eq_true rfl, Nat.le_of_ble_eq_true rfl⟩ kOk0 rfl (by assumption) dX5_authorise_11 rfl rfl (Nat.le_of_ble_eq_true rfl) ⟨Nat.le_of_ble_eq_true rfl, Nat.le_of_ble_eq_true rfl⟩ (fun r11 S11 hp11 => ?_)
  obtain ⟨rfl, hr11⟩ := hp11
  rw [any_tell hC] at hr11
  have hb11 : r11 = bI _ := hr11
  refine z_if_ne (tgt := 27) h0 dX5_authorise_14 (by decide) (fun h14 => ?_) (fun h14 => ?_)
  · refine z_aload_n h0 dX5_authorise_27 rfl ?_
    refine z_iconst (v := 1) h0 dX5_authorise_28 (by decide) ?_
    refine z_top zc1 ?_
    refine z_xVv (n := 1) (As := [_]) h0 hts hown (c_X5_needRoomFor_x hl hC hI hc (k := 1) (by decide)) gX5_authorise_X5_needRoomFor rfl (by decide +kernel) ⟨Nat.le_of_ble_eq_true rfl, Nat.le_of_ble_eq_true rfl⟩ kOk5 rfl (by assumption) dX5_authorise_29 rfl rfl (Nat.le_of_ble_eq_true rfl) ⟨Nat.le_of_ble_eq_true rfl, Nat.le_of_ble_eq_true rfl⟩ htab hlk (Nat.le_of_ble_eq_true rfl) (Nat.le_of_ble_eq_true rfl) (fun E hE => Or.inr (Or.inr ⟨x3 (by unfold oAuth; rw [if_neg (fun z => z hin), if_neg (fun z => z (bI_t hb11 h14)), if_pos (by have := hE.2; omega)]), hE.1⟩)) (fun S29 hp29 => ?_)
    obtain ⟨rfl, hm1⟩ := hp29
    refine z_aload_n h0 dX5_authorise_32 rfl ?_
    refine z_getO h0 fO8 lk_25 dX5_authorise_33 (by assumption) (by assumption) ?_
    refine z_cVi (n := 0) (As := []) h0 hts hown (c_Jx4a65c_size_8abf5 h71) gX5_authorise_Jx4a65c_size_8abf5 rfl (by decide +kernel) ⟨Nat.le_of_ble_eq_true rfl, Nat.le_of_ble_eq_true rfl⟩ kOk7 rfl (by assumption) dX5_authorise_36 rfl rfl (Nat.le_of_ble_eq_true rfl) ⟨Nat.le_of_ble_eq_true rfl, Nat.le_of_ble_eq_true rfl⟩ (fun r36 S36 hp36 => ?_)
    obtain ⟨rfl, hr36⟩ := hp36
    rw [hs1] at hr36
    subst hr36
    refine z_istore_n (lo' := [_, _, _]) h0 dX5_authorise_39 (by decide) rfl rfl ?_
    refine z_aload_n h0 dX5_authorise_40 rfl ?_
    refine z_getO h0 fO8 lk_25 dX5_authorise_41 (by assumption) (by assumption) ?_
    refine z_new h0 nOk2 hts (by decide +kernel) tyX2 tyX2_ok hown (hts (.classLink RX5 91 RX2) (by decide +kernel)) (hts (.instantiable RX2 5) (by decide +kernel)) (hts (.initialized RX2) (by decide +kernel)) rfl (fun j hj => by rcases (show j = 0 ∨ j = 1 ∨ j = 2 ∨ j = 3 ∨ j = 4 by omega) with rfl | rfl | rfl | rfl | rfl <;> rfl) (Nat.le_of_ble_eq_true rfl) (Nat.le_of_ble_eq_true rfl) dX5_authorise_44 (fun q44 hq44 => ?_)
    have hx5n := isK_old (k := 2) (n := 0) hx5 hq44
    have harn := isK_old (k := 2) (n := 0) har hq44
    refine z_dup h0 dX5_authorise_47 rfl ?_
    refine z_bipush (v := 6) h0 dX5_authorise_48 (by decide) ?_
    refine z_iload_n h0 dX5_authorise_50 rfl ?_
    refine z_aload_n h0 dX5_authorise_51 rfl ?_
    refine z_getO h0 fO6 lk_14 dX5_authorise_52 hx5n ((upA_a _ _ _ (isK_ne hx5 hq44)).trans hxn) ?_
    refine z_iconst (v := -1) h0 dX5_authorise_55 (by decide) ?_
    refine z_aload_n h0 dX5_authorise_56 rfl ?_
    refine z_getO h0 fO9 lk_31 dX5_authorise_57 hx5n ((upA_a _ _ _ (isK_ne hx5 hq44)).trans hxa) ?_
    refine z_cVi (n := 0) (As := []) h0 hts hown (c_X0_size (S := sN S q44 2 0) harn ((upA_a _ _ _ (isK_ne har hq44)).trans harr) (AL_new hA2 hq44)) gX5_authorise_X0_size rfl (by decide +kernel) ⟨Nat.le_of_ble_eq_true rfl, Nat.le_of_ble_eq_true rfl⟩ kOk0 rfl harn dX5_authorise_60 rfl rfl (Nat.le_of_ble_eq_true rfl) ⟨Nat.le_of_ble_eq_true rfl, Nat.le_of_ble_eq_true rfl⟩ (fun r60 S60 hp60 => ?_)
    obtain ⟨rfl, hr60⟩ := hp60
    rw [hl2] at hr60
    subst hr60
    refine z_cIv (n := 5) (As := [_, _, _, _, _]) h0 hts hown (c_X2_init (isK_new (S := S) (q := q44) (k := 2) (n := 0))) gX5_authorise_X2_init rfl (by decide +kernel) ⟨Nat.le_of_ble_eq_true rfl, Nat.le_of_ble_eq_true rfl⟩ (hts (.initialized RX2) (by decide +kernel)) (hts (.methodLink RX5 141 yX2_init) (by decide +kernel)) (hts (.instanceMethod yX2_init) (by decide +kernel)) rfl dX5_authorise_63 rfl rfl (Nat.le_of_ble_eq_true rfl) ⟨Nat.le_of_ble_eq_true rfl, Nat.le_of_ble_eq_true rfl⟩ (fun S63 hp63 => ?_)
    subst hp63
    refine z_G0 h0 (fun hG => ?_)
    have hL := LS_msg (k := 6) (to := nI a) (t := n0) (x3 := -1) (x4 := nI (mE M)) hC.2.2.2.1 hq44
    refine z_cVi (n := 1) (As := [_]) h0 hts hown (c_Jx4a65c_add_9ea2d (S := mkMsg S q44 6 (nI a) n0 (-1) (nI (mE M))) (hL.1 1 (by omega)) (by omega) ⟨2, by simp, isK_new (S := S) (q := q44) (k := 2) (n := 0)⟩) gX5_authorise_Jx4a65c_add_9ea2d rfl (by decide +kernel) ⟨Nat.le_of_ble_eq_true rfl, Nat.le_of_ble_eq_true rfl⟩ kOk7 rfl (hL.1 1 (by omega)).1 dX5_authorise_66 rfl rfl (Nat.le_of_ble_eq_true rfl) ⟨Nat.le_of_ble_eq_true rfl, Nat.le_of_ble_eq_true rfl⟩ (fun r66 S66 hp66 => ?_)
    obtain ⟨hp66, -⟩ := hp66
    have hCs : RC G S x n0 ar L C (sA (sT M (72 + mM M) (-1, -1, -1, -1, -1)) 6 (mM M) (nI (mE M))) := RC_slot hC hI (by omega) rfl rfl rfl (fun f i hf => by by_cases h6 : f = 6; exact mA_a (M := sT M (72 + mM M) (-1, -1, -1, -1, -1)) (hf h6); exact mA_f (M := sT M (72 + mM M) (-1, -1, -1, -1, -1)) h6) (fun q hq => mT_a hq)
    have hIs : MIb (2 * c + 1) c (sA (sT M (72 + mM M) (-1, -1, -1, -1, -1)) 6 (mM M) (nI (mE M))) := MIb_slot6 (MIb_slot hI (by omega) _) _
    obtain ⟨hC2, hF2⟩ := RC_msg hCs hIs (show mM M < 800 by omega) (r := 72 + mM M) hq44 hG hp66 hC.2.1.1 (hC.2.1.2.trans mT_s.symm) (fun w => absurd w (by decide)) (fun _ => mA_s.symm)
    refine z_pop h0 dX5_authorise_69 rfl ?_
    refine z_iload_n h0 dX5_authorise_70 rfl ?_
    refine z_x ?_
    exact z_iret h0 hr hlk dX5_authorise_71 (Nat.le_of_ble_eq_true rfl) (Nat.le_of_ble_eq_true rfl) (cP_y (by unfold oAuth; rw [if_neg (fun z => z hin), if_neg (fun z => z (bI_t hb11 h14)), if_neg (by omega)]) hC2 hF2)
  · exact z_throw h0 hl hown (by decide +kernel) (hts (.classLink RX5 129 "java/lang/IllegalStateException") (by decide +kernel)) (hts (.initialized "java/lang/IllegalStateException") (by decide +kernel)) (h0.2.2.2.2.2.2.2.2.2.2.1 (148, "the archive has nothing of the purse") (by decide +kernel)) (xe_hat xe_bad3 h0.2.2.2.2.2 (by decide +kernel) (fun w hw => hts w (List.mem_cons_of_mem _ (List.mem_append_left _ (List.mem_append_left _ (List.mem_append_right _ hw)))))) (xe_ot3 _) dX5_authorise_17 dX5_authorise_20 dX5_authorise_21 dX5_authorise_23 dX5_authorise_26 htab hlk (Nat.le_of_ble_eq_true rfl) (Nat.le_of_ble_eq_true rfl) (Nat.le_of_ble_eq_true rfl) (Nat.le_of_ble_eq_true rfl) (Nat.le_of_ble_eq_true rfl) (Nat.le_of_ble_eq_true rfl) (Or.inr (Or.inl ⟨x2 (by unfold oAuth; rw [if_neg (fun z => z hin), if_pos (by rw [bI_f hb11 h14]; decide)]), rfl⟩))

abbrev rm_X5_refund : Room := { frames := 7, cells := 4, slots := 24, locals := 111 }
set_option maxRecDepth 100000 in
set_option maxHeartbeats 4000000 in
theorem c_X5_refund {l : Launch} {D : va_G} {cI cZ cO : ClassId} {G : Nat → Nat} {S : PS} (hl : l.stackTraces = false) {x n0 ar : Nat} {L : Nat → Nat} {C : Nat → List Nat} {M : MS} (hC : RC G S x n0 ar L C M) {c : Nat} (hI : MI c M) (hc : c < 512) {y : Int32} : zXi l yX5_refund wsX5_refund rm_X5_refund [.ref x, .int y] D cI cZ cO G S (fun r S' => cP G S x (oRefund M y) r S') (xBS (oRefund M y)) := by
  have hx5 := hC.1.1
  have hxn := hC.1.2.1
  have hxo := hC.1.2.2.1
  have hxs := hC.1.2.2.2.1
  have hxa := hC.1.2.2.2.2
  have har := hC.2.2.1.1
  have harr := hC.2.2.1.2
  have hA0 := hC.2.2.2.1.1 0 (by omega)
  have hA1 := hC.2.2.2.1.1 1 (by omega)
  have hA2 := hC.2.2.2.1.1 2 (by omega)
  have h70 := hA0.1
  have h71 := hA1.1
  have h72 := hA2.1
  have hl0 := hC.2.2.2.2.1.1
  have hl1 := hC.2.2.2.2.1.2.1
  have hl2 := hC.2.2.2.2.1.2.2
  have hs0 : pI S 20 (L 0) = nI (mP M) := by rw [← hl0]; exact hA0.2.1
  have hs1 : pI S 20 (L 1) = nI (mM M) := by rw [← hl1]; exact hA1.2.1
  have hs2 : pI S 20 (L 2) = nI (mE M) := by rw [← hl2]; exact hA2.2.1
  have := MI_p hI; have := MI_m hI; have := MI_e hI
  refine z_ofX (cc := cX5_refund) (maxL := 4) (ret := (some .int)) (lo := [some (.ref x), some (.int y), none, none]) (by decide) rfl rfl (Nat.le_of_ble_eq_true rfl) rfl ?_
  intro pp ee ss mi aa bl mh cd h0 hts hown hr hlk hnm htab
  have hown : ss.vm.findClass RX5 = some mi.cls := hown
  have inX1 : ∀ w ∈ u_ws RX1 TX1 3, w ∈ wsX5_refund := by decide +kernel
  have inX3 : ∀ w ∈ u_ws RX3 TX3 7, w ∈ wsX5_refund := by decide +kernel
  have inX4 : ∀ w ∈ u_ws RX4 TX4 5, w ∈ wsX5_refund := by decide +kernel
  have inX5 : ∀ w ∈ u_ws RX5 TX5 4, w ∈ wsX5_refund := by decide +kernel
  have lk_31 : zLk ss mi aa RX5 31 6 3 := ⟨RX5, TX5, 4, "PurseWorld", wsX5_refund, rfl, by decide, hts, inX5, hown, hts (.fieldLink RX5 31 "PurseWorld" "archive" "LPurseWorld$Archive;") (by decide +kernel), fun _ h => h⟩
  have lk_155 : zLk ss mi aa RX5 155 2 1 := ⟨RX1, TX1, 3, "PurseWorld$Entry", wsX5_refund, rfl, by decide, hts, inX1, hown, hts (.fieldLink RX5 155 "PurseWorld$Entry" "terms" "LPurseWorld$Transfer;") (by decide +kernel), fun _ h => h⟩
  have lk_158 : zLk ss mi aa RX5 158 5 0 := ⟨RX4, TX4, 5, "PurseWorld$Transfer", wsX5_refund, rfl, by decide, hts, inX4, hown, hts (.fieldLink RX5 158 "PurseWorld$Transfer" "payer" "I") (by decide +kernel), fun _ h => h⟩
  have lk_164 : zLk ss mi aa RX5 164 5 2 := ⟨RX4, TX4, 5, "PurseWorld$Transfer", wsX5_refund, rfl, by decide, hts, inX4, hown, hts (.fieldLink RX5 164 "PurseWorld$Transfer" "payee" "I") (by decide +kernel), fun _ h => h⟩
  have lk_169 : zLk ss mi aa RX5 169 2 2 := ⟨RX1, TX1, 3, "PurseWorld$Entry", wsX5_refund, rfl, by decide, hts, inX1, hown, hts (.fieldLink RX5 169 "PurseWorld$Entry" "refunded" "Z") (by decide +kernel), fun _ h => h⟩
  have lk_179 : zLk ss mi aa RX5 179 4 3 := ⟨RX3, TX3, 7, "PurseWorld$Purse", wsX5_refund, rfl, by decide, hts, inX3, hown, hts (.fieldLink RX5 179 "PurseWorld$Purse" "balance" "I") (by decide +kernel), fun _ h => h⟩
  have lk_182 : zLk ss mi aa RX5 182 5 4 := ⟨RX4, TX4, 5, "PurseWorld$Transfer", wsX5_refund, rfl, by decide, hts, inX4, hown, hts (.fieldLink RX5 182 "PurseWorld$Transfer" "amount" "I") (by decide +kernel), fun _ h => h⟩
  have lp_179 : zLp ss mi aa mh RX5 179 4 3 .int := ⟨RX3, TX3, 7, "PurseWorld$Purse", wsX5_refund, tyX3, rfl, by decide, hts, inX3, hown, hts (.fieldLink RX5 179 "PurseWorld$Purse" "balance" "I") (by decide +kernel), fun _ h => h, tyX3_ok, nmX3, by decide +kernel, Or.inl rfl⟩
  refine z_aload_n h0 dX5_refund_0 rfl ?_
  refine z_iload_n h0 dX5_refund_1 rfl ?_
  refine z_xVr (n := 1) (As := [_]) h0 hts hown (c_X5_entryAt_x hl hC hI hc) gX5_refund_X5_entryAt rfl (by decide +kernel) ⟨Nat.le_of_ble_eq_true rfl, Nat.le_of_ble_eq_true rfl⟩ kOk5 rfl (by assumption) dX5_refund_2 rfl rfl (Nat.le_of_ble_eq_true rfl) ⟨Nat.le_of_ble_eq_true rfl, Nat.le_of_ble_eq_true rfl⟩ htab hlk (Nat.le_of_ble_eq_true rfl) (Nat.le_of_ble_eq_true rfl) (fun E hE => Or.inl ⟨x1 (by unfold oRefund; rw [if_pos hE.2]), hE.1⟩) (fun r2 S2 hp2 => ?_)
  obtain ⟨rfl, k, hk, rfl, hek⟩ := hp2
  have hin := inR_of hk (by omega)
  have e1 := ix_of (x := nI k) rfl (by omega)
  obtain ⟨k1, ete, ⟨t, et, t4, mtr⟩, er⟩ := hC.2.2.2.2.2.2.2 k _ hek
  have hen := RC_en hC
  obtain ⟨pa, pb, hpa, hpb, hab, ea, eb⟩ := (hI.2.2.2.2.2.2.1 k hk).1
  have e2 := ix_of ea (by omega)
  refine z_astore_n (lo' := [_, _, _, _]) h0 dX5_refund_5 (by decide) rfl rfl ?_
  refine z_aload_n h0 dX5_refund_6 rfl ?_
  refine z_getO h0 fO9 lk_31 dX5_refund_7 (by assumption) (by assumption) ?_
  refine z_aload_n h0 dX5_refund_10 rfl ?_
  refine z_getO h0 fO1 lk_155 dX5_refund_11 (by assumption) (by assumption) ?_
  refine z_getI h0 fI10 lk_158 dX5_refund_14 (by assumption) ?_
  refine z_top (y := part 0 (mT M (872 + k))) (congrArg (part 0) mtr) ?_
  refine z_aload_n h0 dX5_refund_17 rfl ?_
  refine z_getO h0 fO1 lk_155 dX5_refund_18 (by assumption) (by assumption) ?_
  refine z_cVi (n := 2) (As := [_, _]) h0 hts hown (c_X0_has har harr hA2 hen t4) gX5_refund_X0_has rfl (by decide +kernel) ⟨Nat.le_of_ble_eq_true rfl, Nat.le_of_ble_eq_true rfl⟩ kOk0 rfl (by assumption) dX5_refund_21 rfl rfl (Nat.le_of_ble_eq_true rfl) ⟨Nat.le_of_ble_eq_true rfl, Nat.le_of_ble_eq_true rfl⟩ (fun r21 S21 hp21 => ?_)
  obtain ⟨rfl, hr21⟩ := hp21
  rw [kpt_all hC mtr] at hr21
  have hb21 : r21 = bI _ := hr21
  refine z_if_eq (tgt := 48) h0 dX5_refund_24 (by decide) (fun h24 => ?_) (fun h24 => ?_)
  · exact z_throw h0 hl hown (by decide +kernel) (hts (.classLink RX5 129 "java/lang/IllegalStateException") (by decide +kernel)) (hts (.initialized "java/lang/IllegalStateException") (by decide +kernel)) (h0.2.2.2.2.2.2.2.2.2.2.1 (167, "one side has not told") (by decide +kernel)) (xe_hat xe_bad3 h0.2.2.2.2.2 (by decide +kernel) (fun w hw => hts w (List.mem_cons_of_mem _ (List.mem_append_left _ (List.mem_append_right _ hw))))) (xe_ot3 _) dX5_refund_48 dX5_refund_51 dX5_refund_52 dX5_refund_54 dX5_refund_57 htab hlk (Nat.le_of_ble_eq_true rfl) (Nat.le_of_ble_eq_true rfl) (Nat.le_of_ble_eq_true rfl) (Nat.le_of_ble_eq_true rfl) (Nat.le_of_ble_eq_true rfl) (Nat.le_of_ble_eq_true rfl) (Or.inr ⟨x2 (by unfold oRefund; rw [if_neg (fun z => z hin), e1, if_pos (fun z => absurd ((bI_f hb21 h24).symm.trans z.1.1) (by decide))]), rfl⟩)
  · refine z_aload_n h0 dX5_refund_27 rfl ?_
    refine z_getO h0 fO9 lk_31 dX5_refund_28 (by assumption) (by assumption) ?_
    refine z_aload_n h0 dX5_refund_31 rfl ?_
    refine z_getO h0 fO1 lk_155 dX5_refund_32 (by assumption) (by assumption) ?_
    refine z_getI h0 fI12 lk_164 dX5_refund_35 (by assumption) ?_
    refine z_top (y := part 2 (mT M (872 + k))) (congrArg (part 2) mtr) ?_
    refine z_aload_n h0 dX5_refund_38 rfl ?_
    refine z_getO h0 fO1 lk_155 dX5_refund_39 (by assumption) (by assumption) ?_
    refine z_cVi (n := 2) (As := [_, _]) h0 hts hown (c_X0_has har harr hA2 hen t4) gX5_refund_X0_has rfl (by decide +kernel) ⟨Nat.le_of_ble_eq_true rfl, Nat.le_of_ble_eq_true rfl⟩ kOk0 rfl (by assumption) dX5_refund_42 rfl rfl (Nat.le_of_ble_eq_true rfl) ⟨Nat.le_of_ble_eq_true rfl, Nat.le_of_ble_eq_true rfl⟩ (fun r42 S42 hp42 => ?_)
    obtain ⟨rfl, hr42⟩ := hp42
    rw [kpt_all hC mtr] at hr42
    have hb42 : r42 = bI _ := hr42
    refine z_if_ne (tgt := 58) h0 dX5_refund_45 (by decide) (fun h45 => ?_) (fun h45 => ?_)
    · refine z_aload_n h0 dX5_refund_58 rfl ?_
      refine z_getI h0 fI1 lk_169 dX5_refund_59 (by assumption) ?_
      refine z_top er ?_
      refine z_if_eq (tgt := 75) h0 dX5_refund_62 (by decide) (fun h62 => ?_) (fun h62 => ?_)
      · refine z_aload_n h0 dX5_refund_75 rfl ?_
        refine z_getO h0 fO9 lk_31 dX5_refund_76 (by assumption) (by assumption) ?_
        refine z_aload_n h0 dX5_refund_79 rfl ?_
        refine z_getO h0 fO1 lk_155 dX5_refund_80 (by assumption) (by assumption) ?_
        refine z_cVv (n := 1) (As := [_]) h0 hts hown (c_X0_markRefunded har harr hA2 hen t4) gX5_refund_X0_markRefunded rfl (by decide +kernel) ⟨Nat.le_of_ble_eq_true rfl, Nat.le_of_ble_eq_true rfl⟩ kOk0 rfl (by assumption) dX5_refund_83 rfl rfl (Nat.le_of_ble_eq_true rfl) ⟨Nat.le_of_ble_eq_true rfl, Nat.le_of_ble_eq_true rfl⟩ (fun S83 hp83 => ?_)
        rw [mtr] at hp83
        subst hp83
        obtain ⟨hC1, hF1⟩ := RC_mark hC hk
        have hI1 := MI_flag hI hk (bI_t hb21 h24) (bI_t hb42 h45)
        obtain ⟨a0, ha0⟩ := RC_at hC1 (i := pa) hpa
        refine z_aload_n h0 dX5_refund_86 rfl ?_
        refine z_aload_n h0 dX5_refund_87 rfl ?_
        refine z_getO h0 fO1 lk_155 dX5_refund_88 (by assumption) (by assumption) ?_
        refine z_getI h0 fI10 lk_158 dX5_refund_91 (by assumption) ?_
        refine z_top (((mark_I (by decide)).trans (congrArg (part 0) mtr)).trans ea) ?_
        refine z_cVr (n := 1) (As := [_]) h0 hts hown (c_X5_purseAt_y hC1 hI1 hc hpa ha0) gX5_refund_X5_purseAt rfl (by decide +kernel) ⟨Nat.le_of_ble_eq_true rfl, Nat.le_of_ble_eq_true rfl⟩ kOk5 rfl hC1.1.1 dX5_refund_94 rfl rfl (Nat.le_of_ble_eq_true rfl) ⟨Nat.le_of_ble_eq_true rfl, Nat.le_of_ble_eq_true rfl⟩ (fun r94 S94 hp94 => ?_)
        obtain ⟨rfl, hpq⟩ := hp94
        have hpr := hC1.2.2.2.2.2.1 pa _ hpq
        have k3 := hpr.1
        obtain ⟨hC2, hF2⟩ := RC_bal (v := mA M 0 pa + part 4 (mT M (872 + k))) hC1 hI1 hpq
        refine z_astore_n (lo' := [_, _, _, _]) h0 dX5_refund_97 (by decide) rfl rfl ?_
        refine z_aload_n h0 dX5_refund_98 rfl ?_
        refine z_dup h0 dX5_refund_99 rfl ?_
        refine z_getI h0 fI7 lk_179 dX5_refund_100 (by assumption) ?_
        refine z_top (y := mA M 0 pa) (hpr.2.2.2.2.1.trans (mA_f (by decide))) ?_
        refine z_aload_n h0 dX5_refund_103 rfl ?_
        refine z_getO h0 fO1 lk_155 dX5_refund_104 (by assumption) (by assumption) ?_
        refine z_getI h0 fI14 lk_182 dX5_refund_107 (by assumption) ?_
        refine z_top (y := part 4 (mT M (872 + k))) ((mark_I (by decide)).trans (congrArg (part 4) mtr)) ?_
        refine z_iadd h0 dX5_refund_110 ?_
        refine z_putI h0 fI7 lp_179 dX5_refund_111 (by assumption) rfl rfl ?_
        refine z_aload_n h0 dX5_refund_114 rfl ?_
        refine z_getI h0 fI7 lk_179 dX5_refund_115 (by assumption) ?_
        refine z_top (y := mA M 0 pa + part 4 (mT M (872 + k))) pI_s ?_
        refine z_x ?_
        exact z_iret h0 hr hlk dX5_refund_118 (Nat.le_of_ble_eq_true rfl) (Nat.le_of_ble_eq_true rfl) (cP_y (by unfold oRefund; rw [if_neg (fun z => z hin), e1, if_neg (fun z => z ⟨⟨bI_t hb21 h24, bI_t hb42 h45⟩, bI_ff h62⟩)]; unfold mPay; rw [e2]) hC2 (KF_trans hF1 hF2))
      · exact z_throw h0 hl hown (by decide +kernel) (hts (.classLink RX5 129 "java/lang/IllegalStateException") (by decide +kernel)) (hts (.initialized "java/lang/IllegalStateException") (by decide +kernel)) (h0.2.2.2.2.2.2.2.2.2.2.1 (173, "already refunded") (by decide +kernel)) (xe_hat xe_bad3 h0.2.2.2.2.2 (by decide +kernel) (fun w hw => hts w (List.mem_cons_of_mem _ (List.mem_append_left _ (List.mem_append_right _ hw))))) (xe_ot3 _) dX5_refund_65 dX5_refund_68 dX5_refund_69 dX5_refund_71 dX5_refund_74 htab hlk (Nat.le_of_ble_eq_true rfl) (Nat.le_of_ble_eq_true rfl) (Nat.le_of_ble_eq_true rfl) (Nat.le_of_ble_eq_true rfl) (Nat.le_of_ble_eq_true rfl) (Nat.le_of_ble_eq_true rfl) (Or.inr ⟨x2 (by unfold oRefund; rw [if_neg (fun z => z hin), e1, if_pos (fun z => absurd ((bI_tt h62).symm.trans z.2) (by decide))]), rfl⟩)
    · exact z_throw h0 hl hown (by decide +kernel) (hts (.classLink RX5 129 "java/lang/IllegalStateException") (by decide +kernel)) (hts (.initialized "java/lang/IllegalStateException") (by decide +kernel)) (h0.2.2.2.2.2.2.2.2.2.2.1 (167, "one side has not told") (by decide +kernel)) (xe_hat xe_bad3 h0.2.2.2.2.2 (by decide +kernel) (fun w hw => hts w (List.mem_cons_of_mem _ (List.mem_append_left _ (List.mem_append_right _ hw))))) (xe_ot3 _) dX5_refund_48 dX5_refund_51 dX5_refund_52 dX5_refund_54 dX5_refund_57 htab hlk (Nat.le_of_ble_eq_true rfl) (Nat.le_of_ble_eq_true rfl) (Nat.le_of_ble_eq_true rfl) (Nat.le_of_ble_eq_true rfl) (Nat.le_of_ble_eq_true rfl) (Nat.le_of_ble_eq_true rfl) (Or.inr ⟨x2 (by unfold oRefund; rw [if_neg (fun z => z hin), e1, if_pos (fun z => absurd ((bI_f hb42 h45).symm.trans z.1.2) (by decide))]), rfl⟩)

abbrev rm_X5_init : Room := { frames := 5, cells := 5, slots := 20, locals := 100 }
set_option maxRecDepth 100000 in
set_option maxHeartbeats 4000000 in
theorem c_X5_init {l : Launch} {D : va_G} {cI cZ cO : ClassId} {G : Nat → Nat} {S : PS} {x : Nat} (hx : isK S 5 x) : zMv l yX5_init wsX5_init rm_X5_init [.ref x] D cI cZ cO G S (fun S' => RepC G S' x M0) := by
  refine z_of (cc := cX5_init) (maxL := 1) (ret := none) (lo := [some (.ref x)]) (by decide) rfl rfl (Nat.le_of_ble_eq_true rfl) rfl ?_
  intro pp ee ss mi aa bl mh cd h0 hts hown hr hlk hnm
  have hown : ss.vm.findClass RX5 = some mi.cls := hown
  have inX5 : ∀ w ∈ u_ws RX5 TX5 4, w ∈ wsX5_init := by decide +kernel
  have lp_14 : zLp ss mi aa mh RX5 14 6 0 (.object "PurseWorld$Transfer") := ⟨RX5, TX5, 4, "PurseWorld", wsX5_init, tyX5, rfl, by decide, hts, inX5, hown, hts (.fieldLink RX5 14 "PurseWorld" "nothing" "LPurseWorld$Transfer;") (by decide +kernel), fun _ h => h, tyX5_ok, nmX5, by decide +kernel, Or.inr ⟨rfl, hnm, rfl⟩⟩
  have lp_21 : zLp ss mi aa mh RX5 21 6 1 (.object "java/util/ArrayList") := ⟨RX5, TX5, 4, "PurseWorld", wsX5_init, tyX5, rfl, by decide, hts, inX5, hown, hts (.fieldLink RX5 21 "PurseWorld" "owners" "Ljava/util/ArrayList;") (by decide +kernel), fun _ h => h, tyX5_ok, nmX5, by decide +kernel, Or.inr ⟨rfl, hnm, rfl⟩⟩
  have lp_25 : zLp ss mi aa mh RX5 25 6 2 (.object "java/util/ArrayList") := ⟨RX5, TX5, 4, "PurseWorld", wsX5_init, tyX5, rfl, by decide, hts, inX5, hown, hts (.fieldLink RX5 25 "PurseWorld" "sent" "Ljava/util/ArrayList;") (by decide +kernel), fun _ h => h, tyX5_ok, nmX5, by decide +kernel, Or.inr ⟨rfl, hnm, rfl⟩⟩
  have lp_31 : zLp ss mi aa mh RX5 31 6 3 (.object "PurseWorld$Archive") := ⟨RX5, TX5, 4, "PurseWorld", wsX5_init, tyX5, rfl, by decide, hts, inX5, hown, hts (.fieldLink RX5 31 "PurseWorld" "archive" "LPurseWorld$Archive;") (by decide +kernel), fun _ h => h, tyX5_ok, nmX5, by decide +kernel, Or.inr ⟨rfl, hnm, rfl⟩⟩
  refine z_aload_n h0 dX5_init_0 rfl ?_
  refine z_objInit h0 hown (hts (.methodLink RX5 1 objectInit) (by decide +kernel)) (hts (.instanceMethod objectInit) (by decide +kernel)) (hts (.code objectInit ⟨#[0xb1]⟩ 1 none) (by decide +kernel)) dX5_init_1 (Nat.le_of_ble_eq_true rfl) (Nat.le_of_ble_eq_true rfl) ?_
  refine z_aload_n h0 dX5_init_4 rfl ?_
  refine z_new h0 nOk4 hts (by decide +kernel) tyX4 tyX4_ok hown (hts (.classLink RX5 7 RX4) (by decide +kernel)) (hts (.instantiable RX4 5) (by decide +kernel)) (hts (.initialized RX4) (by decide +kernel)) rfl (fun j hj => by rcases (show j = 0 ∨ j = 1 ∨ j = 2 ∨ j = 3 ∨ j = 4 by omega) with rfl | rfl | rfl | rfl | rfl <;> rfl) (Nat.le_of_ble_eq_true rfl) (Nat.le_of_ble_eq_true rfl) dX5_init_5 (fun q5 hq5 => ?_)
  refine z_dup h0 dX5_init_8 rfl ?_
  refine z_iconst (v := -1) h0 dX5_init_9 (by decide) ?_
  refine z_iconst (v := -1) h0 dX5_init_10 (by decide) ?_
  refine z_iconst (v := -1) h0 dX5_init_11 (by decide) ?_
  refine z_iconst (v := -1) h0 dX5_init_12 (by decide) ?_
  refine z_iconst (v := -1) h0 dX5_init_13 (by decide) ?_
  refine z_cIv (n := 5) (As := [_, _, _, _, _]) h0 hts hown (c_X4_init (isK_new (S := S) (q := q5) (k := 4) (n := 0))) gX5_init_X4_init rfl (by decide +kernel) ⟨Nat.le_of_ble_eq_true rfl, Nat.le_of_ble_eq_true rfl⟩ (hts (.initialized RX4) (by decide +kernel)) (hts (.methodLink RX5 11 yX4_init) (by decide +kernel)) (hts (.instanceMethod yX4_init) (by decide +kernel)) rfl dX5_init_14 rfl rfl (Nat.le_of_ble_eq_true rfl) ⟨Nat.le_of_ble_eq_true rfl, Nat.le_of_ble_eq_true rfl⟩ (fun S14 hp14 => ?_)
  subst hp14
  refine z_putO h0 fO6 lp_14 dX5_init_17 (isK_old (k := 4) (n := 0) hx hq5) rfl rfl ?_
  obtain ⟨a1, a2, a3, a4⟩ := IC1 hx hq5
  generalize hS9 : (sO (mkTr S q5 tn) 6 x (some q5) : PS) = SA at a1 a2 a3 a4
  have hL0 : LsR G SA 0 (fun _ => 0) (fun _ => []) := ⟨fun i hi => absurd hi (Nat.not_lt_zero _), fun i j hi => absurd hi (Nat.not_lt_zero _)⟩
  refine (show ZW _ _ _ _ _ _ _ _ _ _ _ _ _ _ _ _ _ _ (sO (mkTr S q5 tn) 6 x (some q5)) _ _ _ _ _ from ?_)
  rw [hS9]
  refine z_aload_n h0 dX5_init_20 rfl ?_
  refine z_new h0 nOk7 hts (by decide +kernel) tyJx4a65c tyJx4a65c_ok hown (hts (.classLink RX5 18 RJx4a65c) (by decide +kernel)) (hts (.instantiable RJx4a65c 3) (by decide +kernel)) (hts (.initialized RJx4a65c) (by decide +kernel)) rfl (fun j hj => by rcases (show j = 0 ∨ j = 1 ∨ j = 2 by omega) with rfl | rfl | rfl <;> rfl) (Nat.le_of_ble_eq_true rfl) (Nat.le_of_ble_eq_true rfl) dX5_init_21 (fun q21 hq21 => ?_)
  refine z_dup h0 dX5_init_24 rfl ?_
  refine z_cIv (n := 0) (As := []) h0 hts hown (c_Jx4a65c_init_da8c8 (isK_new (S := SA) (q := q21) (k := 7) (n := 0))) gX5_init_Jx4a65c_init_da8c8 rfl (by decide +kernel) ⟨Nat.le_of_ble_eq_true rfl, Nat.le_of_ble_eq_true rfl⟩ (hts (.initialized RJx4a65c) (by decide +kernel)) (hts (.methodLink RX5 20 yJx4a65c_init_da8c8) (by decide +kernel)) (hts (.instanceMethod yJx4a65c_init_da8c8) (by decide +kernel)) rfl dX5_init_25 rfl rfl (Nat.le_of_ble_eq_true rfl) ⟨Nat.le_of_ble_eq_true rfl, Nat.le_of_ble_eq_true rfl⟩ (fun S25 hp25 => ?_)
  subst hp25
  refine z_putO h0 fO7 lp_21 dX5_init_28 (KF_K (KF_list (G := G) hq21) a1) rfl rfl ?_
  obtain ⟨b1, b2, b3, b4, b5, b6⟩ := IC_list (f := 7) a1 a3 a4 hL0 hq21 (by decide)
  generalize (sO (mkPu1 G SA q21) 7 x (some q21) : PS) = SB at b1 b2 b3 b4 b5 b6 ⊢
  refine z_aload_n h0 dX5_init_31 rfl ?_
  refine z_new h0 nOk7 hts (by decide +kernel) tyJx4a65c tyJx4a65c_ok hown (hts (.classLink RX5 18 RJx4a65c) (by decide +kernel)) (hts (.instantiable RJx4a65c 3) (by decide +kernel)) (hts (.initialized RJx4a65c) (by decide +kernel)) rfl (fun j hj => by rcases (show j = 0 ∨ j = 1 ∨ j = 2 by omega) with rfl | rfl | rfl <;> rfl) (Nat.le_of_ble_eq_true rfl) (Nat.le_of_ble_eq_true rfl) dX5_init_32 (fun q32 hq32 => ?_)
  refine z_dup h0 dX5_init_35 rfl ?_
  refine z_cIv (n := 0) (As := []) h0 hts hown (c_Jx4a65c_init_da8c8 (isK_new (S := SB) (q := q32) (k := 7) (n := 0))) gX5_init_Jx4a65c_init_da8c8 rfl (by decide +kernel) ⟨Nat.le_of_ble_eq_true rfl, Nat.le_of_ble_eq_true rfl⟩ (hts (.initialized RJx4a65c) (by decide +kernel)) (hts (.methodLink RX5 20 yJx4a65c_init_da8c8) (by decide +kernel)) (hts (.instanceMethod yJx4a65c_init_da8c8) (by decide +kernel)) rfl dX5_init_36 rfl rfl (Nat.le_of_ble_eq_true rfl) ⟨Nat.le_of_ble_eq_true rfl, Nat.le_of_ble_eq_true rfl⟩ (fun S36 hp36 => ?_)
  subst hp36
  refine z_putO h0 fO8 lp_25 dX5_init_39 (KF_K (KF_list (G := G) hq32) b1) rfl rfl ?_
  obtain ⟨d1, d2, d3, d4, d5, d6⟩ := IC_list (f := 8) b1 b2 b3 b4 hq32 (by decide)
  generalize (sO (mkPu1 G SB q32) 8 x (some q32) : PS) = SD at d1 d2 d3 d4 d5 d6 ⊢
  refine z_aload_n h0 dX5_init_42 rfl ?_
  refine z_new h0 nOk0 hts (by decide +kernel) tyX0 tyX0_ok hown (hts (.classLink RX5 28 RX0) (by decide +kernel)) (hts (.instantiable RX0 1) (by decide +kernel)) (hts (.initialized RX0) (by decide +kernel)) rfl (fun j hj => by rcases (show j = 0 by omega) with rfl <;> rfl) (Nat.le_of_ble_eq_true rfl) (Nat.le_of_ble_eq_true rfl) dX5_init_43 (fun q43 hq43 => ?_)
  refine z_dup h0 dX5_init_46 rfl ?_
  refine z_cIv (n := 0) (As := []) h0 hts hown (c_X0_init (isK_new (S := SD) (q := q43) (k := 0) (n := 0))) gX5_init_X0_init rfl (by decide +kernel) ⟨Nat.le_of_ble_eq_true rfl, Nat.le_of_ble_eq_true rfl⟩ (hts (.initialized RX0) (by decide +kernel)) (hts (.methodLink RX5 30 yX0_init) (by decide +kernel)) (hts (.instanceMethod yX0_init) (by decide +kernel)) rfl dX5_init_47 rfl rfl (Nat.le_of_ble_eq_true rfl) ⟨Nat.le_of_ble_eq_true rfl, Nat.le_of_ble_eq_true rfl⟩ (fun S47 hp47 => ?_)
  obtain ⟨q47, hq47, rfl⟩ := hp47
  refine z_putO h0 fO9 lp_31 dX5_init_50 (isK_sO (KF_K (KF_list (G := G) hq47) (KF_K (KF_new (k := 0) (n := 0) hq43) d1))) rfl rfl ?_
  obtain ⟨f1, f2, f3, f4, f5, f6, f7, f8⟩ := IC_arch d1 d2 d3 d4 hq43 hq47
  exact z_vret h0 hr hlk dX5_init_53 (Nat.le_of_ble_eq_true rfl) (Nat.le_of_ble_eq_true rfl) ⟨q5, q43, _, _, ⟨f1, (f6 6 (by decide)).trans ((d6 6 (by decide)).trans ((b6 6 (by decide)).trans a2)), (f6 7 (by decide)).trans ((d6 7 (by decide)).trans b5), (f6 8 (by decide)).trans d5, f5⟩, ⟨f2, f3⟩, ⟨f7, f8⟩, f4, ⟨rfl, rfl, rfl⟩, fun i d hi => absurd hi (by simp [va_up]), fun i d hi => absurd hi (by simp [va_up]), fun i d hi => absurd hi (by simp [va_up])⟩

end CLS8
