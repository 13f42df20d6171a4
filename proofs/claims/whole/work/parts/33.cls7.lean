/-! THE CLASS: the calls that change it. -/
section CLS7
abbrev xAU (o : OR) (E : String) : Prop := (o.1 = 1 ∧ E = eA) ∨ (o.1 = 2 ∧ E = eU)
abbrev xBAU (o : OR) (E : String) : Prop := (o.1 = 1 ∧ E = eB) ∨ (o.1 = 2 ∧ E = eA) ∨ (o.1 = 3 ∧ E = eU)
abbrev xBSU (o : OR) (E : String) : Prop := (o.1 = 1 ∧ E = eB) ∨ (o.1 = 2 ∧ E = eS) ∨ (o.1 = 3 ∧ E = eU)
abbrev xBS (o : OR) (E : String) : Prop := (o.1 = 1 ∧ E = eB) ∨ (o.1 = 2 ∧ E = eS)

abbrev rm_X5_purse : Room := { frames := 7, cells := 4, slots := 1520, locals := 191 }
set_option maxRecDepth 100000 in
set_option maxHeartbeats 4000000 in
theorem c_X5_purse {l : Launch} {D : va_G} {cI cZ cO : ClassId} {G : Nat → Nat} {S : PS} (hl : l.stackTraces = false) {x n0 ar : Nat} {L : Nat → Nat} {C : Nat → List Nat} {M : MS} (hC : RC G S x n0 ar L C M) {c : Nat} (hI : MI c M) (hc : c < 512) {y : Int32} : zXi l yX5_purse wsX5_purse rm_X5_purse [.ref x, .int y] D cI cZ cO G S (fun r S' => cP G S x (oPurse M y) r S') (xAU (oPurse M y)) := by
  have hx5 := hC.1.1
  have hxn := hC.1.2.1
  have hxo := hC.1.2.2.1
  have hxs := hC.1.2.2.2.1
  have hxa := hC.1.2.2.2.2
  have har := hC.2.2.1.1
  have harr := hC.2.2.1.2
  have hA0 := hC.2.2.2.1.1 0 (by omega)
  have hA1 := hC.2.2.2.1.1 1 (by omega)
  have hA2 := hC.2.2.2.1.1 2 (by omega)
  have h70 := hA0.1
  have h71 := hA1.1
  have h72 := hA2.1
  have hl0 := hC.2.2.2.2.1.1
  have hl1 := hC.2.2.2.2.1.2.1
  have hl2 := hC.2.2.2.2.1.2.2
  have hs0 : pI S 20 (L 0) = nI (mP M) := by rw [← hl0]; exact hA0.2.1
  have hs1 : pI S 20 (L 1) = nI (mM M) := by rw [← hl1]; exact hA1.2.1
  have hs2 : pI S 20 (L 2) = nI (mE M) := by rw [← hl2]; exact hA2.2.1
  have := MI_p hI; have := MI_m hI; have := MI_e hI
  refine z_ofX (cc := cX5_purse) (maxL := 3) (ret := (some .int)) (lo := [some (.ref x), some (.int y), none]) (by decide) rfl rfl (Nat.le_of_ble_eq_true rfl) rfl ?_
  intro pp ee ss mi aa bl mh cd h0 hts hown hr hlk hnm htab
  have hown : ss.vm.findClass RX5 = some mi.cls := hown
  have inX5 : ∀ w ∈ u_ws RX5 TX5 4, w ∈ wsX5_purse := by decide +kernel
  have lk_14 : zLk ss mi aa RX5 14 6 0 := ⟨RX5, TX5, 4, "PurseWorld", wsX5_purse, rfl, by decide, hts, inX5, hown, hts (.fieldLink RX5 14 "PurseWorld" "nothing" "LPurseWorld$Transfer;") (by decide +kernel), fun _ h => h⟩
  have lk_21 : zLk ss mi aa RX5 21 6 1 := ⟨RX5, TX5, 4, "PurseWorld", wsX5_purse, rfl, by decide, hts, inX5, hown, hts (.fieldLink RX5 21 "PurseWorld" "owners" "Ljava/util/ArrayList;") (by decide +kernel), fun _ h => h⟩
  refine z_iload_n h0 dX5_purse_0 rfl ?_
  refine z_if_lt (tgt := 10) h0 dX5_purse_1 (by decide) (fun h1 => ?_) (fun h1 => ?_)
  · exact z_throw h0 hl hown (by decide +kernel) (hts (.classLink RX5 36 "java/lang/IllegalArgumentException") (by decide +kernel)) (hts (.initialized "java/lang/IllegalArgumentException") (by decide +kernel)) (h0.2.2.2.2.2.2.2.2.2.2.1 (38, "no such balance") (by decide +kernel)) (xe_hat xe_bad0 h0.2.2.2.2.2 (by decide +kernel) (fun w hw => hts w (List.mem_cons_of_mem _ (List.mem_append_left _ (List.mem_append_right _ hw))))) (xe_ot0 _) dX5_purse_10 dX5_purse_13 dX5_purse_14 dX5_purse_16 dX5_purse_19 htab hlk (Nat.le_of_ble_eq_true rfl) (Nat.le_of_ble_eq_true rfl) (Nat.le_of_ble_eq_true rfl) (Nat.le_of_ble_eq_true rfl) (Nat.le_of_ble_eq_true rfl) (Nat.le_of_ble_eq_true rfl) (Or.inl ⟨x1 (by unfold oPurse; rw [if_pos (fun z => k2_nlt z.1 h1)]), rfl⟩)
  · refine z_iload_n h0 dX5_purse_4 rfl ?_
    refine z_ldc h0 hown (hts (.constant RX5 35 (1000000000)) (by decide +kernel)) dX5_purse_5 ?_
    refine z_icmp_le (tgt := 20) h0 dX5_purse_7 (by decide) (fun h7 => ?_) (fun h7 => ?_)
    · refine z_aload_n h0 dX5_purse_20 rfl ?_
      refine z_getO h0 fO7 lk_21 dX5_purse_21 (by assumption) (by assumption) ?_
      refine z_cVi (n := 0) (As := []) h0 hts hown (c_Jx4a65c_size_8abf5 h70) gX5_purse_Jx4a65c_size_8abf5 rfl (by decide +kernel) ⟨Nat.le_of_ble_eq_true rfl, Nat.le_of_ble_eq_true rfl⟩ kOk7 rfl (by assumption) dX5_purse_24 rfl rfl (Nat.le_of_ble_eq_true rfl) ⟨Nat.le_of_ble_eq_true rfl, Nat.le_of_ble_eq_true rfl⟩ (fun r24 S24 hp24 => ?_)
      obtain ⟨rfl, hr24⟩ := hp24
      rw [hs0] at hr24
      subst hr24
      refine z_bipush (v := 12) h0 dX5_purse_27 (by decide) ?_
      refine z_icmp_lt (tgt := 42) h0 dX5_purse_29 (by decide) (fun h29 => ?_) (fun h29 => ?_)
      · have hP : mP M < 12 := (nI_ltI (b := 12) (by omega) (by decide)).mp h29
        refine z_aload_n h0 dX5_purse_42 rfl ?_
        refine z_getO h0 fO7 lk_21 dX5_purse_43 (by assumption) (by assumption) ?_
        refine z_cVi (n := 0) (As := []) h0 hts hown (c_Jx4a65c_size_8abf5 h70) gX5_purse_Jx4a65c_size_8abf5 rfl (by decide +kernel) ⟨Nat.le_of_ble_eq_true rfl, Nat.le_of_ble_eq_true rfl⟩ kOk7 rfl (by assumption) dX5_purse_46 rfl rfl (Nat.le_of_ble_eq_true rfl) ⟨Nat.le_of_ble_eq_true rfl, Nat.le_of_ble_eq_true rfl⟩ (fun r46 S46 hp46 => ?_)
        obtain ⟨rfl, hr46⟩ := hp46
        rw [hs0] at hr46
        subst hr46
        refine z_istore_n (lo' := [_, _, _]) h0 dX5_purse_49 (by decide) rfl rfl ?_
        refine z_aload_n h0 dX5_purse_50 rfl ?_
        refine z_getO h0 fO7 lk_21 dX5_purse_51 (by assumption) (by assumption) ?_
        refine z_new h0 nOk3 hts (by decide +kernel) tyX3 tyX3_ok hown (hts (.classLink RX5 52 RX3) (by decide +kernel)) (hts (.instantiable RX3 7) (by decide +kernel)) (hts (.initialized RX3) (by decide +kernel)) rfl (fun j hj => by rcases (show j = 0 ∨ j = 1 ∨ j = 2 ∨ j = 3 ∨ j = 4 ∨ j = 5 ∨ j = 6 by omega) with rfl | rfl | rfl | rfl | rfl | rfl | rfl <;> rfl) (Nat.le_of_ble_eq_true rfl) (Nat.le_of_ble_eq_true rfl) dX5_purse_54 (fun q54 hq54 => ?_)
        refine z_dup h0 dX5_purse_57 rfl ?_
        have hxo5 := isK_old (k := 3) (n := 0) hx5 hq54
        refine z_iload_n h0 dX5_purse_58 rfl ?_
        refine z_iload_n h0 dX5_purse_59 rfl ?_
        refine z_aload_n h0 dX5_purse_60 rfl ?_
        refine z_getO h0 fO6 lk_14 dX5_purse_61 hxo5 ((upA_a _ _ _ (isK_ne hx5 hq54)).trans hxn) ?_
        refine z_cIv (n := 3) (As := [_, _, _]) h0 hts hown (c_X3_init (isK_new (S := S) (q := q54) (k := 3) (n := 0))) gX5_purse_X3_init rfl (by decide +kernel) ⟨Nat.le_of_ble_eq_true rfl, Nat.le_of_ble_eq_true rfl⟩ (hts (.initialized RX3) (by decide +kernel)) (hts (.methodLink RX5 54 yX3_init) (by decide +kernel)) (hts (.instanceMethod yX3_init) (by decide +kernel)) rfl dX5_purse_64 rfl rfl (Nat.le_of_ble_eq_true rfl) ⟨Nat.le_of_ble_eq_true rfl, Nat.le_of_ble_eq_true rfl⟩ (fun S64 hp64 => ?_)
        obtain ⟨q64, hq64, rfl⟩ := hp64
        refine z_G0 h0 (fun hG => ?_)
        have hL := LS_pu (x1 := nI (mP M)) (x2 := y) (t := n0) hC.2.2.2.1 hq54 hq64
        refine z_cVi (n := 1) (As := [_]) h0 hts hown (c_Jx4a65c_add_9ea2d (S := mkPu G S q54 q64 (nI (mP M)) y n0) (hL.1 0 (by omega)) (by omega) ⟨3, by simp, mkPu_K hq64⟩) gX5_purse_Jx4a65c_add_9ea2d rfl (by decide +kernel) ⟨Nat.le_of_ble_eq_true rfl, Nat.le_of_ble_eq_true rfl⟩ kOk7 rfl (hL.1 0 (by omega)).1 dX5_purse_67 rfl rfl (Nat.le_of_ble_eq_true rfl) ⟨Nat.le_of_ble_eq_true rfl, Nat.le_of_ble_eq_true rfl⟩ (fun r67 S67 hp67 => ?_)
        obtain ⟨hp67, -⟩ := hp67
        obtain ⟨hC2, hF2⟩ := RC_own hC hI hP hq54 hq64 hp67 hG
        refine z_pop h0 dX5_purse_70 rfl ?_
        refine z_iload_n h0 dX5_purse_71 rfl ?_
        refine z_x ?_
        exact z_iret h0 hr hlk dX5_purse_72 (Nat.le_of_ble_eq_true rfl) (Nat.le_of_ble_eq_true rfl) (cP_y (by unfold oPurse; rw [if_neg (fun z => z ⟨k2_le h1, h7⟩), if_neg (by omega)]) hC2 hF2)
      · exact z_throw h0 hl hown (by decide +kernel) (hts (.classLink RX5 47 "java/lang/UnsupportedOperationException") (by decide +kernel)) (hts (.initialized "java/lang/UnsupportedOperationException") (by decide +kernel)) (h0.2.2.2.2.2.2.2.2.2.2.1 (49, "too many purses") (by decide +kernel)) (xe_hat xe_bad1 h0.2.2.2.2.2 (by decide +kernel) (fun w hw => hts w (List.mem_cons_of_mem _ (List.mem_append_right _ hw)))) (xe_ot1 _) dX5_purse_32 dX5_purse_35 dX5_purse_36 dX5_purse_38 dX5_purse_41 htab hlk (Nat.le_of_ble_eq_true rfl) (Nat.le_of_ble_eq_true rfl) (Nat.le_of_ble_eq_true rfl) (Nat.le_of_ble_eq_true rfl) (Nat.le_of_ble_eq_true rfl) (Nat.le_of_ble_eq_true rfl) (Or.inr ⟨x2 (by unfold oPurse; rw [if_neg (fun z => z ⟨k2_le h1, h7⟩), if_pos (Nat.le_antisymm (by omega) (Nat.le_of_not_lt (fun w => h29 (nI_lt (b := 12) w (by decide)))))]), rfl⟩)
    · exact z_throw h0 hl hown (by decide +kernel) (hts (.classLink RX5 36 "java/lang/IllegalArgumentException") (by decide +kernel)) (hts (.initialized "java/lang/IllegalArgumentException") (by decide +kernel)) (h0.2.2.2.2.2.2.2.2.2.2.1 (38, "no such balance") (by decide +kernel)) (xe_hat xe_bad0 h0.2.2.2.2.2 (by decide +kernel) (fun w hw => hts w (List.mem_cons_of_mem _ (List.mem_append_left _ (List.mem_append_right _ hw))))) (xe_ot0 _) dX5_purse_10 dX5_purse_13 dX5_purse_14 dX5_purse_16 dX5_purse_19 htab hlk (Nat.le_of_ble_eq_true rfl) (Nat.le_of_ble_eq_true rfl) (Nat.le_of_ble_eq_true rfl) (Nat.le_of_ble_eq_true rfl) (Nat.le_of_ble_eq_true rfl) (Nat.le_of_ble_eq_true rfl) (Or.inl ⟨x1 (by unfold oPurse; rw [if_pos (fun z => h7 z.2)]), rfl⟩)

abbrev rm_X5_begin : Room := { frames := 8, cells := 10, slots := 3080, locals := 215 }
set_option maxRecDepth 100000 in
set_option maxHeartbeats 4000000 in
theorem c_X5_begin {l : Launch} {D : va_G} {cI cZ cO : ClassId} {G : Nat → Nat} {S : PS} (hl : l.stackTraces = false) {x n0 ar : Nat} {L : Nat → Nat} {C : Nat → List Nat} {M : MS} (hC : RC G S x n0 ar L C M) {c : Nat} (hI : MI c M) (hc : c < 512) {y1 y2 z : Int32} : zXi l yX5_begin wsX5_begin rm_X5_begin [.ref x, .int y1, .int y2, .int z] D cI cZ cO G S (fun r S' => cP G S x (oBegin M y1 y2 z) r S') (xBAU (oBegin M y1 y2 z)) := by
  have hx5 := hC.1.1
  have hxn := hC.1.2.1
  have hxo := hC.1.2.2.1
  have hxs := hC.1.2.2.2.1
  have hxa := hC.1.2.2.2.2
  have har := hC.2.2.1.1
  have harr := hC.2.2.1.2
  have hA0 := hC.2.2.2.1.1 0 (by omega)
  have hA1 := hC.2.2.2.1.1 1 (by omega)
  have hA2 := hC.2.2.2.1.1 2 (by omega)
  have h70 := hA0.1
  have h71 := hA1.1
  have h72 := hA2.1
  have hl0 := hC.2.2.2.2.1.1
  have hl1 := hC.2.2.2.2.1.2.1
  have hl2 := hC.2.2.2.2.1.2.2
  have hs0 : pI S 20 (L 0) = nI (mP M) := by rw [← hl0]; exact hA0.2.1
  have hs1 : pI S 20 (L 1) = nI (mM M) := by rw [← hl1]; exact hA1.2.1
  have hs2 : pI S 20 (L 2) = nI (mE M) := by rw [← hl2]; exact hA2.2.1
  have := MI_p hI; have := MI_m hI; have := MI_e hI
  refine z_ofX (cc := cX5_begin) (maxL := 7) (ret := (some .int)) (lo := [some (.ref x), some (.int y1), some (.int y2), some (.int z), none, none, none]) (by decide) rfl rfl (Nat.le_of_ble_eq_true rfl) rfl ?_
  intro pp ee ss mi aa bl mh cd h0 hts hown hr hlk hnm htab
  have hown : ss.vm.findClass RX5 = some mi.cls := hown
  have inX3 : ∀ w ∈ u_ws RX3 TX3 7, w ∈ wsX5_begin := by decide +kernel
  have lk_74 : zLk ss mi aa RX5 74 4 4 := ⟨RX3, TX3, 7, "PurseWorld$Purse", wsX5_begin, rfl, by decide, hts, inX3, hown, hts (.fieldLink RX5 74 "PurseWorld$Purse" "serial" "I") (by decide +kernel), fun _ h => h⟩
  refine z_aload_n h0 dX5_begin_0 rfl ?_
  refine z_iload_n h0 dX5_begin_1 rfl ?_
  refine z_xVr (n := 1) (As := [_]) h0 hts hown (c_X5_purseAt_x hl hC hI hc) gX5_begin_X5_purseAt rfl (by decide +kernel) ⟨Nat.le_of_ble_eq_true rfl, Nat.le_of_ble_eq_true rfl⟩ kOk5 rfl (by assumption) dX5_begin_2 rfl rfl (Nat.le_of_ble_eq_true rfl) ⟨Nat.le_of_ble_eq_true rfl, Nat.le_of_ble_eq_true rfl⟩ htab hlk (Nat.le_of_ble_eq_true rfl) (Nat.le_of_ble_eq_true rfl) (fun E hE => Or.inl ⟨x1 (by unfold oBegin; rw [if_pos (fun z => hE.2 z.1)]), hE.1⟩) (fun r2 S2 hp2 => ?_)
  obtain ⟨rfl, a, ha, rfl, hpa⟩ := hp2
  have hin := inR_of ha (by omega)
  have e1 := ix_of (x := nI a) rfl (by omega)
  refine z_astore (lo' := [_, _, _, _, _, _, _]) h0 dX5_begin_5 (by decide) rfl rfl ?_
  refine z_aload_n h0 dX5_begin_7 rfl ?_
  refine z_iload_n h0 dX5_begin_8 rfl ?_
  refine z_xVr (n := 1) (As := [_]) h0 hts hown (c_X5_purseAt_x hl hC hI hc) gX5_begin_X5_purseAt rfl (by decide +kernel) ⟨Nat.le_of_ble_eq_true rfl, Nat.le_of_ble_eq_true rfl⟩ kOk5 rfl (by assumption) dX5_begin_9 rfl rfl (Nat.le_of_ble_eq_true rfl) ⟨Nat.le_of_ble_eq_true rfl, Nat.le_of_ble_eq_true rfl⟩ htab hlk (Nat.le_of_ble_eq_true rfl) (Nat.le_of_ble_eq_true rfl) (fun E hE => Or.inl ⟨x1 (by unfold oBegin; rw [if_pos (fun z => hE.2 z.2)]), hE.1⟩) (fun r9 S9 hp9 => ?_)
  obtain ⟨rfl, a2, ha2, rfl, hpa2⟩ := hp9
  have hin2 := inR_of ha2 (by omega)
  have e2 := ix_of (x := nI a2) rfl (by omega)
  have hpr2 := hC.2.2.2.2.2.1 a2 _ hpa2
  have k32 := hpr2.1
  refine z_astore (lo' := [_, _, _, _, _, _, _]) h0 dX5_begin_12 (by decide) rfl rfl ?_
  refine z_iload_n h0 dX5_begin_14 rfl ?_
  refine z_iload_n h0 dX5_begin_15 rfl ?_
  refine z_icmp_ne (tgt := 29) h0 dX5_begin_16 (by decide) (fun h16 => ?_) (fun h16 => ?_)
  · refine z_iload_n h0 dX5_begin_29 rfl ?_
    refine z_iconst (v := 1) h0 dX5_begin_30 (by decide) ?_
    refine z_icmp_lt (tgt := 40) h0 dX5_begin_31 (by decide) (fun h31 => ?_) (fun h31 => ?_)
    · exact z_throw h0 hl hown (by decide +kernel) (hts (.classLink RX5 36 "java/lang/IllegalArgumentException") (by decide +kernel)) (hts (.initialized "java/lang/IllegalArgumentException") (by decide +kernel)) (h0.2.2.2.2.2.2.2.2.2.2.1 (68, "no such amount") (by decide +kernel)) (xe_hat xe_bad0 h0.2.2.2.2.2 (by decide +kernel) (fun w hw => hts w (List.mem_cons_of_mem _ (List.mem_append_left _ (List.mem_append_left _ (List.mem_append_right _ hw)))))) (xe_ot0 _) dX5_begin_40 dX5_begin_43 dX5_begin_44 dX5_begin_46 dX5_begin_49 htab hlk (Nat.le_of_ble_eq_true rfl) (Nat.le_of_ble_eq_true rfl) (Nat.le_of_ble_eq_true rfl) (Nat.le_of_ble_eq_true rfl) (Nat.le_of_ble_eq_true rfl) (Nat.le_of_ble_eq_true rfl) (Or.inr (Or.inl ⟨x2 (by unfold oBegin; rw [if_neg (fun z => z ⟨hin, hin2⟩), if_pos (Or.inr (fun w => k2_nlt w.1 h31))]), rfl⟩))
    · refine z_iload_n h0 dX5_begin_34 rfl ?_
      refine z_ldc h0 hown (hts (.constant RX5 67 (1000000)) (by decide +kernel)) dX5_begin_35 ?_
      refine z_icmp_le (tgt := 50) h0 dX5_begin_37 (by decide) (fun h37 => ?_) (fun h37 => ?_)
      · have hok : ¬ (nI a = nI a2 ∨ ¬ (1 ≤ z ∧ z ≤ 1000000)) := fun w => w.elim h16 (fun w => w ⟨k2_le h31, h37⟩)
        refine z_aload_n h0 dX5_begin_50 rfl ?_
        refine z_iconst (v := 2) h0 dX5_begin_51 (by decide) ?_
        refine z_top zc2 ?_
        refine z_xVv (n := 1) (As := [_]) h0 hts hown (c_X5_needRoomFor_x hl hC hI hc (k := 2) (by decide)) gX5_begin_X5_needRoomFor rfl (by decide +kernel) ⟨Nat.le_of_ble_eq_true rfl, Nat.le_of_ble_eq_true rfl⟩ kOk5 rfl (by assumption) dX5_begin_52 rfl rfl (Nat.le_of_ble_eq_true rfl) ⟨Nat.le_of_ble_eq_true rfl, Nat.le_of_ble_eq_true rfl⟩ htab hlk (Nat.le_of_ble_eq_true rfl) (Nat.le_of_ble_eq_true rfl) (fun E hE => Or.inr (Or.inr ⟨x3 (by unfold oBegin; rw [if_neg (fun z => z ⟨hin, hin2⟩), if_neg hok, if_pos hE.2]), hE.1⟩)) (fun S52 hp52 => ?_)
        obtain ⟨rfl, hm2⟩ := hp52
        refine z_aload_n h0 dX5_begin_55 rfl ?_
        refine z_iconst (v := 0) h0 dX5_begin_56 (by decide) ?_
        refine z_iload_n h0 dX5_begin_57 rfl ?_
        refine z_new h0 nOk4 hts (by decide +kernel) tyX4 tyX4_ok hown (hts (.classLink RX5 7 RX4) (by decide +kernel)) (hts (.instantiable RX4 5) (by decide +kernel)) (hts (.initialized RX4) (by decide +kernel)) rfl (fun j hj => by rcases (show j = 0 ∨ j = 1 ∨ j = 2 ∨ j = 3 ∨ j = 4 by omega) with rfl | rfl | rfl | rfl | rfl <;> rfl) (Nat.le_of_ble_eq_true rfl) (Nat.le_of_ble_eq_true rfl) dX5_begin_58 (fun q58 hq58 => ?_)
        have k3n := isK_old (k := 4) (n := 0) k32 hq58
        refine z_dup h0 dX5_begin_61 rfl ?_
        refine z_iload_n h0 dX5_begin_62 rfl ?_
        refine z_iconst (v := 0) h0 dX5_begin_63 (by decide) ?_
        refine z_iload_n h0 dX5_begin_64 rfl ?_
        refine z_aload h0 dX5_begin_65 rfl ?_
        refine z_getI h0 fI8 lk_74 dX5_begin_67 (by assumption) ?_
        refine z_top ((upA_a _ _ _ (isK_ne k32 hq58)).trans hpr2.2.2.2.2.2.1) ?_
        refine z_iload_n h0 dX5_begin_70 rfl ?_
        refine z_cIv (n := 5) (As := [_, _, _, _, _]) h0 hts hown (c_X4_init (isK_new (S := S) (q := q58) (k := 4) (n := 0))) gX5_begin_X4_init rfl (by decide +kernel) ⟨Nat.le_of_ble_eq_true rfl, Nat.le_of_ble_eq_true rfl⟩ (hts (.initialized RX4) (by decide +kernel)) (hts (.methodLink RX5 11 yX4_init) (by decide +kernel)) (hts (.instanceMethod yX4_init) (by decide +kernel)) rfl dX5_begin_71 rfl rfl (Nat.le_of_ble_eq_true rfl) ⟨Nat.le_of_ble_eq_true rfl, Nat.le_of_ble_eq_true rfl⟩ (fun S71 hp71 => ?_)
        subst hp71
        have hC1 : RC G (mkTr S q58 (nI a, 0, nI a2, mA M 1 a2, z)) x n0 ar L C (sT M (72 + mM M) (nI a, 0, nI a2, mA M 1 a2, z)) := RC_slot (RC_mkTr hC hq58) hI (by omega) rfl rfl rfl (fun _ _ _ => rfl) (fun q hq => mT_a hq)
        have hI1 : MIb (2 * c + 1) c (sT M (72 + mM M) (nI a, 0, nI a2, mA M 1 a2, z)) := MIb_slot hI (by omega) _
        refine z_cVi (n := 3) (As := [_, _, _]) h0 hts hown (c_X5_send hC1 hI1 (show mM M < 800 by omega) (k := 0) (to := nI a) (t := q58) (r := 72 + mM M) mkTr_K (mkTr_tr.trans mT_s.symm) (by decide) (by decide)) gX5_begin_X5_send rfl (by decide +kernel) ⟨Nat.le_of_ble_eq_true rfl, Nat.le_of_ble_eq_true rfl⟩ kOk5 rfl hC1.1.1 dX5_begin_74 rfl rfl (Nat.le_of_ble_eq_true rfl) ⟨Nat.le_of_ble_eq_true rfl, Nat.le_of_ble_eq_true rfl⟩ (fun r74 S74 hp74 => ?_)
        obtain ⟨⟨v1, hC2⟩, hF2, hr74⟩ := hp74
        subst hr74
        have hF12 := KF_trans (KF_mkTr (t := (nI a, 0, nI a2, mA M 1 a2, z)) hq58) hF2
        have hI2 : MIb (2 * c + 1) c (mSend (sT M (72 + mM M) (nI a, 0, nI a2, mA M 1 a2, z)) 0 (nI a) (72 + mM M)) := MIb_send (k := nI 0) hI1 (show mM M < 800 by omega) (gOk_send (M := (sT M (72 + mM M) (nI a, 0, nI a2, mA M 1 a2, z))) (by decide) (by rw [mT_s]; exact ⟨a, a2, ha, ha2, fun w => h16 (by rw [w]), rfl, rfl⟩) ha (fun _ => by rw [mT_s]; rfl) (fun w => absurd w (by decide)))
        have hprA := hC2.2.2.2.2.2.1 a r2 (by rw [va_up_ne _ _ (by decide)]; exact hpa)
        have k31 := hprA.1
        refine z_istore (lo' := [_, _, _, _, _, _, _]) h0 dX5_begin_77 (by decide) rfl rfl ?_
        refine z_aload_n h0 dX5_begin_79 rfl ?_
        refine z_iconst (v := 1) h0 dX5_begin_80 (by decide) ?_
        refine z_iload_n h0 dX5_begin_81 rfl ?_
        refine z_new h0 nOk4 hts (by decide +kernel) tyX4 tyX4_ok hown (hts (.classLink RX5 7 RX4) (by decide +kernel)) (hts (.instantiable RX4 5) (by decide +kernel)) (hts (.initialized RX4) (by decide +kernel)) rfl (fun j hj => by rcases (show j = 0 ∨ j = 1 ∨ j = 2 ∨ j = 3 ∨ j = 4 by omega) with rfl | rfl | rfl | rfl | rfl <;> rfl) (Nat.le_of_ble_eq_true rfl) (Nat.le_of_ble_eq_true rfl) dX5_begin_82 (fun q82 hq82 => ?_)
        have k3m := isK_old (k := 4) (n := 0) k31 hq82
        refine z_dup h0 dX5_begin_85 rfl ?_
        refine z_iload_n h0 dX5_begin_86 rfl ?_
        refine z_aload h0 dX5_begin_87 rfl ?_
        refine z_getI h0 fI8 lk_74 dX5_begin_89 (by assumption) ?_
        refine z_top (y := mA M 1 a) (((upA_a _ _ _ (isK_ne k31 hq82)).trans hprA.2.2.2.2.2.1).trans (mSend_A (M := (sT M (72 + mM M) (nI a, 0, nI a2, mA M 1 a2, z))) (Or.inl (by decide)))) ?_
        refine z_iload_n h0 dX5_begin_92 rfl ?_
        refine z_iconst (v := 0) h0 dX5_begin_93 (by decide) ?_
        refine z_iload_n h0 dX5_begin_94 rfl ?_
        refine z_cIv (n := 5) (As := [_, _, _, _, _]) h0 hts hown (c_X4_init (isK_new (S := S74) (q := q82) (k := 4) (n := 0))) gX5_begin_X4_init rfl (by decide +kernel) ⟨Nat.le_of_ble_eq_true rfl, Nat.le_of_ble_eq_true rfl⟩ (hts (.initialized RX4) (by decide +kernel)) (hts (.methodLink RX5 11 yX4_init) (by decide +kernel)) (hts (.instanceMethod yX4_init) (by decide +kernel)) rfl dX5_begin_95 rfl rfl (Nat.le_of_ble_eq_true rfl) ⟨Nat.le_of_ble_eq_true rfl, Nat.le_of_ble_eq_true rfl⟩ (fun S95 hp95 => ?_)
        subst hp95
        have hC3 : RC G (mkTr S74 q82 (nI a, mA M 1 a, nI a2, 0, z)) x n0 ar L _ (sT (mSend (sT M (72 + mM M) (nI a, 0, nI a2, mA M 1 a2, z)) 0 (nI a) (72 + mM M)) (72 + (mM M + 1)) (nI a, mA M 1 a, nI a2, 0, z)) := RC_slot (RC_mkTr hC2 hq82) hI2 (show mM M + 1 < 800 by omega) rfl rfl rfl (fun _ _ _ => rfl) (fun q hq => mT_a hq)
        have hI3 : MIb (2 * c + 1) c (sT (mSend (sT M (72 + mM M) (nI a, 0, nI a2, mA M 1 a2, z)) 0 (nI a) (72 + mM M)) (72 + (mM M + 1)) (nI a, mA M 1 a, nI a2, 0, z)) := MIb_slot hI2 (show mM M + 1 < 800 by omega) _
        refine z_cVi (n := 3) (As := [_, _, _]) h0 hts hown (c_X5_send hC3 hI3 (show mM M + 1 < 800 by omega) (k := 1) (to := nI a2) (t := q82) (r := 72 + (mM M + 1)) mkTr_K (mkTr_tr.trans mT_s.symm) (by decide) (by decide)) gX5_begin_X5_send rfl (by decide +kernel) ⟨Nat.le_of_ble_eq_true rfl, Nat.le_of_ble_eq_true rfl⟩ kOk5 rfl hC3.1.1 dX5_begin_98 rfl rfl (Nat.le_of_ble_eq_true rfl) ⟨Nat.le_of_ble_eq_true rfl, Nat.le_of_ble_eq_true rfl⟩ (fun r98 S98 hp98 => ?_)
        obtain ⟨⟨v2, hC4⟩, hF4, -⟩ := hp98
        refine z_pop h0 dX5_begin_101 rfl ?_
        refine z_iload h0 dX5_begin_102 rfl ?_
        refine z_x ?_
        exact z_iret h0 hr hlk dX5_begin_104 (Nat.le_of_ble_eq_true rfl) (Nat.le_of_ble_eq_true rfl) (cP_y (by unfold oBegin; rw [if_neg (fun z => z ⟨hin, hin2⟩), if_neg hok, if_neg (by omega)]; unfold mBegin mBeg; rw [e1, e2]) hC4 (KF_trans hF12 (KF_trans (KF_mkTr (t := (nI a, mA M 1 a, nI a2, 0, z)) hq82) hF4)))
      · exact z_throw h0 hl hown (by decide +kernel) (hts (.classLink RX5 36 "java/lang/IllegalArgumentException") (by decide +kernel)) (hts (.initialized "java/lang/IllegalArgumentException") (by decide +kernel)) (h0.2.2.2.2.2.2.2.2.2.2.1 (68, "no such amount") (by decide +kernel)) (xe_hat xe_bad0 h0.2.2.2.2.2 (by decide +kernel) (fun w hw => hts w (List.mem_cons_of_mem _ (List.mem_append_left _ (List.mem_append_left _ (List.mem_append_right _ hw)))))) (xe_ot0 _) dX5_begin_40 dX5_begin_43 dX5_begin_44 dX5_begin_46 dX5_begin_49 htab hlk (Nat.le_of_ble_eq_true rfl) (Nat.le_of_ble_eq_true rfl) (Nat.le_of_ble_eq_true rfl) (Nat.le_of_ble_eq_true rfl) (Nat.le_of_ble_eq_true rfl) (Nat.le_of_ble_eq_true rfl) (Or.inr (Or.inl ⟨x2 (by unfold oBegin; rw [if_neg (fun z => z ⟨hin, hin2⟩), if_pos (Or.inr (fun w => h37 w.2))]), rfl⟩))
  · exact z_throw h0 hl hown (by decide +kernel) (hts (.classLink RX5 36 "java/lang/IllegalArgumentException") (by decide +kernel)) (hts (.initialized "java/lang/IllegalArgumentException") (by decide +kernel)) (h0.2.2.2.2.2.2.2.2.2.2.1 (65, "a purse cannot pay itself") (by decide +kernel)) (xe_hat xe_bad0 h0.2.2.2.2.2 (by decide +kernel) (fun w hw => hts w (List.mem_cons_of_mem _ (List.mem_append_left _ (List.mem_append_left _ (List.mem_append_right _ hw)))))) (xe_ot0 _) dX5_begin_19 dX5_begin_22 dX5_begin_23 dX5_begin_25 dX5_begin_28 htab hlk (Nat.le_of_ble_eq_true rfl) (Nat.le_of_ble_eq_true rfl) (Nat.le_of_ble_eq_true rfl) (Nat.le_of_ble_eq_true rfl) (Nat.le_of_ble_eq_true rfl) (Nat.le_of_ble_eq_true rfl) (Or.inr (Or.inl ⟨x2 (by unfold oBegin; rw [if_neg (fun z => z ⟨hin, hin2⟩), if_pos (Or.inl h16)]), rfl⟩))

end CLS7
