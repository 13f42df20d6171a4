/-! THE CLASS: calls that tell. -/
section CLS2
def RepC (G : Nat → Nat) (S : PS) (x : Nat) (M : MS) : Prop := ∃ n0 ar L C, RC G S x n0 ar L C M
/-- what the class's call leaves where it doesn't throw -/
def cP (G : Nat → Nat) (S : PS) (x : Nat) (o : OR) (r : Int32) (S' : PS) : Prop := o.1 = 0 ∧ r = o.2.1 ∧ RepC G S' x o.2.2 ∧ KF S S'
theorem cP_q {G : Nat → Nat} {S : PS} {x n0 ar : Nat} {L : Nat → Nat} {C : Nat → List Nat} {M : MS} {o : OR} {r : Int32} (hC : RC G S x n0 ar L C M) (ho : o = (0, r, M)) : cP G S x o r S := by
  subst ho; exact ⟨rfl, rfl, ⟨n0, ar, L, C, hC⟩, KF_refl S⟩
theorem cP_y {G : Nat → Nat} {S S' : PS} {x n0 ar : Nat} {L : Nat → Nat} {C : Nat → List Nat} {M : MS} {o : OR} {r : Int32} (ho : o = (0, r, M)) (hC : RC G S' x n0 ar L C M) (hF : KF S S') : cP G S x o r S' := by
  subst ho; exact ⟨rfl, rfl, ⟨n0, ar, L, C, hC⟩, hF⟩
abbrev xBA (o : OR) (E : String) : Prop := (o.1 = 1 ∧ E = eB) ∨ (o.1 = 2 ∧ E = eA)
theorem x1 {o : OR} {M : MS} (h : o = (1, 0, M)) : o.1 = 1 := by rw [h]
theorem x2 {o : OR} {M : MS} (h : o = (2, 0, M)) : o.1 = 2 := by rw [h]
theorem x3 {o : OR} {M : MS} (h : o = (3, 0, M)) : o.1 = 3 := by rw [h]

abbrev rm_X5_told : Room := { frames := 7, cells := 2, slots := 12, locals := 111 }
set_option maxRecDepth 100000 in
set_option maxHeartbeats 4000000 in
theorem c_X5_told {l : Launch} {D : va_G} {cI cZ cO : ClassId} {G : Nat → Nat} {S : PS} (hl : l.stackTraces = false) {x n0 ar : Nat} {L : Nat → Nat} {C : Nat → List Nat} {M : MS} (hC : RC G S x n0 ar L C M) {c : Nat} (hI : MI c M) (hc : c < 512) {y w : Int32} : zXi l yX5_told wsX5_told rm_X5_told [.ref x, .int y, .int w] D cI cZ cO G S (fun r S' => cP G S x (oTold M y w) r S') (xBA (oTold M y w)) := by
  have hx5 := hC.1.1
  have hxn := hC.1.2.1
  have hxo := hC.1.2.2.1
  have hxs := hC.1.2.2.2.1
  have hxa := hC.1.2.2.2.2
  have har := hC.2.2.1.1
  have harr := hC.2.2.1.2
  have hA0 := hC.2.2.2.1.1 0 (by omega)
  have hA1 := hC.2.2.2.1.1 1 (by omega)
  have hA2 := hC.2.2.2.1.1 2 (by omega)
  have h70 := hA0.1
  have h71 := hA1.1
  have h72 := hA2.1
  have hl0 := hC.2.2.2.2.1.1
  have hl1 := hC.2.2.2.2.1.2.1
  have hl2 := hC.2.2.2.2.1.2.2
  have hs0 : pI S 20 (L 0) = nI (mP M) := by rw [← hl0]; exact hA0.2.1
  have hs1 : pI S 20 (L 1) = nI (mM M) := by rw [← hl1]; exact hA1.2.1
  have hs2 : pI S 20 (L 2) = nI (mE M) := by rw [← hl2]; exact hA2.2.1
  have := MI_p hI; have := MI_m hI; have := MI_e hI
  refine z_ofX (cc := cX5_told) (maxL := 4) (ret := (some .int)) (lo := [some (.ref x), some (.int y), some (.int w), none]) (by decide) rfl rfl (Nat.le_of_ble_eq_true rfl) rfl ?_
  intro pp ee ss mi aa bl mh cd h0 hts hown hr hlk hnm htab
  have hown : ss.vm.findClass RX5 = some mi.cls := hown
  have inX3 : ∀ w ∈ u_ws RX3 TX3 7, w ∈ wsX5_told := by decide +kernel
  have lk_74 : zLk ss mi aa RX5 74 4 4 := ⟨RX3, TX3, 7, "PurseWorld$Purse", wsX5_told, rfl, by decide, hts, inX3, hown, hts (.fieldLink RX5 74 "PurseWorld$Purse" "serial" "I") (by decide +kernel), fun _ h => h⟩
  have lk_123 : zLk ss mi aa RX5 123 4 5 := ⟨RX3, TX3, 7, "PurseWorld$Purse", wsX5_told, rfl, by decide, hts, inX3, hown, hts (.fieldLink RX5 123 "PurseWorld$Purse" "state" "I") (by decide +kernel), fun _ h => h⟩
  have lk_134 : zLk ss mi aa RX5 134 4 2 := ⟨RX3, TX3, 7, "PurseWorld$Purse", wsX5_told, rfl, by decide, hts, inX3, hown, hts (.fieldLink RX5 134 "PurseWorld$Purse" "kept" "Ljava/util/ArrayList;") (by decide +kernel), fun _ h => h⟩
  have lk_179 : zLk ss mi aa RX5 179 4 3 := ⟨RX3, TX3, 7, "PurseWorld$Purse", wsX5_told, rfl, by decide, hts, inX3, hown, hts (.fieldLink RX5 179 "PurseWorld$Purse" "balance" "I") (by decide +kernel), fun _ h => h⟩
  refine z_aload_n h0 dX5_told_0 rfl ?_
  refine z_iload_n h0 dX5_told_1 rfl ?_
  refine z_xVr (n := 1) (As := [_]) h0 hts hown (c_X5_purseAt_x hl hC hI hc) gX5_told_X5_purseAt rfl (by decide +kernel) ⟨Nat.le_of_ble_eq_true rfl, Nat.le_of_ble_eq_true rfl⟩ kOk5 rfl (by assumption) dX5_told_2 rfl rfl (Nat.le_of_ble_eq_true rfl) ⟨Nat.le_of_ble_eq_true rfl, Nat.le_of_ble_eq_true rfl⟩ htab hlk (Nat.le_of_ble_eq_true rfl) (Nat.le_of_ble_eq_true rfl) (fun E hE => Or.inl ⟨x1 (by unfold oTold; rw [if_pos hE.2]), hE.1⟩) (fun r2 S2 hp2 => ?_)
  obtain ⟨rfl, a, ha, rfl, hpa⟩ := hp2
  have hin := inR_of ha (by omega)
  have e1 := ix_of (x := nI a) rfl (by omega)
  have hpr := hC.2.2.2.2.2.1 a _ hpa
  have k3 := hpr.1
  have pnum := hpr.2.1
  have pnot := hpr.2.2.1
  have pkept := hpr.2.2.2.1
  have pbal := hpr.2.2.2.2.1
  have pser := hpr.2.2.2.2.2.1
  have pst := hpr.2.2.2.2.2.2.1
  have pln := hpr.2.2.2.2.2.2.2.1
  obtain ⟨cu, pcu, cu4, cu0, cuT⟩ := hpr.2.2.2.2.2.2.2.2.1
  have plog := hpr.2.2.2.2.2.2.2.2.2
  have hAk := hC.2.2.2.1.1 (a + 3) (by omega)
  have h7k := hAk.1
  have hsk := hAk.2.1
  refine z_astore_n (lo' := [_, _, _, _]) h0 dX5_told_5 (by decide) rfl rfl ?_
  refine z_iload_n h0 dX5_told_6 rfl ?_
  by_cases hw7 : 0 ≤ w ∧ w ≤ 3
  · obtain ⟨w0, hw0, rfl⟩ := nI_of2 (M := 3) (n := 3) (by decide) (k2_nlt hw7.1) hw7.2
    rcases (show w0 = 0 ∨ w0 = 1 ∨ w0 = 2 ∨ w0 = 3 by omega) with rfl | rfl | rfl | rfl
    · refine z_tableIn (off := 29) (tgt := 36) h0 dX5_told_7 (by decide) (by decide) (by decide) (by decide) ?_
      refine z_aload_n h0 dX5_told_36 rfl ?_
      refine z_getI h0 fI7 lk_179 dX5_told_37 (by assumption) ?_
      refine z_x ?_
      exact z_iret h0 hr hlk dX5_told_40 (Nat.le_of_ble_eq_true rfl) (Nat.le_of_ble_eq_true rfl) (cP_q hC (by unfold oTold; rw [if_neg (fun z => z hin), if_neg (fun z => z hw7), e1, if_pos (by decide), pbal]))
    · refine z_tableIn (off := 34) (tgt := 41) h0 dX5_told_7 (by decide) (by decide) (by decide) (by decide) ?_
      refine z_aload_n h0 dX5_told_41 rfl ?_
      refine z_getI h0 fI8 lk_74 dX5_told_42 (by assumption) ?_
      refine z_x ?_
      exact z_iret h0 hr hlk dX5_told_45 (Nat.le_of_ble_eq_true rfl) (Nat.le_of_ble_eq_true rfl) (cP_q hC (by unfold oTold; rw [if_neg (fun z => z hin), if_neg (fun z => z hw7), e1, if_neg (by decide), if_pos (by decide), pser]))
    · refine z_tableIn (off := 39) (tgt := 46) h0 dX5_told_7 (by decide) (by decide) (by decide) (by decide) ?_
      refine z_aload_n h0 dX5_told_46 rfl ?_
      refine z_getI h0 fI9 lk_123 dX5_told_47 (by assumption) ?_
      refine z_x ?_
      exact z_iret h0 hr hlk dX5_told_50 (Nat.le_of_ble_eq_true rfl) (Nat.le_of_ble_eq_true rfl) (cP_q hC (by unfold oTold; rw [if_neg (fun z => z hin), if_neg (fun z => z hw7), e1, if_neg (by decide), if_neg (by decide), if_pos (by decide), pst]))
    · refine z_tableIn (off := 44) (tgt := 51) h0 dX5_told_7 (by decide) (by decide) (by decide) (by decide) ?_
      refine z_aload_n h0 dX5_told_51 rfl ?_
      refine z_getO h0 fO4 lk_134 dX5_told_52 (by assumption) (by assumption) ?_
      refine z_cVi (n := 0) (As := []) h0 hts hown (c_Jx4a65c_size_8abf5 h7k) gX5_told_Jx4a65c_size_8abf5 rfl (by decide +kernel) ⟨Nat.le_of_ble_eq_true rfl, Nat.le_of_ble_eq_true rfl⟩ kOk7 rfl (by assumption) dX5_told_55 rfl rfl (Nat.le_of_ble_eq_true rfl) ⟨Nat.le_of_ble_eq_true rfl, Nat.le_of_ble_eq_true rfl⟩ (fun r55 S55 hp55 => ?_)
      obtain ⟨rfl, hr55⟩ := hp55
      rw [hsk, ← pln] at hr55
      subst hr55
      refine z_x ?_
      exact z_iret h0 hr hlk dX5_told_58 (Nat.le_of_ble_eq_true rfl) (Nat.le_of_ble_eq_true rfl) (cP_q hC (by unfold oTold; rw [if_neg (fun z => z hin), if_neg (fun z => z hw7), e1, if_neg (by decide), if_neg (by decide), if_neg (by decide)]))
  · refine z_tableOut (tgt := 59) h0 dX5_told_7 (sw_out (by decide) hw7) (by decide) ?_
    exact z_throw h0 hl hown (by decide +kernel) (hts (.classLink RX5 36 "java/lang/IllegalArgumentException") (by decide +kernel)) (hts (.initialized "java/lang/IllegalArgumentException") (by decide +kernel)) (h0.2.2.2.2.2.2.2.2.2.2.1 (185, "a purse tells 0 to 3") (by decide +kernel)) (xe_hat xe_bad0 h0.2.2.2.2.2 (by decide +kernel) (fun w hw => hts w (List.mem_cons_of_mem _ (List.mem_append_left _ (List.mem_append_right _ hw))))) (xe_ot0 _) dX5_told_59 dX5_told_62 dX5_told_63 dX5_told_65 dX5_told_68 htab hlk (Nat.le_of_ble_eq_true rfl) (Nat.le_of_ble_eq_true rfl) (Nat.le_of_ble_eq_true rfl) (Nat.le_of_ble_eq_true rfl) (Nat.le_of_ble_eq_true rfl) (Nat.le_of_ble_eq_true rfl) (Or.inr ⟨x2 (by unfold oTold; rw [if_neg (fun z => z hin), if_pos hw7]), rfl⟩)

abbrev rm_X5_transfer : Room := { frames := 7, cells := 2, slots := 12, locals := 111 }
set_option maxRecDepth 100000 in
set_option maxHeartbeats 4000000 in
theorem c_X5_transfer {l : Launch} {D : va_G} {cI cZ cO : ClassId} {G : Nat → Nat} {S : PS} (hl : l.stackTraces = false) {x n0 ar : Nat} {L : Nat → Nat} {C : Nat → List Nat} {M : MS} (hC : RC G S x n0 ar L C M) {c : Nat} (hI : MI c M) (hc : c < 512) {y w : Int32} : zXi l yX5_transfer wsX5_transfer rm_X5_transfer [.ref x, .int y, .int w] D cI cZ cO G S (fun r S' => cP G S x (oTransfer M y w) r S') (xBA (oTransfer M y w)) := by
  have hx5 := hC.1.1
  have hxn := hC.1.2.1
  have hxo := hC.1.2.2.1
  have hxs := hC.1.2.2.2.1
  have hxa := hC.1.2.2.2.2
  have har := hC.2.2.1.1
  have harr := hC.2.2.1.2
  have hA0 := hC.2.2.2.1.1 0 (by omega)
  have hA1 := hC.2.2.2.1.1 1 (by omega)
  have hA2 := hC.2.2.2.1.1 2 (by omega)
  have h70 := hA0.1
  have h71 := hA1.1
  have h72 := hA2.1
  have hl0 := hC.2.2.2.2.1.1
  have hl1 := hC.2.2.2.2.1.2.1
  have hl2 := hC.2.2.2.2.1.2.2
  have hs0 : pI S 20 (L 0) = nI (mP M) := by rw [← hl0]; exact hA0.2.1
  have hs1 : pI S 20 (L 1) = nI (mM M) := by rw [← hl1]; exact hA1.2.1
  have hs2 : pI S 20 (L 2) = nI (mE M) := by rw [← hl2]; exact hA2.2.1
  have := MI_p hI; have := MI_m hI; have := MI_e hI
  refine z_ofX (cc := cX5_transfer) (maxL := 3) (ret := (some .int)) (lo := [some (.ref x), some (.int y), some (.int w)]) (by decide) rfl rfl (Nat.le_of_ble_eq_true rfl) rfl ?_
  intro pp ee ss mi aa bl mh cd h0 hts hown hr hlk hnm htab
  have hown : ss.vm.findClass RX5 = some mi.cls := hown
  have inX3 : ∀ w ∈ u_ws RX3 TX3 7, w ∈ wsX5_transfer := by decide +kernel
  have lk_187 : zLk ss mi aa RX5 187 4 6 := ⟨RX3, TX3, 7, "PurseWorld$Purse", wsX5_transfer, rfl, by decide, hts, inX3, hown, hts (.fieldLink RX5 187 "PurseWorld$Purse" "current" "LPurseWorld$Transfer;") (by decide +kernel), fun _ h => h⟩
  refine z_aload_n h0 dX5_transfer_0 rfl ?_
  refine z_iload_n h0 dX5_transfer_1 rfl ?_
  refine z_xVr (n := 1) (As := [_]) h0 hts hown (c_X5_purseAt_x hl hC hI hc) gX5_transfer_X5_purseAt rfl (by decide +kernel) ⟨Nat.le_of_ble_eq_true rfl, Nat.le_of_ble_eq_true rfl⟩ kOk5 rfl (by assumption) dX5_transfer_2 rfl rfl (Nat.le_of_ble_eq_true rfl) ⟨Nat.le_of_ble_eq_true rfl, Nat.le_of_ble_eq_true rfl⟩ htab hlk (Nat.le_of_ble_eq_true rfl) (Nat.le_of_ble_eq_true rfl) (fun E hE => Or.inl ⟨x1 (by unfold oTransfer; rw [if_pos hE.2]), hE.1⟩) (fun r2 S2 hp2 => ?_)
  obtain ⟨rfl, a, ha, rfl, hpa⟩ := hp2
  have hin := inR_of ha (by omega)
  have e1 := ix_of (x := nI a) rfl (by omega)
  have hpr := hC.2.2.2.2.2.1 a _ hpa
  have k3 := hpr.1
  have pnum := hpr.2.1
  have pnot := hpr.2.2.1
  have pkept := hpr.2.2.2.1
  have pbal := hpr.2.2.2.2.1
  have pser := hpr.2.2.2.2.2.1
  have pst := hpr.2.2.2.2.2.2.1
  have pln := hpr.2.2.2.2.2.2.2.1
  obtain ⟨cu, pcu, cu4, cu0, cuT⟩ := hpr.2.2.2.2.2.2.2.2.1
  have plog := hpr.2.2.2.2.2.2.2.2.2
  have hAk := hC.2.2.2.1.1 (a + 3) (by omega)
  have h7k := hAk.1
  have hsk := hAk.2.1
  refine z_getO h0 fO5 lk_187 dX5_transfer_5 (by assumption) (by assumption) ?_
  refine z_iload_n h0 dX5_transfer_8 rfl ?_
  refine z_xSi (n := 2) (As := [_, _]) h0 hts hown (c_X5_partOf_x hl cu4) gX5_transfer_X5_partOf rfl (by decide +kernel) ⟨Nat.le_of_ble_eq_true rfl, Nat.le_of_ble_eq_true rfl⟩ dX5_transfer_9 rfl rfl (Nat.le_of_ble_eq_true rfl) ⟨Nat.le_of_ble_eq_true rfl, Nat.le_of_ble_eq_true rfl⟩ htab hlk (Nat.le_of_ble_eq_true rfl) (Nat.le_of_ble_eq_true rfl) (fun E hE => Or.inr ⟨x2 (by unfold oTransfer; rw [if_neg (fun z => z hin), if_pos hE.2]), hE.1⟩) (fun r9 S9 hp9 => ?_)
  obtain ⟨rfl, gw, hr9⟩ := hp9
  refine z_x ?_
  exact z_iret h0 hr hlk dX5_transfer_12 (Nat.le_of_ble_eq_true rfl) (Nat.le_of_ble_eq_true rfl) (cP_q hC (by
      unfold oTransfer
      rw [if_neg (fun z => z hin), if_neg (fun z => z gw), e1, hr9]
      by_cases hst : mA M 2 a = 0
      · rw [if_pos hst, cu0 hst, hC.2.1.2]
        obtain ⟨w0, hw0, rfl⟩ := nI_of2 (M := 4) (n := 4) (by decide) (k2_nlt gw.1) gw.2
        rcases (show w0 = 0 ∨ w0 = 1 ∨ w0 = 2 ∨ w0 = 3 ∨ w0 = 4 by omega) with rfl | rfl | rfl | rfl | rfl <;> rfl
      · rw [if_neg hst, cuT hst]))

abbrev rm_X5_log : Room := { frames := 7, cells := 2, slots := 12, locals := 111 }
set_option maxRecDepth 100000 in
set_option maxHeartbeats 4000000 in
theorem c_X5_log {l : Launch} {D : va_G} {cI cZ cO : ClassId} {G : Nat → Nat} {S : PS} (hl : l.stackTraces = false) {x n0 ar : Nat} {L : Nat → Nat} {C : Nat → List Nat} {M : MS} (hC : RC G S x n0 ar L C M) {c : Nat} (hI : MI c M) (hc : c < 512) {y i w : Int32} : zXi l yX5_log wsX5_log rm_X5_log [.ref x, .int y, .int i, .int w] D cI cZ cO G S (fun r S' => cP G S x (oLog M y i w) r S') (xBA (oLog M y i w)) := by
  have hx5 := hC.1.1
  have hxn := hC.1.2.1
  have hxo := hC.1.2.2.1
  have hxs := hC.1.2.2.2.1
  have hxa := hC.1.2.2.2.2
  have har := hC.2.2.1.1
  have harr := hC.2.2.1.2
  have hA0 := hC.2.2.2.1.1 0 (by omega)
  have hA1 := hC.2.2.2.1.1 1 (by omega)
  have hA2 := hC.2.2.2.1.1 2 (by omega)
  have h70 := hA0.1
  have h71 := hA1.1
  have h72 := hA2.1
  have hl0 := hC.2.2.2.2.1.1
  have hl1 := hC.2.2.2.2.1.2.1
  have hl2 := hC.2.2.2.2.1.2.2
  have hs0 : pI S 20 (L 0) = nI (mP M) := by rw [← hl0]; exact hA0.2.1
  have hs1 : pI S 20 (L 1) = nI (mM M) := by rw [← hl1]; exact hA1.2.1
  have hs2 : pI S 20 (L 2) = nI (mE M) := by rw [← hl2]; exact hA2.2.1
  have := MI_p hI; have := MI_m hI; have := MI_e hI
  refine z_ofX (cc := cX5_log) (maxL := 5) (ret := (some .int)) (lo := [some (.ref x), some (.int y), some (.int i), some (.int w), none]) (by decide) rfl rfl (Nat.le_of_ble_eq_true rfl) rfl ?_
  intro pp ee ss mi aa bl mh cd h0 hts hown hr hlk hnm htab
  have hown : ss.vm.findClass RX5 = some mi.cls := hown
  have inX3 : ∀ w ∈ u_ws RX3 TX3 7, w ∈ wsX5_log := by decide +kernel
  have lk_134 : zLk ss mi aa RX5 134 4 2 := ⟨RX3, TX3, 7, "PurseWorld$Purse", wsX5_log, rfl, by decide, hts, inX3, hown, hts (.fieldLink RX5 134 "PurseWorld$Purse" "kept" "Ljava/util/ArrayList;") (by decide +kernel), fun _ h => h⟩
  refine z_aload_n h0 dX5_log_0 rfl ?_
  refine z_iload_n h0 dX5_log_1 rfl ?_
  refine z_xVr (n := 1) (As := [_]) h0 hts hown (c_X5_purseAt_x hl hC hI hc) gX5_log_X5_purseAt rfl (by decide +kernel) ⟨Nat.le_of_ble_eq_true rfl, Nat.le_of_ble_eq_true rfl⟩ kOk5 rfl (by assumption) dX5_log_2 rfl rfl (Nat.le_of_ble_eq_true rfl) ⟨Nat.le_of_ble_eq_true rfl, Nat.le_of_ble_eq_true rfl⟩ htab hlk (Nat.le_of_ble_eq_true rfl) (Nat.le_of_ble_eq_true rfl) (fun E hE => Or.inl ⟨x1 (by unfold oLog; rw [if_pos hE.2]), hE.1⟩) (fun r2 S2 hp2 => ?_)
  obtain ⟨rfl, a, ha, rfl, hpa⟩ := hp2
  have hin := inR_of ha (by omega)
  have e1 := ix_of (x := nI a) rfl (by omega)
  have hpr := hC.2.2.2.2.2.1 a _ hpa
  have k3 := hpr.1
  have pnum := hpr.2.1
  have pnot := hpr.2.2.1
  have pkept := hpr.2.2.2.1
  have pbal := hpr.2.2.2.2.1
  have pser := hpr.2.2.2.2.2.1
  have pst := hpr.2.2.2.2.2.2.1
  have pln := hpr.2.2.2.2.2.2.2.1
  obtain ⟨cu, pcu, cu4, cu0, cuT⟩ := hpr.2.2.2.2.2.2.2.2.1
  have plog := hpr.2.2.2.2.2.2.2.2.2
  have hAk := hC.2.2.2.1.1 (a + 3) (by omega)
  have h7k := hAk.1
  have hsk := hAk.2.1
  refine z_astore (lo' := [_, _, _, _, _]) h0 dX5_log_5 (by decide) rfl rfl ?_
  refine z_iload_n h0 dX5_log_7 rfl ?_
  refine z_if_lt (tgt := 23) h0 dX5_log_8 (by decide) (fun h8 => ?_) (fun h8 => ?_)
  · exact z_throw h0 hl hown (by decide +kernel) (hts (.classLink RX5 194 "java/lang/IndexOutOfBoundsException") (by decide +kernel)) (hts (.initialized "java/lang/IndexOutOfBoundsException") (by decide +kernel)) (h0.2.2.2.2.2.2.2.2.2.2.1 (196, "no such transfer in the log") (by decide +kernel)) (xe_hat xe_bad2 h0.2.2.2.2.2 (by decide +kernel) (fun w hw => hts w (List.mem_cons_of_mem _ (List.mem_append_left _ (List.mem_append_right _ hw))))) (xe_ot2 _) dX5_log_23 dX5_log_26 dX5_log_27 dX5_log_29 dX5_log_32 htab hlk (Nat.le_of_ble_eq_true rfl) (Nat.le_of_ble_eq_true rfl) (Nat.le_of_ble_eq_true rfl) (Nat.le_of_ble_eq_true rfl) (Nat.le_of_ble_eq_true rfl) (Nat.le_of_ble_eq_true rfl) (Or.inl ⟨x1 (by unfold oLog; rw [if_neg (fun z => z hin), e1, if_pos (inR_neg h8)]), rfl⟩)
  · refine z_iload_n h0 dX5_log_11 rfl ?_
    refine z_aload h0 dX5_log_12 rfl ?_
    refine z_getO h0 fO4 lk_134 dX5_log_14 (by assumption) (by assumption) ?_
    refine z_cVi (n := 0) (As := []) h0 hts hown (c_Jx4a65c_size_8abf5 h7k) gX5_log_Jx4a65c_size_8abf5 rfl (by decide +kernel) ⟨Nat.le_of_ble_eq_true rfl, Nat.le_of_ble_eq_true rfl⟩ kOk7 rfl (by assumption) dX5_log_17 rfl rfl (Nat.le_of_ble_eq_true rfl) ⟨Nat.le_of_ble_eq_true rfl, Nat.le_of_ble_eq_true rfl⟩ (fun r17 S17 hp17 => ?_)
    obtain ⟨rfl, hr17⟩ := hp17
    have hln := RC_len hC hI hpa
    rw [hsk, hln.1] at hr17
    subst hr17
    refine z_icmp_lt (tgt := 33) h0 dX5_log_20 (by decide) (fun h20 => ?_) (fun h20 => ?_)
    · have hij := inR_mk h8 h20 (by omega)
      obtain ⟨j, hj, rfl⟩ := inR_nI hij (by omega)
      have e2 := ix_of (x := nI j) rfl (by omega)
      obtain ⟨t, ht⟩ := get_lt (xs := C (a + 3)) (i := j) (by omega)
      have ht4 := plog j t ht
      refine z_aload h0 dX5_log_33 rfl ?_
      refine z_getO h0 fO4 lk_134 dX5_log_35 (by assumption) (by assumption) ?_
      refine z_iload_n h0 dX5_log_38 rfl ?_
      refine z_cVr (n := 1) (As := [_]) h0 hts hown (c_Jx4a65c_get_915e3 (j := j) hAk (nI_toInt (by omega)) ht) gX5_log_Jx4a65c_get_915e3 rfl (by decide +kernel) ⟨Nat.le_of_ble_eq_true rfl, Nat.le_of_ble_eq_true rfl⟩ kOk7 rfl (by assumption) dX5_log_39 rfl rfl (Nat.le_of_ble_eq_true rfl) ⟨Nat.le_of_ble_eq_true rfl, Nat.le_of_ble_eq_true rfl⟩ (fun r39 S39 hp39 => ?_)
      obtain ⟨rfl, rfl⟩ := hp39
      refine z_cast h0 hown (hts (.classLink RX5 7 "PurseWorld$Transfer") (by decide +kernel)) kOk4 rfl ht4.1 dX5_log_42 ?_
      refine z_iload_n h0 dX5_log_45 rfl ?_
      refine z_xSi (n := 2) (As := [_, _]) h0 hts hown (c_X5_partOf_x hl ht4.1) gX5_log_X5_partOf rfl (by decide +kernel) ⟨Nat.le_of_ble_eq_true rfl, Nat.le_of_ble_eq_true rfl⟩ dX5_log_46 rfl rfl (Nat.le_of_ble_eq_true rfl) ⟨Nat.le_of_ble_eq_true rfl, Nat.le_of_ble_eq_true rfl⟩ htab hlk (Nat.le_of_ble_eq_true rfl) (Nat.le_of_ble_eq_true rfl) (fun E hE => Or.inr ⟨x2 (by unfold oLog; rw [if_neg (fun z => z hin), e1, if_neg (fun z => z hij), if_pos hE.2]), hE.1⟩) (fun r46 S46 hp46 => ?_)
      obtain ⟨rfl, gw, hr46⟩ := hp46
      refine z_x ?_
      exact z_iret h0 hr hlk dX5_log_49 (Nat.le_of_ble_eq_true rfl) (Nat.le_of_ble_eq_true rfl) (cP_q hC (by unfold oLog; rw [if_neg (fun z => z hin), e1, e2, if_neg (fun z => z hij), if_neg (fun z => z gw), hr46, ht4.2]))
    · exact z_throw h0 hl hown (by decide +kernel) (hts (.classLink RX5 194 "java/lang/IndexOutOfBoundsException") (by decide +kernel)) (hts (.initialized "java/lang/IndexOutOfBoundsException") (by decide +kernel)) (h0.2.2.2.2.2.2.2.2.2.2.1 (196, "no such transfer in the log") (by decide +kernel)) (xe_hat xe_bad2 h0.2.2.2.2.2 (by decide +kernel) (fun w hw => hts w (List.mem_cons_of_mem _ (List.mem_append_left _ (List.mem_append_right _ hw))))) (xe_ot2 _) dX5_log_23 dX5_log_26 dX5_log_27 dX5_log_29 dX5_log_32 htab hlk (Nat.le_of_ble_eq_true rfl) (Nat.le_of_ble_eq_true rfl) (Nat.le_of_ble_eq_true rfl) (Nat.le_of_ble_eq_true rfl) (Nat.le_of_ble_eq_true rfl) (Nat.le_of_ble_eq_true rfl) (Or.inl ⟨x1 (by unfold oLog; rw [if_neg (fun z => z hin), e1, if_pos (inR_ge h20 (by omega))]), rfl⟩)

abbrev rm_X5_message : Room := { frames := 7, cells := 2, slots := 12, locals := 111 }
set_option maxRecDepth 100000 in
set_option maxHeartbeats 4000000 in
theorem c_X5_message {l : Launch} {D : va_G} {cI cZ cO : ClassId} {G : Nat → Nat} {S : PS} (hl : l.stackTraces = false) {x n0 ar : Nat} {L : Nat → Nat} {C : Nat → List Nat} {M : MS} (hC : RC G S x n0 ar L C M) {c : Nat} (hI : MI c M) (hc : c < 512) {y w : Int32} : zXi l yX5_message wsX5_message rm_X5_message [.ref x, .int y, .int w] D cI cZ cO G S (fun r S' => cP G S x (oMessage M y w) r S') (xBA (oMessage M y w)) := by
  have hx5 := hC.1.1
  have hxn := hC.1.2.1
  have hxo := hC.1.2.2.1
  have hxs := hC.1.2.2.2.1
  have hxa := hC.1.2.2.2.2
  have har := hC.2.2.1.1
  have harr := hC.2.2.1.2
  have hA0 := hC.2.2.2.1.1 0 (by omega)
  have hA1 := hC.2.2.2.1.1 1 (by omega)
  have hA2 := hC.2.2.2.1.1 2 (by omega)
  have h70 := hA0.1
  have h71 := hA1.1
  have h72 := hA2.1
  have hl0 := hC.2.2.2.2.1.1
  have hl1 := hC.2.2.2.2.1.2.1
  have hl2 := hC.2.2.2.2.1.2.2
  have hs0 : pI S 20 (L 0) = nI (mP M) := by rw [← hl0]; exact hA0.2.1
  have hs1 : pI S 20 (L 1) = nI (mM M) := by rw [← hl1]; exact hA1.2.1
  have hs2 : pI S 20 (L 2) = nI (mE M) := by rw [← hl2]; exact hA2.2.1
  have := MI_p hI; have := MI_m hI; have := MI_e hI
  refine z_ofX (cc := cX5_message) (maxL := 4) (ret := (some .int)) (lo := [some (.ref x), some (.int y), some (.int w), none]) (by decide) rfl rfl (Nat.le_of_ble_eq_true rfl) rfl ?_
  intro pp ee ss mi aa bl mh cd h0 hts hown hr hlk hnm htab
  have hown : ss.vm.findClass RX5 = some mi.cls := hown
  have inX2 : ∀ w ∈ u_ws RX2 TX2 5, w ∈ wsX5_message := by decide +kernel
  have lk_90 : zLk ss mi aa RX5 90 3 0 := ⟨RX2, TX2, 5, "PurseWorld$Message", wsX5_message, rfl, by decide, hts, inX2, hown, hts (.fieldLink RX5 90 "PurseWorld$Message" "kind" "I") (by decide +kernel), fun _ h => h⟩
  have lk_113 : zLk ss mi aa RX5 113 3 2 := ⟨RX2, TX2, 5, "PurseWorld$Message", wsX5_message, rfl, by decide, hts, inX2, hown, hts (.fieldLink RX5 113 "PurseWorld$Message" "terms" "LPurseWorld$Transfer;") (by decide +kernel), fun _ h => h⟩
  have lk_199 : zLk ss mi aa RX5 199 3 1 := ⟨RX2, TX2, 5, "PurseWorld$Message", wsX5_message, rfl, by decide, hts, inX2, hown, hts (.fieldLink RX5 199 "PurseWorld$Message" "to" "I") (by decide +kernel), fun _ h => h⟩
  refine z_aload_n h0 dX5_message_0 rfl ?_
  refine z_iload_n h0 dX5_message_1 rfl ?_
  refine z_xVr (n := 1) (As := [_]) h0 hts hown (c_X5_messageAt_x hl hC hI hc) gX5_message_X5_messageAt rfl (by decide +kernel) ⟨Nat.le_of_ble_eq_true rfl, Nat.le_of_ble_eq_true rfl⟩ kOk5 rfl (by assumption) dX5_message_2 rfl rfl (Nat.le_of_ble_eq_true rfl) ⟨Nat.le_of_ble_eq_true rfl, Nat.le_of_ble_eq_true rfl⟩ htab hlk (Nat.le_of_ble_eq_true rfl) (Nat.le_of_ble_eq_true rfl) (fun E hE => Or.inl ⟨x1 (by unfold oMessage; rw [if_pos hE.2]), hE.1⟩) (fun r2 S2 hp2 => ?_)
  obtain ⟨rfl, a, ha, rfl, hpa⟩ := hp2
  have hin := inR_of ha (by omega)
  have e1 := ix_of (x := nI a) rfl (by omega)
  have hmr := hC.2.2.2.2.2.2.1 a _ hpa
  have k2 := hmr.1
  have mk := hmr.2.1
  have mto := hmr.2.2.1
  obtain ⟨t, mt, t4, mtr⟩ := hmr.2.2.2.1
  refine z_astore_n (lo' := [_, _, _, _]) h0 dX5_message_5 (by decide) rfl rfl ?_
  refine z_iload_n h0 dX5_message_6 rfl ?_
  by_cases hw7 : 0 ≤ w ∧ w ≤ 6
  · obtain ⟨w0, hw0, rfl⟩ := nI_of2 (M := 6) (n := 6) (by decide) (k2_nlt hw7.1) hw7.2
    rcases (show w0 = 0 ∨ w0 = 1 ∨ w0 = 2 ∨ w0 = 3 ∨ w0 = 4 ∨ w0 = 5 ∨ w0 = 6 by omega) with rfl | rfl | rfl | rfl | rfl | rfl | rfl
    · refine z_lookup (off := 35) (tgt := 42) h0 dX5_message_7 (by decide) (by decide) (by decide) ?_
      refine z_aload_n h0 dX5_message_42 rfl ?_
      refine z_getO h0 fO2 lk_113 dX5_message_43 (by assumption) (by assumption) ?_
      refine z_iload_n h0 dX5_message_46 rfl ?_
      refine z_xSi (n := 2) (As := [_, _]) h0 hts hown (c_X5_partOf_x hl t4) gX5_message_X5_partOf rfl (by decide +kernel) ⟨Nat.le_of_ble_eq_true rfl, Nat.le_of_ble_eq_true rfl⟩ dX5_message_47 rfl rfl (Nat.le_of_ble_eq_true rfl) ⟨Nat.le_of_ble_eq_true rfl, Nat.le_of_ble_eq_true rfl⟩ htab hlk (Nat.le_of_ble_eq_true rfl) (Nat.le_of_ble_eq_true rfl) (fun E hE => by first | exact absurd (by decide) hE.2 | exact Or.inr ⟨x2 (by unfold oMessage; rw [if_neg (fun z => z hin), if_pos hw7]), hE.1⟩) (fun r47 S47 hp47 => ?_)
      obtain ⟨rfl, gw, hr47⟩ := hp47
      refine z_x ?_
      exact z_iret h0 hr hlk dX5_message_50 (Nat.le_of_ble_eq_true rfl) (Nat.le_of_ble_eq_true rfl) (cP_q hC (by unfold oMessage; rw [if_neg (fun z => z hin), if_neg (fun z => z hw7), e1, if_pos (by decide), hr47, mtr]))
    · refine z_lookup (off := 35) (tgt := 42) h0 dX5_message_7 (by decide) (by decide) (by decide) ?_
      refine z_aload_n h0 dX5_message_42 rfl ?_
      refine z_getO h0 fO2 lk_113 dX5_message_43 (by assumption) (by assumption) ?_
      refine z_iload_n h0 dX5_message_46 rfl ?_
      refine z_xSi (n := 2) (As := [_, _]) h0 hts hown (c_X5_partOf_x hl t4) gX5_message_X5_partOf rfl (by decide +kernel) ⟨Nat.le_of_ble_eq_true rfl, Nat.le_of_ble_eq_true rfl⟩ dX5_message_47 rfl rfl (Nat.le_of_ble_eq_true rfl) ⟨Nat.le_of_ble_eq_true rfl, Nat.le_of_ble_eq_true rfl⟩ htab hlk (Nat.le_of_ble_eq_true rfl) (Nat.le_of_ble_eq_true rfl) (fun E hE => by first | exact absurd (by decide) hE.2 | exact Or.inr ⟨x2 (by unfold oMessage; rw [if_neg (fun z => z hin), if_pos hw7]), hE.1⟩) (fun r47 S47 hp47 => ?_)
      obtain ⟨rfl, gw, hr47⟩ := hp47
      refine z_x ?_
      exact z_iret h0 hr hlk dX5_message_50 (Nat.le_of_ble_eq_true rfl) (Nat.le_of_ble_eq_true rfl) (cP_q hC (by unfold oMessage; rw [if_neg (fun z => z hin), if_neg (fun z => z hw7), e1, if_pos (by decide), hr47, mtr]))
    · refine z_lookup (off := 35) (tgt := 42) h0 dX5_message_7 (by decide) (by decide) (by decide) ?_
      refine z_aload_n h0 dX5_message_42 rfl ?_
      refine z_getO h0 fO2 lk_113 dX5_message_43 (by assumption) (by assumption) ?_
      refine z_iload_n h0 dX5_message_46 rfl ?_
      refine z_xSi (n := 2) (As := [_, _]) h0 hts hown (c_X5_partOf_x hl t4) gX5_message_X5_partOf rfl (by decide +kernel) ⟨Nat.le_of_ble_eq_true rfl, Nat.le_of_ble_eq_true rfl⟩ dX5_message_47 rfl rfl (Nat.le_of_ble_eq_true rfl) ⟨Nat.le_of_ble_eq_true rfl, Nat.le_of_ble_eq_true rfl⟩ htab hlk (Nat.le_of_ble_eq_true rfl) (Nat.le_of_ble_eq_true rfl) (fun E hE => by first | exact absurd (by decide) hE.2 | exact Or.inr ⟨x2 (by unfold oMessage; rw [if_neg (fun z => z hin), if_pos hw7]), hE.1⟩) (fun r47 S47 hp47 => ?_)
      obtain ⟨rfl, gw, hr47⟩ := hp47
      refine z_x ?_
      exact z_iret h0 hr hlk dX5_message_50 (Nat.le_of_ble_eq_true rfl) (Nat.le_of_ble_eq_true rfl) (cP_q hC (by unfold oMessage; rw [if_neg (fun z => z hin), if_neg (fun z => z hw7), e1, if_pos (by decide), hr47, mtr]))
    · refine z_lookup (off := 35) (tgt := 42) h0 dX5_message_7 (by decide) (by decide) (by decide) ?_
      refine z_aload_n h0 dX5_message_42 rfl ?_
      refine z_getO h0 fO2 lk_113 dX5_message_43 (by assumption) (by assumption) ?_
      refine z_iload_n h0 dX5_message_46 rfl ?_
      refine z_xSi (n := 2) (As := [_, _]) h0 hts hown (c_X5_partOf_x hl t4) gX5_message_X5_partOf rfl (by decide +kernel) ⟨Nat.le_of_ble_eq_true rfl, Nat.le_of_ble_eq_true rfl⟩ dX5_message_47 rfl rfl (Nat.le_of_ble_eq_true rfl) ⟨Nat.le_of_ble_eq_true rfl, Nat.le_of_ble_eq_true rfl⟩ htab hlk (Nat.le_of_ble_eq_true rfl) (Nat.le_of_ble_eq_true rfl) (fun E hE => by first | exact absurd (by decide) hE.2 | exact Or.inr ⟨x2 (by unfold oMessage; rw [if_neg (fun z => z hin), if_pos hw7]), hE.1⟩) (fun r47 S47 hp47 => ?_)
      obtain ⟨rfl, gw, hr47⟩ := hp47
      refine z_x ?_
      exact z_iret h0 hr hlk dX5_message_50 (Nat.le_of_ble_eq_true rfl) (Nat.le_of_ble_eq_true rfl) (cP_q hC (by unfold oMessage; rw [if_neg (fun z => z hin), if_neg (fun z => z hw7), e1, if_pos (by decide), hr47, mtr]))
    · refine z_lookup (off := 35) (tgt := 42) h0 dX5_message_7 (by decide) (by decide) (by decide) ?_
      refine z_aload_n h0 dX5_message_42 rfl ?_
      refine z_getO h0 fO2 lk_113 dX5_message_43 (by assumption) (by assumption) ?_
      refine z_iload_n h0 dX5_message_46 rfl ?_
      refine z_xSi (n := 2) (As := [_, _]) h0 hts hown (c_X5_partOf_x hl t4) gX5_message_X5_partOf rfl (by decide +kernel) ⟨Nat.le_of_ble_eq_true rfl, Nat.le_of_ble_eq_true rfl⟩ dX5_message_47 rfl rfl (Nat.le_of_ble_eq_true rfl) ⟨Nat.le_of_ble_eq_true rfl, Nat.le_of_ble_eq_true rfl⟩ htab hlk (Nat.le_of_ble_eq_true rfl) (Nat.le_of_ble_eq_true rfl) (fun E hE => by first | exact absurd (by decide) hE.2 | exact Or.inr ⟨x2 (by unfold oMessage; rw [if_neg (fun z => z hin), if_pos hw7]), hE.1⟩) (fun r47 S47 hp47 => ?_)
      obtain ⟨rfl, gw, hr47⟩ := hp47
      refine z_x ?_
      exact z_iret h0 hr hlk dX5_message_50 (Nat.le_of_ble_eq_true rfl) (Nat.le_of_ble_eq_true rfl) (cP_q hC (by unfold oMessage; rw [if_neg (fun z => z hin), if_neg (fun z => z hw7), e1, if_pos (by decide), hr47, mtr]))
    · refine z_lookup (off := 25) (tgt := 32) h0 dX5_message_7 (by decide) (by decide) (by decide) ?_
      refine z_aload_n h0 dX5_message_32 rfl ?_
      refine z_getI h0 fI2 lk_90 dX5_message_33 (by assumption) ?_
      refine z_x ?_
      exact z_iret h0 hr hlk dX5_message_36 (Nat.le_of_ble_eq_true rfl) (Nat.le_of_ble_eq_true rfl) (cP_q hC (by unfold oMessage; rw [if_neg (fun z => z hin), if_neg (fun z => z hw7), e1, if_neg (fun z => z (by decide)), if_pos (by decide), mk]))
    · refine z_lookup (off := 30) (tgt := 37) h0 dX5_message_7 (by decide) (by decide) (by decide) ?_
      refine z_aload_n h0 dX5_message_37 rfl ?_
      refine z_getI h0 fI3 lk_199 dX5_message_38 (by assumption) ?_
      refine z_x ?_
      exact z_iret h0 hr hlk dX5_message_41 (Nat.le_of_ble_eq_true rfl) (Nat.le_of_ble_eq_true rfl) (cP_q hC (by unfold oMessage; rw [if_neg (fun z => z hin), if_neg (fun z => z hw7), e1, if_neg (fun z => z (by decide)), if_neg (by decide), mto]))
  · refine z_lookup (off := 35) (tgt := 42) h0 dX5_message_7 (by decide) (lk_out hw7) (by decide) ?_
    refine z_aload_n h0 dX5_message_42 rfl ?_
    refine z_getO h0 fO2 lk_113 dX5_message_43 (by assumption) (by assumption) ?_
    refine z_iload_n h0 dX5_message_46 rfl ?_
    refine z_xSi (n := 2) (As := [_, _]) h0 hts hown (c_X5_partOf_x hl t4) gX5_message_X5_partOf rfl (by decide +kernel) ⟨Nat.le_of_ble_eq_true rfl, Nat.le_of_ble_eq_true rfl⟩ dX5_message_47 rfl rfl (Nat.le_of_ble_eq_true rfl) ⟨Nat.le_of_ble_eq_true rfl, Nat.le_of_ble_eq_true rfl⟩ htab hlk (Nat.le_of_ble_eq_true rfl) (Nat.le_of_ble_eq_true rfl) (fun E hE => by first | exact absurd (by decide) hE.2 | exact Or.inr ⟨x2 (by unfold oMessage; rw [if_neg (fun z => z hin), if_pos hw7]), hE.1⟩) (fun r47 S47 hp47 => ?_)
    obtain ⟨rfl, gw, hr47⟩ := hp47
    refine z_x ?_
    exact z_iret h0 hr hlk dX5_message_50 (Nat.le_of_ble_eq_true rfl) (Nat.le_of_ble_eq_true rfl) (absurd ⟨gw.1, Int32.le_trans gw.2 (by decide)⟩ hw7)

abbrev rm_X5_entry : Room := { frames := 7, cells := 2, slots := 12, locals := 111 }
set_option maxRecDepth 100000 in
set_option maxHeartbeats 4000000 in
theorem c_X5_entry {l : Launch} {D : va_G} {cI cZ cO : ClassId} {G : Nat → Nat} {S : PS} (hl : l.stackTraces = false) {x n0 ar : Nat} {L : Nat → Nat} {C : Nat → List Nat} {M : MS} (hC : RC G S x n0 ar L C M) {c : Nat} (hI : MI c M) (hc : c < 512) {y w : Int32} : zXi l yX5_entry wsX5_entry rm_X5_entry [.ref x, .int y, .int w] D cI cZ cO G S (fun r S' => cP G S x (oEntry M y w) r S') (xBA (oEntry M y w)) := by
  have hx5 := hC.1.1
  have hxn := hC.1.2.1
  have hxo := hC.1.2.2.1
  have hxs := hC.1.2.2.2.1
  have hxa := hC.1.2.2.2.2
  have har := hC.2.2.1.1
  have harr := hC.2.2.1.2
  have hA0 := hC.2.2.2.1.1 0 (by omega)
  have hA1 := hC.2.2.2.1.1 1 (by omega)
  have hA2 := hC.2.2.2.1.1 2 (by omega)
  have h70 := hA0.1
  have h71 := hA1.1
  have h72 := hA2.1
  have hl0 := hC.2.2.2.2.1.1
  have hl1 := hC.2.2.2.2.1.2.1
  have hl2 := hC.2.2.2.2.1.2.2
  have hs0 : pI S 20 (L 0) = nI (mP M) := by rw [← hl0]; exact hA0.2.1
  have hs1 : pI S 20 (L 1) = nI (mM M) := by rw [← hl1]; exact hA1.2.1
  have hs2 : pI S 20 (L 2) = nI (mE M) := by rw [← hl2]; exact hA2.2.1
  have := MI_p hI; have := MI_m hI; have := MI_e hI
  refine z_ofX (cc := cX5_entry) (maxL := 4) (ret := (some .int)) (lo := [some (.ref x), some (.int y), some (.int w), none]) (by decide) rfl rfl (Nat.le_of_ble_eq_true rfl) rfl ?_
  intro pp ee ss mi aa bl mh cd h0 hts hown hr hlk hnm htab
  have hown : ss.vm.findClass RX5 = some mi.cls := hown
  have inX1 : ∀ w ∈ u_ws RX1 TX1 3, w ∈ wsX5_entry := by decide +kernel
  have lk_155 : zLk ss mi aa RX5 155 2 1 := ⟨RX1, TX1, 3, "PurseWorld$Entry", wsX5_entry, rfl, by decide, hts, inX1, hown, hts (.fieldLink RX5 155 "PurseWorld$Entry" "terms" "LPurseWorld$Transfer;") (by decide +kernel), fun _ h => h⟩
  have lk_169 : zLk ss mi aa RX5 169 2 2 := ⟨RX1, TX1, 3, "PurseWorld$Entry", wsX5_entry, rfl, by decide, hts, inX1, hown, hts (.fieldLink RX5 169 "PurseWorld$Entry" "refunded" "Z") (by decide +kernel), fun _ h => h⟩
  have lk_202 : zLk ss mi aa RX5 202 2 0 := ⟨RX1, TX1, 3, "PurseWorld$Entry", wsX5_entry, rfl, by decide, hts, inX1, hown, hts (.fieldLink RX5 202 "PurseWorld$Entry" "teller" "I") (by decide +kernel), fun _ h => h⟩
  refine z_aload_n h0 dX5_entry_0 rfl ?_
  refine z_iload_n h0 dX5_entry_1 rfl ?_
  refine z_xVr (n := 1) (As := [_]) h0 hts hown (c_X5_entryAt_x hl hC hI hc) gX5_entry_X5_entryAt rfl (by decide +kernel) ⟨Nat.le_of_ble_eq_true rfl, Nat.le_of_ble_eq_true rfl⟩ kOk5 rfl (by assumption) dX5_entry_2 rfl rfl (Nat.le_of_ble_eq_true rfl) ⟨Nat.le_of_ble_eq_true rfl, Nat.le_of_ble_eq_true rfl⟩ htab hlk (Nat.le_of_ble_eq_true rfl) (Nat.le_of_ble_eq_true rfl) (fun E hE => Or.inl ⟨x1 (by unfold oEntry; rw [if_pos hE.2]), hE.1⟩) (fun r2 S2 hp2 => ?_)
  obtain ⟨rfl, a, ha, rfl, hpa⟩ := hp2
  have hin := inR_of ha (by omega)
  have e1 := ix_of (x := nI a) rfl (by omega)
  have hmr := hC.2.2.2.2.2.2.2 a _ hpa
  have k2 := hmr.1
  have ek := hmr.2.1
  obtain ⟨t, mt, t4, mtr⟩ := hmr.2.2.1
  have er := hmr.2.2.2
  refine z_astore_n (lo' := [_, _, _, _]) h0 dX5_entry_5 (by decide) rfl rfl ?_
  refine z_iload_n h0 dX5_entry_6 rfl ?_
  by_cases hw7 : 0 ≤ w ∧ w ≤ 6
  · obtain ⟨w0, hw0, rfl⟩ := nI_of2 (M := 6) (n := 6) (by decide) (k2_nlt hw7.1) hw7.2
    rcases (show w0 = 0 ∨ w0 = 1 ∨ w0 = 2 ∨ w0 = 3 ∨ w0 = 4 ∨ w0 = 5 ∨ w0 = 6 by omega) with rfl | rfl | rfl | rfl | rfl | rfl | rfl
    · refine z_lookup (off := 43) (tgt := 50) h0 dX5_entry_7 (by decide) (by decide) (by decide) ?_
      refine z_aload_n h0 dX5_entry_50 rfl ?_
      refine z_getO h0 fO1 lk_155 dX5_entry_51 (by assumption) (by assumption) ?_
      refine z_iload_n h0 dX5_entry_54 rfl ?_
      refine z_xSi (n := 2) (As := [_, _]) h0 hts hown (c_X5_partOf_x hl t4) gX5_entry_X5_partOf rfl (by decide +kernel) ⟨Nat.le_of_ble_eq_true rfl, Nat.le_of_ble_eq_true rfl⟩ dX5_entry_55 rfl rfl (Nat.le_of_ble_eq_true rfl) ⟨Nat.le_of_ble_eq_true rfl, Nat.le_of_ble_eq_true rfl⟩ htab hlk (Nat.le_of_ble_eq_true rfl) (Nat.le_of_ble_eq_true rfl) (fun E hE => by first | exact absurd (by decide) hE.2 | exact Or.inr ⟨x2 (by unfold oEntry; rw [if_neg (fun z => z hin), if_pos hw7]), hE.1⟩) (fun r55 S55 hp55 => ?_)
      obtain ⟨rfl, gw, hr55⟩ := hp55
      refine z_x ?_
      exact z_iret h0 hr hlk dX5_entry_58 (Nat.le_of_ble_eq_true rfl) (Nat.le_of_ble_eq_true rfl) (cP_q hC (by unfold oEntry; rw [if_neg (fun z => z hin), if_neg (fun z => z hw7), e1, if_pos (by decide), hr55, mtr]))
    · refine z_lookup (off := 43) (tgt := 50) h0 dX5_entry_7 (by decide) (by decide) (by decide) ?_
      refine z_aload_n h0 dX5_entry_50 rfl ?_
      refine z_getO h0 fO1 lk_155 dX5_entry_51 (by assumption) (by assumption) ?_
      refine z_iload_n h0 dX5_entry_54 rfl ?_
      refine z_xSi (n := 2) (As := [_, _]) h0 hts hown (c_X5_partOf_x hl t4) gX5_entry_X5_partOf rfl (by decide +kernel) ⟨Nat.le_of_ble_eq_true rfl, Nat.le_of_ble_eq_true rfl⟩ dX5_entry_55 rfl rfl (Nat.le_of_ble_eq_true rfl) ⟨Nat.le_of_ble_eq_true rfl, Nat.le_of_ble_eq_true rfl⟩ htab hlk (Nat.le_of_ble_eq_true rfl) (Nat.le_of_ble_eq_true rfl) (fun E hE => by first | exact absurd (by decide) hE.2 | exact Or.inr ⟨x2 (by unfold oEntry; rw [if_neg (fun z => z hin), if_pos hw7]), hE.1⟩) (fun r55 S55 hp55 => ?_)
      obtain ⟨rfl, gw, hr55⟩ := hp55
      refine z_x ?_
      exact z_iret h0 hr hlk dX5_entry_58 (Nat.le_of_ble_eq_true rfl) (Nat.le_of_ble_eq_true rfl) (cP_q hC (by unfold oEntry; rw [if_neg (fun z => z hin), if_neg (fun z => z hw7), e1, if_pos (by decide), hr55, mtr]))
    · refine z_lookup (off := 43) (tgt := 50) h0 dX5_entry_7 (by decide) (by decide) (by decide) ?_
      refine z_aload_n h0 dX5_entry_50 rfl ?_
      refine z_getO h0 fO1 lk_155 dX5_entry_51 (by assumption) (by assumption) ?_
      refine z_iload_n h0 dX5_entry_54 rfl ?_
      refine z_xSi (n := 2) (As := [_, _]) h0 hts hown (c_X5_partOf_x hl t4) gX5_entry_X5_partOf rfl (by decide +kernel) ⟨Nat.le_of_ble_eq_true rfl, Nat.le_of_ble_eq_true rfl⟩ dX5_entry_55 rfl rfl (Nat.le_of_ble_eq_true rfl) ⟨Nat.le_of_ble_eq_true rfl, Nat.le_of_ble_eq_true rfl⟩ htab hlk (Nat.le_of_ble_eq_true rfl) (Nat.le_of_ble_eq_true rfl) (fun E hE => by first | exact absurd (by decide) hE.2 | exact Or.inr ⟨x2 (by unfold oEntry; rw [if_neg (fun z => z hin), if_pos hw7]), hE.1⟩) (fun r55 S55 hp55 => ?_)
      obtain ⟨rfl, gw, hr55⟩ := hp55
      refine z_x ?_
      exact z_iret h0 hr hlk dX5_entry_58 (Nat.le_of_ble_eq_true rfl) (Nat.le_of_ble_eq_true rfl) (cP_q hC (by unfold oEntry; rw [if_neg (fun z => z hin), if_neg (fun z => z hw7), e1, if_pos (by decide), hr55, mtr]))
    · refine z_lookup (off := 43) (tgt := 50) h0 dX5_entry_7 (by decide) (by decide) (by decide) ?_
      refine z_aload_n h0 dX5_entry_50 rfl ?_
      refine z_getO h0 fO1 lk_155 dX5_entry_51 (by assumption) (by assumption) ?_
      refine z_iload_n h0 dX5_entry_54 rfl ?_
      refine z_xSi (n := 2) (As := [_, _]) h0 hts hown (c_X5_partOf_x hl t4) gX5_entry_X5_partOf rfl (by decide +kernel) ⟨Nat.le_of_ble_eq_true rfl, Nat.le_of_ble_eq_true rfl⟩ dX5_entry_55 rfl rfl (Nat.le_of_ble_eq_true rfl) ⟨Nat.le_of_ble_eq_true rfl, Nat.le_of_ble_eq_true rfl⟩ htab hlk (Nat.le_of_ble_eq_true rfl) (Nat.le_of_ble_eq_true rfl) (fun E hE => by first | exact absurd (by decide) hE.2 | exact Or.inr ⟨x2 (by unfold oEntry; rw [if_neg (fun z => z hin), if_pos hw7]), hE.1⟩) (fun r55 S55 hp55 => ?_)
      obtain ⟨rfl, gw, hr55⟩ := hp55
      refine z_x ?_
      exact z_iret h0 hr hlk dX5_entry_58 (Nat.le_of_ble_eq_true rfl) (Nat.le_of_ble_eq_true rfl) (cP_q hC (by unfold oEntry; rw [if_neg (fun z => z hin), if_neg (fun z => z hw7), e1, if_pos (by decide), hr55, mtr]))
    · refine z_lookup (off := 43) (tgt := 50) h0 dX5_entry_7 (by decide) (by decide) (by decide) ?_
      refine z_aload_n h0 dX5_entry_50 rfl ?_
      refine z_getO h0 fO1 lk_155 dX5_entry_51 (by assumption) (by assumption) ?_
      refine z_iload_n h0 dX5_entry_54 rfl ?_
      refine z_xSi (n := 2) (As := [_, _]) h0 hts hown (c_X5_partOf_x hl t4) gX5_entry_X5_partOf rfl (by decide +kernel) ⟨Nat.le_of_ble_eq_true rfl, Nat.le_of_ble_eq_true rfl⟩ dX5_entry_55 rfl rfl (Nat.le_of_ble_eq_true rfl) ⟨Nat.le_of_ble_eq_true rfl, Nat.le_of_ble_eq_true rfl⟩ htab hlk (Nat.le_of_ble_eq_true rfl) (Nat.le_of_ble_eq_true rfl) (fun E hE => by first | exact absurd (by decide) hE.2 | exact Or.inr ⟨x2 (by unfold oEntry; rw [if_neg (fun z => z hin), if_pos hw7]), hE.1⟩) (fun r55 S55 hp55 => ?_)
      obtain ⟨rfl, gw, hr55⟩ := hp55
      refine z_x ?_
      exact z_iret h0 hr hlk dX5_entry_58 (Nat.le_of_ble_eq_true rfl) (Nat.le_of_ble_eq_true rfl) (cP_q hC (by unfold oEntry; rw [if_neg (fun z => z hin), if_neg (fun z => z hw7), e1, if_pos (by decide), hr55, mtr]))
    · refine z_lookup (off := 25) (tgt := 32) h0 dX5_entry_7 (by decide) (by decide) (by decide) ?_
      refine z_aload_n h0 dX5_entry_32 rfl ?_
      refine z_getI h0 fI0 lk_202 dX5_entry_33 (by assumption) ?_
      refine z_x ?_
      exact z_iret h0 hr hlk dX5_entry_36 (Nat.le_of_ble_eq_true rfl) (Nat.le_of_ble_eq_true rfl) (cP_q hC (by unfold oEntry; rw [if_neg (fun z => z hin), if_neg (fun z => z hw7), e1, if_neg (fun z => z (by decide)), if_pos (by decide), ek]))
    · refine z_lookup (off := 30) (tgt := 37) h0 dX5_entry_7 (by decide) (by decide) (by decide) ?_
      refine z_aload_n h0 dX5_entry_37 rfl ?_
      refine z_getI h0 fI1 lk_169 dX5_entry_38 (by assumption) ?_
      refine z_top er ?_
      refine z_if_eq (tgt := 48) h0 dX5_entry_41 (by decide) (fun h41 => ?_) (fun h41 => ?_)
      · refine z_iconst (v := 0) h0 dX5_entry_48 (by decide) ?_
        refine z_x ?_
        exact z_iret h0 hr hlk dX5_entry_49 (Nat.le_of_ble_eq_true rfl) (Nat.le_of_ble_eq_true rfl) (cP_q hC (by unfold oEntry; rw [if_neg (fun z => z hin), if_neg (fun z => z hw7), e1, if_neg (fun z => z (by decide)), if_neg (by decide), bI_ff h41]; rfl))
      · refine z_iconst (v := 1) h0 dX5_entry_44 (by decide) ?_
        refine z_goto (tgt := 49) h0 dX5_entry_45 (by decide) ?_
        refine z_x ?_
        exact z_iret h0 hr hlk dX5_entry_49 (Nat.le_of_ble_eq_true rfl) (Nat.le_of_ble_eq_true rfl) (cP_q hC (by unfold oEntry; rw [if_neg (fun z => z hin), if_neg (fun z => z hw7), e1, if_neg (fun z => z (by decide)), if_neg (by decide), bI_tt h41]; rfl))
  · refine z_lookup (off := 43) (tgt := 50) h0 dX5_entry_7 (by decide) (lk_out hw7) (by decide) ?_
    refine z_aload_n h0 dX5_entry_50 rfl ?_
    refine z_getO h0 fO1 lk_155 dX5_entry_51 (by assumption) (by assumption) ?_
    refine z_iload_n h0 dX5_entry_54 rfl ?_
    refine z_xSi (n := 2) (As := [_, _]) h0 hts hown (c_X5_partOf_x hl t4) gX5_entry_X5_partOf rfl (by decide +kernel) ⟨Nat.le_of_ble_eq_true rfl, Nat.le_of_ble_eq_true rfl⟩ dX5_entry_55 rfl rfl (Nat.le_of_ble_eq_true rfl) ⟨Nat.le_of_ble_eq_true rfl, Nat.le_of_ble_eq_true rfl⟩ htab hlk (Nat.le_of_ble_eq_true rfl) (Nat.le_of_ble_eq_true rfl) (fun E hE => by first | exact absurd (by decide) hE.2 | exact Or.inr ⟨x2 (by unfold oEntry; rw [if_neg (fun z => z hin), if_pos hw7]), hE.1⟩) (fun r55 S55 hp55 => ?_)
    obtain ⟨rfl, gw, hr55⟩ := hp55
    refine z_x ?_
    exact z_iret h0 hr hlk dX5_entry_58 (Nat.le_of_ble_eq_true rfl) (Nat.le_of_ble_eq_true rfl) (absurd ⟨gw.1, Int32.le_trans gw.2 (by decide)⟩ hw7)

abbrev rm_X5_balances : Room := { frames := 3, cells := 0, slots := 0, locals := 64 }
set_option maxRecDepth 100000 in
set_option maxHeartbeats 4000000 in
theorem c_X5_balances {l : Launch} {D : va_G} {cI cZ cO : ClassId} {G : Nat → Nat} {S : PS} {x n0 ar : Nat} {L : Nat → Nat} {C : Nat → List Nat} {M : MS} (hC : RC G S x n0 ar L C M) {c : Nat} (hI : MI c M) (hc : c < 512) : zMl l yX5_balances wsX5_balances rm_X5_balances [.ref x] D cI cZ cO G S (fun r S' => S = S' ∧ r = balO M) := by
  have hx5 := hC.1.1
  have hxn := hC.1.2.1
  have hxo := hC.1.2.2.1
  have hxs := hC.1.2.2.2.1
  have hxa := hC.1.2.2.2.2
  have har := hC.2.2.1.1
  have harr := hC.2.2.1.2
  have hA0 := hC.2.2.2.1.1 0 (by omega)
  have hA1 := hC.2.2.2.1.1 1 (by omega)
  have hA2 := hC.2.2.2.1.1 2 (by omega)
  have h70 := hA0.1
  have h71 := hA1.1
  have h72 := hA2.1
  have hl0 := hC.2.2.2.2.1.1
  have hl1 := hC.2.2.2.2.1.2.1
  have hl2 := hC.2.2.2.2.1.2.2
  have hs0 : pI S 20 (L 0) = nI (mP M) := by rw [← hl0]; exact hA0.2.1
  have hs1 : pI S 20 (L 1) = nI (mM M) := by rw [← hl1]; exact hA1.2.1
  have hs2 : pI S 20 (L 2) = nI (mE M) := by rw [← hl2]; exact hA2.2.1
  have := MI_p hI; have := MI_m hI; have := MI_e hI
  refine z_of (cc := cX5_balances) (maxL := 4) (ret := (some .long)) (lo := [some (.ref x), none, none, none]) (by decide) rfl rfl (Nat.le_of_ble_eq_true rfl) rfl ?_
  intro pp ee ss mi aa bl mh cd h0 hts hown hr hlk hnm
  have hown : ss.vm.findClass RX5 = some mi.cls := hown
  have inX3 : ∀ w ∈ u_ws RX3 TX3 7, w ∈ wsX5_balances := by decide +kernel
  have inX5 : ∀ w ∈ u_ws RX5 TX5 4, w ∈ wsX5_balances := by decide +kernel
  have lk_21 : zLk ss mi aa RX5 21 6 1 := ⟨RX5, TX5, 4, "PurseWorld", wsX5_balances, rfl, by decide, hts, inX5, hown, hts (.fieldLink RX5 21 "PurseWorld" "owners" "Ljava/util/ArrayList;") (by decide +kernel), fun _ h => h⟩
  have lk_179 : zLk ss mi aa RX5 179 4 3 := ⟨RX3, TX3, 7, "PurseWorld$Purse", wsX5_balances, rfl, by decide, hts, inX3, hown, hts (.fieldLink RX5 179 "PurseWorld$Purse" "balance" "I") (by decide +kernel), fun _ h => h⟩
  have loop : ∀ (n i : Nat) (b : Int64), mP M - i < n → i ≤ mP M → b = sumTo (fun p => (mA M 0 p).toInt64) i → ZW pp l ee rm_X5_balances ss mi aa bl mh cd D cI cZ cO (zA cI cZ cO S ss.heap.size) (MQ bl (zQl D cI cZ cO S (fun r S' => S = S' ∧ r = balO M) ss.heap.size) aa ss rm_X5_balances.cells rm_X5_balances.slots (zA cI cZ cO S ss.heap.size)) [] 4 S 0 0 4 [some (.ref x), some (.long b), none, some (.int (nI i))] [] := by
    intro n
    induction n with
    | zero => intro i b h; exact absurd h (Nat.not_lt_zero _)
    | succ n ih =>
      intro i b hm hi hb
      refine z_iload_n h0 dX5_balances_4 rfl ?_
      refine z_aload_n h0 dX5_balances_5 rfl ?_
      refine z_getO h0 fO7 lk_21 dX5_balances_6 (by assumption) (by assumption) ?_
      refine z_cVi (n := 0) (As := []) h0 hts hown (c_Jx4a65c_size_8abf5 h70) gX5_balances_Jx4a65c_size_8abf5 rfl (by decide +kernel) ⟨Nat.le_of_ble_eq_true rfl, Nat.le_of_ble_eq_true rfl⟩ kOk7 rfl (by assumption) dX5_balances_9 rfl rfl (Nat.le_of_ble_eq_true rfl) ⟨Nat.le_of_ble_eq_true rfl, Nat.le_of_ble_eq_true rfl⟩ (fun r9 S9 hp9 => ?_)
      obtain ⟨rfl, hr9⟩ := hp9
      rw [hs0] at hr9
      subst hr9
      refine z_icmp_ge (tgt := 39) h0 dX5_balances_12 (by decide) (fun h12 => ?_) (fun h12 => ?_)
      · refine z_lload_n h0 dX5_balances_39 rfl ?_
        exact z_lret h0 hr hlk dX5_balances_40 (Nat.le_of_ble_eq_true rfl) (Nat.le_of_ble_eq_true rfl) ⟨rfl, by rw [hb, Nat.le_antisymm hi (nI_geof h12 (by omega) (by omega))]; rfl⟩
      · have hlt : i < mP M := nI_ltof h12 (by omega)
        obtain ⟨a, ha⟩ := RC_at hC hlt
        have hpr := hC.2.2.2.2.2.1 i _ ha
        have k3 := hpr.1
        refine z_lload_n h0 dX5_balances_15 rfl ?_
        refine z_aload_n h0 dX5_balances_16 rfl ?_
        refine z_getO h0 fO7 lk_21 dX5_balances_17 (by assumption) (by assumption) ?_
        refine z_iload_n h0 dX5_balances_20 rfl ?_
        refine z_cVr (n := 1) (As := [_]) h0 hts hown (c_Jx4a65c_get_915e3 (j := i) hA0 (nI_toInt (by omega)) ha) gX5_balances_Jx4a65c_get_915e3 rfl (by decide +kernel) ⟨Nat.le_of_ble_eq_true rfl, Nat.le_of_ble_eq_true rfl⟩ kOk7 rfl (by assumption) dX5_balances_21 rfl rfl (Nat.le_of_ble_eq_true rfl) ⟨Nat.le_of_ble_eq_true rfl, Nat.le_of_ble_eq_true rfl⟩ (fun r21 S21 hp21 => ?_)
        obtain ⟨rfl, rfl⟩ := hp21
        refine z_cast h0 hown (hts (.classLink RX5 52 "PurseWorld$Purse") (by decide +kernel)) kOk3 rfl (by assumption) dX5_balances_24 ?_
        refine z_getI h0 fI7 lk_179 dX5_balances_27 (by assumption) ?_
        refine z_top hpr.2.2.2.2.1 ?_
        refine z_i2l h0 dX5_balances_30 ?_
        refine z_ladd h0 dX5_balances_31 ?_
        refine z_lstore_n (lo' := [_, _, _, _]) h0 dX5_balances_32 (by decide) rfl rfl ?_
        refine z_iinc (lo' := [_, _, _, _]) (v := nI (i + 1)) h0 dX5_balances_33 rfl (nI_1 i) (by decide) rfl rfl ?_
        refine z_goto (tgt := 4) h0 dX5_balances_36 (by decide) ?_
        exact ih (i + 1) _ (by omega) (by omega) (by rw [hb]; rfl)
  refine z_lconst (v := 0) h0 dX5_balances_0 (by decide) ?_
  refine z_lstore_n (lo' := [_, _, _, _]) h0 dX5_balances_1 (by decide) rfl rfl ?_
  refine z_iconst (v := 0) h0 dX5_balances_2 (by decide) ?_
  refine z_istore_n (lo' := [_, _, _, _]) h0 dX5_balances_3 (by decide) rfl rfl ?_
  exact loop (mP M + 1) 0 0 (by omega) (Nat.zero_le _) rfl

end CLS2
