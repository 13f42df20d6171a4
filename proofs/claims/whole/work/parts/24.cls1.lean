/-! THE CLASS: what all its methods use. -/
section CLS1
theorem sw_out {x n : Int32} {N : Int} (hN : n.toInt = N) (h : ¬ (0 ≤ x ∧ x ≤ n)) : x.toInt < 0 ∨ N < x.toInt := by
  rw [Int32.le_iff_toInt_le, Int32.le_iff_toInt_le, Int32.toInt_zero, hN] at h; omega
theorem lk_out {x : Int32} {a b d : Int} (h : ¬ (0 ≤ x ∧ x ≤ 6)) : Op.lookupswitch.offset [(5, a), (6, b)] d x.toInt = d := by
  rw [Int32.le_iff_toInt_le, Int32.le_iff_toInt_le, Int32.toInt_zero, show (6 : Int32).toInt = 6 from by decide] at h
  rw [Op.lookupswitch.offset_cons, if_neg (by omega), Op.lookupswitch.offset_cons, if_neg (by omega)]; rfl
theorem inR_neg {y : Int32} {n : Nat} (h : y < 0) : ¬ inR y n := by rw [Int32.lt_iff_toInt_lt, Int32.toInt_zero] at h; intro z; have := z.1; omega
theorem inR_ge {y : Int32} {n : Nat} (h : ¬ y < nI n) (hn : n < 2 ^ 31) : ¬ inR y n := by rw [Int32.lt_iff_toInt_lt, nI_toInt hn] at h; intro z; have := z.2; omega
theorem inR_mk {y : Int32} {n : Nat} (h0 : ¬ y < 0) (h : y < nI n) (hn : n < 2 ^ 31) : inR y n := by
  rw [Int32.lt_iff_toInt_lt, nI_toInt hn] at h
  rw [Int32.lt_iff_toInt_lt, Int32.toInt_zero] at h0
  exact ⟨by omega, h⟩
abbrev eA : String := "java/lang/IllegalArgumentException"
abbrev eU : String := "java/lang/UnsupportedOperationException"
abbrev eB : String := "java/lang/IndexOutOfBoundsException"
abbrev eS : String := "java/lang/IllegalStateException"

abbrev rm_X5_purseAt : Room := { frames := 6, cells := 1, slots := 6, locals := 90 }
set_option maxRecDepth 100000 in
set_option maxHeartbeats 4000000 in
theorem c_X5_purseAt_x {l : Launch} {D : va_G} {cI cZ cO : ClassId} {G : Nat → Nat} {S : PS} (hl : l.stackTraces = false) {x n0 ar : Nat} {L : Nat → Nat} {C : Nat → List Nat} {M : MS} (hC : RC G S x n0 ar L C M) {c : Nat} (hI : MI c M) (hc : c < 512) {y : Int32} : zXr l yX5_purseAt wsX5_purseAt rm_X5_purseAt [.ref x, .int y] D cI cZ cO G S (fun r S' => S = S' ∧ ∃ i, i < mP M ∧ y = nI i ∧ (C 0)[i]? = some r) (fun E => E = eB ∧ ¬ inR y (mP M)) := by
  have hx5 := hC.1.1
  have hxn := hC.1.2.1
  have hxo := hC.1.2.2.1
  have hxs := hC.1.2.2.2.1
  have hxa := hC.1.2.2.2.2
  have har := hC.2.2.1.1
  have harr := hC.2.2.1.2
  have hA0 := hC.2.2.2.1.1 0 (by omega)
  have hA1 := hC.2.2.2.1.1 1 (by omega)
  have hA2 := hC.2.2.2.1.1 2 (by omega)
  have h70 := hA0.1
  have h71 := hA1.1
  have h72 := hA2.1
  have hl0 := hC.2.2.2.2.1.1
  have hl1 := hC.2.2.2.2.1.2.1
  have hl2 := hC.2.2.2.2.1.2.2
  have hs0 : pI S 20 (L 0) = nI (mP M) := by rw [← hl0]; exact hA0.2.1
  have hs1 : pI S 20 (L 1) = nI (mM M) := by rw [← hl1]; exact hA1.2.1
  have hs2 : pI S 20 (L 2) = nI (mE M) := by rw [← hl2]; exact hA2.2.1
  have := MI_p hI; have := MI_m hI; have := MI_e hI
  refine z_ofX (cc := cX5_purseAt) (maxL := 2) (ret := (some (.object "PurseWorld$Purse"))) (lo := [some (.ref x), some (.int y)]) (by decide) rfl rfl (Nat.le_of_ble_eq_true rfl) rfl ?_
  intro pp ee ss mi aa bl mh cd h0 hts hown hr hlk hnm htab
  have hown : ss.vm.findClass RX5 = some mi.cls := hown
  have inX5 : ∀ w ∈ u_ws RX5 TX5 4, w ∈ wsX5_purseAt := by decide +kernel
  have lk_21 : zLk ss mi aa RX5 21 6 1 := ⟨RX5, TX5, 4, "PurseWorld", wsX5_purseAt, rfl, by decide, hts, inX5, hown, hts (.fieldLink RX5 21 "PurseWorld" "owners" "Ljava/util/ArrayList;") (by decide +kernel), fun _ h => h⟩
  refine z_iload_n h0 dX5_purseAt_0 rfl ?_
  refine z_if_lt (tgt := 15) h0 dX5_purseAt_1 (by decide) (fun h1 => ?_) (fun h1 => ?_)
  · exact z_throw h0 hl hown (by decide +kernel) (hts (.classLink RX5 194 "java/lang/IndexOutOfBoundsException") (by decide +kernel)) (hts (.initialized "java/lang/IndexOutOfBoundsException") (by decide +kernel)) (h0.2.2.2.2.2.2.2.2.2.2.1 (214, "no such purse") (by decide +kernel)) (xe_hat xe_bad2 h0.2.2.2.2.2 (by decide +kernel) (fun w hw => hts w (List.mem_cons_of_mem _ (List.mem_append_right _ hw)))) (xe_ot2 _) dX5_purseAt_15 dX5_purseAt_18 dX5_purseAt_19 dX5_purseAt_21 dX5_purseAt_24 htab hlk (Nat.le_of_ble_eq_true rfl) (Nat.le_of_ble_eq_true rfl) (Nat.le_of_ble_eq_true rfl) (Nat.le_of_ble_eq_true rfl) (Nat.le_of_ble_eq_true rfl) (Nat.le_of_ble_eq_true rfl) ⟨rfl, inR_neg h1⟩
  · refine z_iload_n h0 dX5_purseAt_4 rfl ?_
    refine z_aload_n h0 dX5_purseAt_5 rfl ?_
    refine z_getO h0 fO7 lk_21 dX5_purseAt_6 (by assumption) (by assumption) ?_
    refine z_cVi (n := 0) (As := []) h0 hts hown (c_Jx4a65c_size_8abf5 h70) gX5_purseAt_Jx4a65c_size_8abf5 rfl (by decide +kernel) ⟨Nat.le_of_ble_eq_true rfl, Nat.le_of_ble_eq_true rfl⟩ kOk7 rfl (by assumption) dX5_purseAt_9 rfl rfl (Nat.le_of_ble_eq_true rfl) ⟨Nat.le_of_ble_eq_true rfl, Nat.le_of_ble_eq_true rfl⟩ (fun r9 S9 hp9 => ?_)
    obtain ⟨rfl, hr9⟩ := hp9
    rw [hs0] at hr9
    subst hr9
    refine z_icmp_lt (tgt := 25) h0 dX5_purseAt_12 (by decide) (fun h12 => ?_) (fun h12 => ?_)
    · obtain ⟨i, hi, rfl⟩ := inR_nI (inR_mk h1 h12 (by omega)) (by omega)
      obtain ⟨a, ha⟩ := RC_at hC hi
      refine z_aload_n h0 dX5_purseAt_25 rfl ?_
      refine z_getO h0 fO7 lk_21 dX5_purseAt_26 (by assumption) (by assumption) ?_
      refine z_iload_n h0 dX5_purseAt_29 rfl ?_
      refine z_cVr (n := 1) (As := [_]) h0 hts hown (c_Jx4a65c_get_915e3 (j := i) hA0 (nI_toInt (by omega)) ha) gX5_purseAt_Jx4a65c_get_915e3 rfl (by decide +kernel) ⟨Nat.le_of_ble_eq_true rfl, Nat.le_of_ble_eq_true rfl⟩ kOk7 rfl (by assumption) dX5_purseAt_30 rfl rfl (Nat.le_of_ble_eq_true rfl) ⟨Nat.le_of_ble_eq_true rfl, Nat.le_of_ble_eq_true rfl⟩ (fun r30 S30 hp30 => ?_)
      obtain ⟨rfl, rfl⟩ := hp30
      refine z_cast h0 hown (hts (.classLink RX5 52 "PurseWorld$Purse") (by decide +kernel)) kOk3 rfl (hC.2.2.2.2.2.1 i _ ha).1 dX5_purseAt_33 ?_
      refine z_x ?_
      exact z_aret h0 hr (Or.inl ⟨_, rfl⟩) hlk dX5_purseAt_36 (Nat.le_of_ble_eq_true rfl) (Nat.le_of_ble_eq_true rfl) ⟨rfl, i, hi, rfl, ha⟩
    · exact z_throw h0 hl hown (by decide +kernel) (hts (.classLink RX5 194 "java/lang/IndexOutOfBoundsException") (by decide +kernel)) (hts (.initialized "java/lang/IndexOutOfBoundsException") (by decide +kernel)) (h0.2.2.2.2.2.2.2.2.2.2.1 (214, "no such purse") (by decide +kernel)) (xe_hat xe_bad2 h0.2.2.2.2.2 (by decide +kernel) (fun w hw => hts w (List.mem_cons_of_mem _ (List.mem_append_right _ hw)))) (xe_ot2 _) dX5_purseAt_15 dX5_purseAt_18 dX5_purseAt_19 dX5_purseAt_21 dX5_purseAt_24 htab hlk (Nat.le_of_ble_eq_true rfl) (Nat.le_of_ble_eq_true rfl) (Nat.le_of_ble_eq_true rfl) (Nat.le_of_ble_eq_true rfl) (Nat.le_of_ble_eq_true rfl) (Nat.le_of_ble_eq_true rfl) ⟨rfl, inR_ge h12 (by omega)⟩

set_option maxRecDepth 100000 in
set_option maxHeartbeats 4000000 in
theorem c_X5_purseAt_y {l : Launch} {D : va_G} {cI cZ cO : ClassId} {G : Nat → Nat} {S : PS} {x n0 ar : Nat} {L : Nat → Nat} {C : Nat → List Nat} {M : MS} (hC : RC G S x n0 ar L C M) {c : Nat} (hI : MI c M) (hc : c < 512) {i a : Nat} (hi : i < mP M) (ha : (C 0)[i]? = some a) : zMr l yX5_purseAt wsX5_purseAt rm_X5_purseAt [.ref x, .int (nI i)] D cI cZ cO G S (fun r S' => S = S' ∧ (C 0)[i]? = some r) := by
  have hx5 := hC.1.1
  have hxn := hC.1.2.1
  have hxo := hC.1.2.2.1
  have hxs := hC.1.2.2.2.1
  have hxa := hC.1.2.2.2.2
  have har := hC.2.2.1.1
  have harr := hC.2.2.1.2
  have hA0 := hC.2.2.2.1.1 0 (by omega)
  have hA1 := hC.2.2.2.1.1 1 (by omega)
  have hA2 := hC.2.2.2.1.1 2 (by omega)
  have h70 := hA0.1
  have h71 := hA1.1
  have h72 := hA2.1
  have hl0 := hC.2.2.2.2.1.1
  have hl1 := hC.2.2.2.2.1.2.1
  have hl2 := hC.2.2.2.2.1.2.2
  have hs0 : pI S 20 (L 0) = nI (mP M) := by rw [← hl0]; exact hA0.2.1
  have hs1 : pI S 20 (L 1) = nI (mM M) := by rw [← hl1]; exact hA1.2.1
  have hs2 : pI S 20 (L 2) = nI (mE M) := by rw [← hl2]; exact hA2.2.1
  have := MI_p hI; have := MI_m hI; have := MI_e hI
  refine z_of (cc := cX5_purseAt) (maxL := 2) (ret := (some (.object "PurseWorld$Purse"))) (lo := [some (.ref x), some (.int (nI i))]) (by decide) rfl rfl (Nat.le_of_ble_eq_true rfl) rfl ?_
  intro pp ee ss mi aa bl mh cd h0 hts hown hr hlk hnm
  have hown : ss.vm.findClass RX5 = some mi.cls := hown
  have inX5 : ∀ w ∈ u_ws RX5 TX5 4, w ∈ wsX5_purseAt := by decide +kernel
  have lk_21 : zLk ss mi aa RX5 21 6 1 := ⟨RX5, TX5, 4, "PurseWorld", wsX5_purseAt, rfl, by decide, hts, inX5, hown, hts (.fieldLink RX5 21 "PurseWorld" "owners" "Ljava/util/ArrayList;") (by decide +kernel), fun _ h => h⟩
  refine z_iload_n h0 dX5_purseAt_0 rfl ?_
  refine z_if_lt (tgt := 15) h0 dX5_purseAt_1 (by decide) (fun h1 => absurd h1 (nI_pos (by omega))) (fun h1 => ?_)
  refine z_iload_n h0 dX5_purseAt_4 rfl ?_
  refine z_aload_n h0 dX5_purseAt_5 rfl ?_
  refine z_getO h0 fO7 lk_21 dX5_purseAt_6 (by assumption) (by assumption) ?_
  refine z_cVi (n := 0) (As := []) h0 hts hown (c_Jx4a65c_size_8abf5 h70) gX5_purseAt_Jx4a65c_size_8abf5 rfl (by decide +kernel) ⟨Nat.le_of_ble_eq_true rfl, Nat.le_of_ble_eq_true rfl⟩ kOk7 rfl (by assumption) dX5_purseAt_9 rfl rfl (Nat.le_of_ble_eq_true rfl) ⟨Nat.le_of_ble_eq_true rfl, Nat.le_of_ble_eq_true rfl⟩ (fun r9 S9 hp9 => ?_)
  obtain ⟨rfl, hr9⟩ := hp9
  rw [hs0] at hr9
  subst hr9
  refine z_icmp_lt (tgt := 25) h0 dX5_purseAt_12 (by decide) (fun h12 => ?_) (fun h12 => absurd (nI_lt hi (by omega)) h12)
  refine z_aload_n h0 dX5_purseAt_25 rfl ?_
  refine z_getO h0 fO7 lk_21 dX5_purseAt_26 (by assumption) (by assumption) ?_
  refine z_iload_n h0 dX5_purseAt_29 rfl ?_
  refine z_cVr (n := 1) (As := [_]) h0 hts hown (c_Jx4a65c_get_915e3 (j := i) hA0 (nI_toInt (by omega)) ha) gX5_purseAt_Jx4a65c_get_915e3 rfl (by decide +kernel) ⟨Nat.le_of_ble_eq_true rfl, Nat.le_of_ble_eq_true rfl⟩ kOk7 rfl (by assumption) dX5_purseAt_30 rfl rfl (Nat.le_of_ble_eq_true rfl) ⟨Nat.le_of_ble_eq_true rfl, Nat.le_of_ble_eq_true rfl⟩ (fun r30 S30 hp30 => ?_)
  obtain ⟨rfl, rfl⟩ := hp30
  refine z_cast h0 hown (hts (.classLink RX5 52 "PurseWorld$Purse") (by decide +kernel)) kOk3 rfl (hC.2.2.2.2.2.1 i _ ha).1 dX5_purseAt_33 ?_
  exact z_aret h0 hr (Or.inl ⟨_, rfl⟩) hlk dX5_purseAt_36 (Nat.le_of_ble_eq_true rfl) (Nat.le_of_ble_eq_true rfl) ⟨rfl, ha⟩

abbrev rm_X5_messageAt : Room := { frames := 6, cells := 1, slots := 6, locals := 90 }
set_option maxRecDepth 100000 in
set_option maxHeartbeats 4000000 in
theorem c_X5_messageAt_x {l : Launch} {D : va_G} {cI cZ cO : ClassId} {G : Nat → Nat} {S : PS} (hl : l.stackTraces = false) {x n0 ar : Nat} {L : Nat → Nat} {C : Nat → List Nat} {M : MS} (hC : RC G S x n0 ar L C M) {c : Nat} (hI : MI c M) (hc : c < 512) {y : Int32} : zXr l yX5_messageAt wsX5_messageAt rm_X5_messageAt [.ref x, .int y] D cI cZ cO G S (fun r S' => S = S' ∧ ∃ i, i < mM M ∧ y = nI i ∧ (C 1)[i]? = some r) (fun E => E = eB ∧ ¬ inR y (mM M)) := by
  have hx5 := hC.1.1
  have hxn := hC.1.2.1
  have hxo := hC.1.2.2.1
  have hxs := hC.1.2.2.2.1
  have hxa := hC.1.2.2.2.2
  have har := hC.2.2.1.1
  have harr := hC.2.2.1.2
  have hA0 := hC.2.2.2.1.1 0 (by omega)
  have hA1 := hC.2.2.2.1.1 1 (by omega)
  have hA2 := hC.2.2.2.1.1 2 (by omega)
  have h70 := hA0.1
  have h71 := hA1.1
  have h72 := hA2.1
  have hl0 := hC.2.2.2.2.1.1
  have hl1 := hC.2.2.2.2.1.2.1
  have hl2 := hC.2.2.2.2.1.2.2
  have hs0 : pI S 20 (L 0) = nI (mP M) := by rw [← hl0]; exact hA0.2.1
  have hs1 : pI S 20 (L 1) = nI (mM M) := by rw [← hl1]; exact hA1.2.1
  have hs2 : pI S 20 (L 2) = nI (mE M) := by rw [← hl2]; exact hA2.2.1
  have := MI_p hI; have := MI_m hI; have := MI_e hI
  refine z_ofX (cc := cX5_messageAt) (maxL := 2) (ret := (some (.object "PurseWorld$Message"))) (lo := [some (.ref x), some (.int y)]) (by decide) rfl rfl (Nat.le_of_ble_eq_true rfl) rfl ?_
  intro pp ee ss mi aa bl mh cd h0 hts hown hr hlk hnm htab
  have hown : ss.vm.findClass RX5 = some mi.cls := hown
  have inX5 : ∀ w ∈ u_ws RX5 TX5 4, w ∈ wsX5_messageAt := by decide +kernel
  have lk_25 : zLk ss mi aa RX5 25 6 2 := ⟨RX5, TX5, 4, "PurseWorld", wsX5_messageAt, rfl, by decide, hts, inX5, hown, hts (.fieldLink RX5 25 "PurseWorld" "sent" "Ljava/util/ArrayList;") (by decide +kernel), fun _ h => h⟩
  refine z_iload_n h0 dX5_messageAt_0 rfl ?_
  refine z_if_lt (tgt := 15) h0 dX5_messageAt_1 (by decide) (fun h1 => ?_) (fun h1 => ?_)
  · exact z_throw h0 hl hown (by decide +kernel) (hts (.classLink RX5 194 "java/lang/IndexOutOfBoundsException") (by decide +kernel)) (hts (.initialized "java/lang/IndexOutOfBoundsException") (by decide +kernel)) (h0.2.2.2.2.2.2.2.2.2.2.1 (216, "no such message") (by decide +kernel)) (xe_hat xe_bad2 h0.2.2.2.2.2 (by decide +kernel) (fun w hw => hts w (List.mem_cons_of_mem _ (List.mem_append_right _ hw)))) (xe_ot2 _) dX5_messageAt_15 dX5_messageAt_18 dX5_messageAt_19 dX5_messageAt_21 dX5_messageAt_24 htab hlk (Nat.le_of_ble_eq_true rfl) (Nat.le_of_ble_eq_true rfl) (Nat.le_of_ble_eq_true rfl) (Nat.le_of_ble_eq_true rfl) (Nat.le_of_ble_eq_true rfl) (Nat.le_of_ble_eq_true rfl) ⟨rfl, inR_neg h1⟩
  · refine z_iload_n h0 dX5_messageAt_4 rfl ?_
    refine z_aload_n h0 dX5_messageAt_5 rfl ?_
    refine z_getO h0 fO8 lk_25 dX5_messageAt_6 (by assumption) (by assumption) ?_
    refine z_cVi (n := 0) (As := []) h0 hts hown (c_Jx4a65c_size_8abf5 h71) gX5_messageAt_Jx4a65c_size_8abf5 rfl (by decide +kernel) ⟨Nat.le_of_ble_eq_true rfl, Nat.le_of_ble_eq_true rfl⟩ kOk7 rfl (by assumption) dX5_messageAt_9 rfl rfl (Nat.le_of_ble_eq_true rfl) ⟨Nat.le_of_ble_eq_true rfl, Nat.le_of_ble_eq_true rfl⟩ (fun r9 S9 hp9 => ?_)
    obtain ⟨rfl, hr9⟩ := hp9
    rw [hs1] at hr9
    subst hr9
    refine z_icmp_lt (tgt := 25) h0 dX5_messageAt_12 (by decide) (fun h12 => ?_) (fun h12 => ?_)
    · obtain ⟨i, hi, rfl⟩ := inR_nI (inR_mk h1 h12 (by omega)) (by omega)
      obtain ⟨a, ha⟩ := RC_mat hC hi
      refine z_aload_n h0 dX5_messageAt_25 rfl ?_
      refine z_getO h0 fO8 lk_25 dX5_messageAt_26 (by assumption) (by assumption) ?_
      refine z_iload_n h0 dX5_messageAt_29 rfl ?_
      refine z_cVr (n := 1) (As := [_]) h0 hts hown (c_Jx4a65c_get_915e3 (j := i) hA1 (nI_toInt (by omega)) ha) gX5_messageAt_Jx4a65c_get_915e3 rfl (by decide +kernel) ⟨Nat.le_of_ble_eq_true rfl, Nat.le_of_ble_eq_true rfl⟩ kOk7 rfl (by assumption) dX5_messageAt_30 rfl rfl (Nat.le_of_ble_eq_true rfl) ⟨Nat.le_of_ble_eq_true rfl, Nat.le_of_ble_eq_true rfl⟩ (fun r30 S30 hp30 => ?_)
      obtain ⟨rfl, rfl⟩ := hp30
      refine z_cast h0 hown (hts (.classLink RX5 91 "PurseWorld$Message") (by decide +kernel)) kOk2 rfl (hC.2.2.2.2.2.2.1 i _ ha).1 dX5_messageAt_33 ?_
      refine z_x ?_
      exact z_aret h0 hr (Or.inl ⟨_, rfl⟩) hlk dX5_messageAt_36 (Nat.le_of_ble_eq_true rfl) (Nat.le_of_ble_eq_true rfl) ⟨rfl, i, hi, rfl, ha⟩
    · exact z_throw h0 hl hown (by decide +kernel) (hts (.classLink RX5 194 "java/lang/IndexOutOfBoundsException") (by decide +kernel)) (hts (.initialized "java/lang/IndexOutOfBoundsException") (by decide +kernel)) (h0.2.2.2.2.2.2.2.2.2.2.1 (216, "no such message") (by decide +kernel)) (xe_hat xe_bad2 h0.2.2.2.2.2 (by decide +kernel) (fun w hw => hts w (List.mem_cons_of_mem _ (List.mem_append_right _ hw)))) (xe_ot2 _) dX5_messageAt_15 dX5_messageAt_18 dX5_messageAt_19 dX5_messageAt_21 dX5_messageAt_24 htab hlk (Nat.le_of_ble_eq_true rfl) (Nat.le_of_ble_eq_true rfl) (Nat.le_of_ble_eq_true rfl) (Nat.le_of_ble_eq_true rfl) (Nat.le_of_ble_eq_true rfl) (Nat.le_of_ble_eq_true rfl) ⟨rfl, inR_ge h12 (by omega)⟩

abbrev rm_X5_entryAt : Room := { frames := 6, cells := 1, slots := 6, locals := 90 }
set_option maxRecDepth 100000 in
set_option maxHeartbeats 4000000 in
theorem c_X5_entryAt_x {l : Launch} {D : va_G} {cI cZ cO : ClassId} {G : Nat → Nat} {S : PS} (hl : l.stackTraces = false) {x n0 ar : Nat} {L : Nat → Nat} {C : Nat → List Nat} {M : MS} (hC : RC G S x n0 ar L C M) {c : Nat} (hI : MI c M) (hc : c < 512) {y : Int32} : zXr l yX5_entryAt wsX5_entryAt rm_X5_entryAt [.ref x, .int y] D cI cZ cO G S (fun r S' => S = S' ∧ ∃ i, i < mE M ∧ y = nI i ∧ (C 2)[i]? = some r) (fun E => E = eB ∧ ¬ inR y (mE M)) := by
  have hx5 := hC.1.1
  have hxn := hC.1.2.1
  have hxo := hC.1.2.2.1
  have hxs := hC.1.2.2.2.1
  have hxa := hC.1.2.2.2.2
  have har := hC.2.2.1.1
  have harr := hC.2.2.1.2
  have hA0 := hC.2.2.2.1.1 0 (by omega)
  have hA1 := hC.2.2.2.1.1 1 (by omega)
  have hA2 := hC.2.2.2.1.1 2 (by omega)
  have h70 := hA0.1
  have h71 := hA1.1
  have h72 := hA2.1
  have hl0 := hC.2.2.2.2.1.1
  have hl1 := hC.2.2.2.2.1.2.1
  have hl2 := hC.2.2.2.2.1.2.2
  have hs0 : pI S 20 (L 0) = nI (mP M) := by rw [← hl0]; exact hA0.2.1
  have hs1 : pI S 20 (L 1) = nI (mM M) := by rw [← hl1]; exact hA1.2.1
  have hs2 : pI S 20 (L 2) = nI (mE M) := by rw [← hl2]; exact hA2.2.1
  have := MI_p hI; have := MI_m hI; have := MI_e hI
  refine z_ofX (cc := cX5_entryAt) (maxL := 2) (ret := (some (.object "PurseWorld$Entry"))) (lo := [some (.ref x), some (.int y)]) (by decide) rfl rfl (Nat.le_of_ble_eq_true rfl) rfl ?_
  intro pp ee ss mi aa bl mh cd h0 hts hown hr hlk hnm htab
  have hown : ss.vm.findClass RX5 = some mi.cls := hown
  have inX0 : ∀ w ∈ u_ws RX0 TX0 1, w ∈ wsX5_entryAt := by decide +kernel
  have inX5 : ∀ w ∈ u_ws RX5 TX5 4, w ∈ wsX5_entryAt := by decide +kernel
  have lk_31 : zLk ss mi aa RX5 31 6 3 := ⟨RX5, TX5, 4, "PurseWorld", wsX5_entryAt, rfl, by decide, hts, inX5, hown, hts (.fieldLink RX5 31 "PurseWorld" "archive" "LPurseWorld$Archive;") (by decide +kernel), fun _ h => h⟩
  have lk_207 : zLk ss mi aa RX5 207 1 0 := ⟨RX0, TX0, 1, "PurseWorld$Archive", wsX5_entryAt, rfl, by decide, hts, inX0, hown, hts (.fieldLink RX5 207 "PurseWorld$Archive" "rows" "Ljava/util/ArrayList;") (by decide +kernel), fun _ h => h⟩
  refine z_iload_n h0 dX5_entryAt_0 rfl ?_
  refine z_if_lt (tgt := 15) h0 dX5_entryAt_1 (by decide) (fun h1 => ?_) (fun h1 => ?_)
  · exact z_throw h0 hl hown (by decide +kernel) (hts (.classLink RX5 194 "java/lang/IndexOutOfBoundsException") (by decide +kernel)) (hts (.initialized "java/lang/IndexOutOfBoundsException") (by decide +kernel)) (h0.2.2.2.2.2.2.2.2.2.2.1 (218, "no such entry") (by decide +kernel)) (xe_hat xe_bad2 h0.2.2.2.2.2 (by decide +kernel) (fun w hw => hts w (List.mem_cons_of_mem _ (List.mem_append_right _ hw)))) (xe_ot2 _) dX5_entryAt_15 dX5_entryAt_18 dX5_entryAt_19 dX5_entryAt_21 dX5_entryAt_24 htab hlk (Nat.le_of_ble_eq_true rfl) (Nat.le_of_ble_eq_true rfl) (Nat.le_of_ble_eq_true rfl) (Nat.le_of_ble_eq_true rfl) (Nat.le_of_ble_eq_true rfl) (Nat.le_of_ble_eq_true rfl) ⟨rfl, inR_neg h1⟩
  · refine z_iload_n h0 dX5_entryAt_4 rfl ?_
    refine z_aload_n h0 dX5_entryAt_5 rfl ?_
    refine z_getO h0 fO9 lk_31 dX5_entryAt_6 (by assumption) (by assumption) ?_
    refine z_cVi (n := 0) (As := []) h0 hts hown (c_X0_size har harr hA2) gX5_entryAt_X0_size rfl (by decide +kernel) ⟨Nat.le_of_ble_eq_true rfl, Nat.le_of_ble_eq_true rfl⟩ kOk0 rfl (by assumption) dX5_entryAt_9 rfl rfl (Nat.le_of_ble_eq_true rfl) ⟨Nat.le_of_ble_eq_true rfl, Nat.le_of_ble_eq_true rfl⟩ (fun r9 S9 hp9 => ?_)
    obtain ⟨rfl, hr9⟩ := hp9
    rw [hl2] at hr9
    subst hr9
    refine z_icmp_lt (tgt := 25) h0 dX5_entryAt_12 (by decide) (fun h12 => ?_) (fun h12 => ?_)
    · obtain ⟨i, hi, rfl⟩ := inR_nI (inR_mk h1 h12 (by omega)) (by omega)
      obtain ⟨a, ha⟩ := RC_eat hC hi
      refine z_aload_n h0 dX5_entryAt_25 rfl ?_
      refine z_getO h0 fO9 lk_31 dX5_entryAt_26 (by assumption) (by assumption) ?_
      refine z_getO h0 fO0 lk_207 dX5_entryAt_29 (by assumption) (by assumption) ?_
      refine z_iload_n h0 dX5_entryAt_32 rfl ?_
      refine z_cVr (n := 1) (As := [_]) h0 hts hown (c_Jx4a65c_get_915e3 (j := i) hA2 (nI_toInt (by omega)) ha) gX5_entryAt_Jx4a65c_get_915e3 rfl (by decide +kernel) ⟨Nat.le_of_ble_eq_true rfl, Nat.le_of_ble_eq_true rfl⟩ kOk7 rfl (by assumption) dX5_entryAt_33 rfl rfl (Nat.le_of_ble_eq_true rfl) ⟨Nat.le_of_ble_eq_true rfl, Nat.le_of_ble_eq_true rfl⟩ (fun r33 S33 hp33 => ?_)
      obtain ⟨rfl, rfl⟩ := hp33
      refine z_cast h0 hown (hts (.classLink RX5 156 "PurseWorld$Entry") (by decide +kernel)) kOk1 rfl (hC.2.2.2.2.2.2.2 i _ ha).1 dX5_entryAt_36 ?_
      refine z_x ?_
      exact z_aret h0 hr (Or.inl ⟨_, rfl⟩) hlk dX5_entryAt_39 (Nat.le_of_ble_eq_true rfl) (Nat.le_of_ble_eq_true rfl) ⟨rfl, i, hi, rfl, ha⟩
    · exact z_throw h0 hl hown (by decide +kernel) (hts (.classLink RX5 194 "java/lang/IndexOutOfBoundsException") (by decide +kernel)) (hts (.initialized "java/lang/IndexOutOfBoundsException") (by decide +kernel)) (h0.2.2.2.2.2.2.2.2.2.2.1 (218, "no such entry") (by decide +kernel)) (xe_hat xe_bad2 h0.2.2.2.2.2 (by decide +kernel) (fun w hw => hts w (List.mem_cons_of_mem _ (List.mem_append_right _ hw)))) (xe_ot2 _) dX5_entryAt_15 dX5_entryAt_18 dX5_entryAt_19 dX5_entryAt_21 dX5_entryAt_24 htab hlk (Nat.le_of_ble_eq_true rfl) (Nat.le_of_ble_eq_true rfl) (Nat.le_of_ble_eq_true rfl) (Nat.le_of_ble_eq_true rfl) (Nat.le_of_ble_eq_true rfl) (Nat.le_of_ble_eq_true rfl) ⟨rfl, inR_ge h12 (by omega)⟩

abbrev rm_X5_partOf : Room := { frames := 6, cells := 1, slots := 6, locals := 90 }
set_option maxRecDepth 100000 in
set_option maxHeartbeats 4000000 in
theorem c_X5_partOf_x {l : Launch} {D : va_G} {cI cZ cO : ClassId} {G : Nat → Nat} {S : PS} (hl : l.stackTraces = false) {t : Nat} {w : Int32} (ht : isK S 4 t) : zXi l yX5_partOf wsX5_partOf rm_X5_partOf [.ref t, .int w] D cI cZ cO G S (fun r S' => S = S' ∧ (0 ≤ w ∧ w ≤ 4) ∧ r = part (ixN w) (tr S t)) (fun E => E = eA ∧ ¬ (0 ≤ w ∧ w ≤ 4)) := by
  refine z_ofX (cc := cX5_partOf) (maxL := 2) (ret := (some .int)) (lo := [some (.ref t), some (.int w)]) (by decide) rfl rfl (Nat.le_of_ble_eq_true rfl) rfl ?_
  intro pp ee ss mi aa bl mh cd h0 hts hown hr hlk hnm htab
  have hown : ss.vm.findClass RX5 = some mi.cls := hown
  have inX4 : ∀ w ∈ u_ws RX4 TX4 5, w ∈ wsX5_partOf := by decide +kernel
  have lk_158 : zLk ss mi aa RX5 158 5 0 := ⟨RX4, TX4, 5, "PurseWorld$Transfer", wsX5_partOf, rfl, by decide, hts, inX4, hown, hts (.fieldLink RX5 158 "PurseWorld$Transfer" "payer" "I") (by decide +kernel), fun _ h => h⟩
  have lk_164 : zLk ss mi aa RX5 164 5 2 := ⟨RX4, TX4, 5, "PurseWorld$Transfer", wsX5_partOf, rfl, by decide, hts, inX4, hown, hts (.fieldLink RX5 164 "PurseWorld$Transfer" "payee" "I") (by decide +kernel), fun _ h => h⟩
  have lk_182 : zLk ss mi aa RX5 182 5 4 := ⟨RX4, TX4, 5, "PurseWorld$Transfer", wsX5_partOf, rfl, by decide, hts, inX4, hown, hts (.fieldLink RX5 182 "PurseWorld$Transfer" "amount" "I") (by decide +kernel), fun _ h => h⟩
  have lk_220 : zLk ss mi aa RX5 220 5 1 := ⟨RX4, TX4, 5, "PurseWorld$Transfer", wsX5_partOf, rfl, by decide, hts, inX4, hown, hts (.fieldLink RX5 220 "PurseWorld$Transfer" "payerSerial" "I") (by decide +kernel), fun _ h => h⟩
  have lk_223 : zLk ss mi aa RX5 223 5 3 := ⟨RX4, TX4, 5, "PurseWorld$Transfer", wsX5_partOf, rfl, by decide, hts, inX4, hown, hts (.fieldLink RX5 223 "PurseWorld$Transfer" "payeeSerial" "I") (by decide +kernel), fun _ h => h⟩
  refine z_iload_n h0 dX5_partOf_0 rfl ?_
  by_cases hw1 : 0 ≤ w ∧ w ≤ 4
  · obtain ⟨w0, hw0, rfl⟩ := nI_of2 (M := 4) (n := 4) (by decide) (k2_nlt hw1.1) hw1.2
    rcases (show w0 = 0 ∨ w0 = 1 ∨ w0 = 2 ∨ w0 = 3 ∨ w0 = 4 by omega) with rfl | rfl | rfl | rfl | rfl
    · refine z_tableIn (off := 35) (tgt := 36) h0 dX5_partOf_1 (by decide) (by decide) (by decide) (by decide) ?_
      refine z_aload_n h0 dX5_partOf_36 rfl ?_
      refine z_getI h0 fI10 lk_158 dX5_partOf_37 (by assumption) ?_
      refine z_x ?_
      exact z_iret h0 hr hlk dX5_partOf_40 (Nat.le_of_ble_eq_true rfl) (Nat.le_of_ble_eq_true rfl) ⟨rfl, hw1, rfl⟩
    · refine z_tableIn (off := 40) (tgt := 41) h0 dX5_partOf_1 (by decide) (by decide) (by decide) (by decide) ?_
      refine z_aload_n h0 dX5_partOf_41 rfl ?_
      refine z_getI h0 fI11 lk_220 dX5_partOf_42 (by assumption) ?_
      refine z_x ?_
      exact z_iret h0 hr hlk dX5_partOf_45 (Nat.le_of_ble_eq_true rfl) (Nat.le_of_ble_eq_true rfl) ⟨rfl, hw1, rfl⟩
    · refine z_tableIn (off := 45) (tgt := 46) h0 dX5_partOf_1 (by decide) (by decide) (by decide) (by decide) ?_
      refine z_aload_n h0 dX5_partOf_46 rfl ?_
      refine z_getI h0 fI12 lk_164 dX5_partOf_47 (by assumption) ?_
      refine z_x ?_
      exact z_iret h0 hr hlk dX5_partOf_50 (Nat.le_of_ble_eq_true rfl) (Nat.le_of_ble_eq_true rfl) ⟨rfl, hw1, rfl⟩
    · refine z_tableIn (off := 50) (tgt := 51) h0 dX5_partOf_1 (by decide) (by decide) (by decide) (by decide) ?_
      refine z_aload_n h0 dX5_partOf_51 rfl ?_
      refine z_getI h0 fI13 lk_223 dX5_partOf_52 (by assumption) ?_
      refine z_x ?_
      exact z_iret h0 hr hlk dX5_partOf_55 (Nat.le_of_ble_eq_true rfl) (Nat.le_of_ble_eq_true rfl) ⟨rfl, hw1, rfl⟩
    · refine z_tableIn (off := 55) (tgt := 56) h0 dX5_partOf_1 (by decide) (by decide) (by decide) (by decide) ?_
      refine z_aload_n h0 dX5_partOf_56 rfl ?_
      refine z_getI h0 fI14 lk_182 dX5_partOf_57 (by assumption) ?_
      refine z_x ?_
      exact z_iret h0 hr hlk dX5_partOf_60 (Nat.le_of_ble_eq_true rfl) (Nat.le_of_ble_eq_true rfl) ⟨rfl, hw1, rfl⟩
  · refine z_tableOut (tgt := 61) h0 dX5_partOf_1 (sw_out (by decide) hw1) (by decide) ?_
    exact z_throw h0 hl hown (by decide +kernel) (hts (.classLink RX5 36 "java/lang/IllegalArgumentException") (by decide +kernel)) (hts (.initialized "java/lang/IllegalArgumentException") (by decide +kernel)) (h0.2.2.2.2.2.2.2.2.2.2.1 (226, "there is no such part") (by decide +kernel)) (xe_hat xe_bad0 h0.2.2.2.2.2 (by decide +kernel) (fun w hw => hts w (List.mem_cons_of_mem _ (List.mem_append_right _ hw)))) (xe_ot0 _) dX5_partOf_61 dX5_partOf_64 dX5_partOf_65 dX5_partOf_67 dX5_partOf_70 htab hlk (Nat.le_of_ble_eq_true rfl) (Nat.le_of_ble_eq_true rfl) (Nat.le_of_ble_eq_true rfl) (Nat.le_of_ble_eq_true rfl) (Nat.le_of_ble_eq_true rfl) (Nat.le_of_ble_eq_true rfl) ⟨rfl, hw1⟩

abbrev rm_X5_needRoomFor : Room := { frames := 6, cells := 1, slots := 6, locals := 90 }
set_option maxRecDepth 100000 in
set_option maxHeartbeats 4000000 in
theorem c_X5_needRoomFor_x {l : Launch} {D : va_G} {cI cZ cO : ClassId} {G : Nat → Nat} {S : PS} (hl : l.stackTraces = false) {x n0 ar : Nat} {L : Nat → Nat} {C : Nat → List Nat} {M : MS} (hC : RC G S x n0 ar L C M) {c : Nat} (hI : MI c M) (hc : c < 512) {k : Nat} (hk : k ≤ 1000) : zXv l yX5_needRoomFor wsX5_needRoomFor rm_X5_needRoomFor [.ref x, .int (nI k)] D cI cZ cO G S (fun S' => S = S' ∧ mM M + k ≤ 800) (fun E => E = eU ∧ 800 < mM M + k) := by
  have hx5 := hC.1.1
  have hxn := hC.1.2.1
  have hxo := hC.1.2.2.1
  have hxs := hC.1.2.2.2.1
  have hxa := hC.1.2.2.2.2
  have har := hC.2.2.1.1
  have harr := hC.2.2.1.2
  have hA0 := hC.2.2.2.1.1 0 (by omega)
  have hA1 := hC.2.2.2.1.1 1 (by omega)
  have hA2 := hC.2.2.2.1.1 2 (by omega)
  have h70 := hA0.1
  have h71 := hA1.1
  have h72 := hA2.1
  have hl0 := hC.2.2.2.2.1.1
  have hl1 := hC.2.2.2.2.1.2.1
  have hl2 := hC.2.2.2.2.1.2.2
  have hs0 : pI S 20 (L 0) = nI (mP M) := by rw [← hl0]; exact hA0.2.1
  have hs1 : pI S 20 (L 1) = nI (mM M) := by rw [← hl1]; exact hA1.2.1
  have hs2 : pI S 20 (L 2) = nI (mE M) := by rw [← hl2]; exact hA2.2.1
  have := MI_p hI; have := MI_m hI; have := MI_e hI
  refine z_ofX (cc := cX5_needRoomFor) (maxL := 2) (ret := none) (lo := [some (.ref x), some (.int (nI k))]) (by decide) rfl rfl (Nat.le_of_ble_eq_true rfl) rfl ?_
  intro pp ee ss mi aa bl mh cd h0 hts hown hr hlk hnm htab
  have hown : ss.vm.findClass RX5 = some mi.cls := hown
  have inX5 : ∀ w ∈ u_ws RX5 TX5 4, w ∈ wsX5_needRoomFor := by decide +kernel
  have lk_25 : zLk ss mi aa RX5 25 6 2 := ⟨RX5, TX5, 4, "PurseWorld", wsX5_needRoomFor, rfl, by decide, hts, inX5, hown, hts (.fieldLink RX5 25 "PurseWorld" "sent" "Ljava/util/ArrayList;") (by decide +kernel), fun _ h => h⟩
  refine z_aload_n h0 dX5_needRoomFor_0 rfl ?_
  refine z_getO h0 fO8 lk_25 dX5_needRoomFor_1 (by assumption) (by assumption) ?_
  refine z_cVi (n := 0) (As := []) h0 hts hown (c_Jx4a65c_size_8abf5 h71) gX5_needRoomFor_Jx4a65c_size_8abf5 rfl (by decide +kernel) ⟨Nat.le_of_ble_eq_true rfl, Nat.le_of_ble_eq_true rfl⟩ kOk7 rfl (by assumption) dX5_needRoomFor_4 rfl rfl (Nat.le_of_ble_eq_true rfl) ⟨Nat.le_of_ble_eq_true rfl, Nat.le_of_ble_eq_true rfl⟩ (fun r4 S4 hp4 => ?_)
  obtain ⟨rfl, hr4⟩ := hp4
  rw [hs1] at hr4
  subst hr4
  refine z_iload_n h0 dX5_needRoomFor_7 rfl ?_
  refine z_iadd h0 dX5_needRoomFor_8 ?_
  refine z_top (nI_add _ _) ?_
  refine z_sipush (v := 800) h0 dX5_needRoomFor_9 (by decide) ?_
  refine z_icmp_le (tgt := 25) h0 dX5_needRoomFor_12 (by decide) (fun h12 => ?_) (fun h12 => ?_)
  · refine z_x ?_
    exact z_vret h0 hr hlk dX5_needRoomFor_25 (Nat.le_of_ble_eq_true rfl) (Nat.le_of_ble_eq_true rfl) ⟨rfl, (nI_leI (b := 800) (by omega) (by decide)).mp h12⟩
  · exact z_throw h0 hl hown (by decide +kernel) (hts (.classLink RX5 47 "java/lang/UnsupportedOperationException") (by decide +kernel)) (hts (.initialized "java/lang/UnsupportedOperationException") (by decide +kernel)) (h0.2.2.2.2.2.2.2.2.2.2.1 (228, "too many messages") (by decide +kernel)) (xe_hat xe_bad1 h0.2.2.2.2.2 (by decide +kernel) (fun w hw => hts w (List.mem_cons_of_mem _ (List.mem_append_right _ hw)))) (xe_ot1 _) dX5_needRoomFor_15 dX5_needRoomFor_18 dX5_needRoomFor_19 dX5_needRoomFor_21 dX5_needRoomFor_24 htab hlk (Nat.le_of_ble_eq_true rfl) (Nat.le_of_ble_eq_true rfl) (Nat.le_of_ble_eq_true rfl) (Nat.le_of_ble_eq_true rfl) (Nat.le_of_ble_eq_true rfl) (Nat.le_of_ble_eq_true rfl) ⟨rfl, Nat.lt_of_not_ge (fun w => h12 (nI_le (b := 800) w (by decide)))⟩

abbrev rm_X5_send : Room := { frames := 7, cells := 2, slots := 1505, locals := 191 }
set_option maxRecDepth 100000 in
set_option maxHeartbeats 4000000 in
theorem c_X5_send {l : Launch} {D : va_G} {cI cZ cO : ClassId} {G : Nat → Nat} {S : PS} {x n0 ar : Nat} {L : Nat → Nat} {C : Nat → List Nat} {M : MS} (hC : RC G S x n0 ar L C M) {b c : Nat} (hI : MIb b c M) {t r : Nat} {k to : Int32} (hm : mM M < 800) (ht : isK S 4 t) (htr : tr S t = mT M r) (h5 : ¬ k = 5) (h6 : ¬ k = 6) : zMi l yX5_send wsX5_send rm_X5_send [.ref x, .int k, .int to, .ref t] D cI cZ cO G S (fun q S' => (∃ v, RC G S' x n0 ar L (va_up C 1 (C 1 ++ [v])) (mSend M k to r)) ∧ KF S S' ∧ q = nI (mM M)) := by
  have hx5 := hC.1.1
  have hxn := hC.1.2.1
  have hxo := hC.1.2.2.1
  have hxs := hC.1.2.2.2.1
  have hxa := hC.1.2.2.2.2
  have har := hC.2.2.1.1
  have harr := hC.2.2.1.2
  have hA0 := hC.2.2.2.1.1 0 (by omega)
  have hA1 := hC.2.2.2.1.1 1 (by omega)
  have hA2 := hC.2.2.2.1.1 2 (by omega)
  have h70 := hA0.1
  have h71 := hA1.1
  have h72 := hA2.1
  have hl0 := hC.2.2.2.2.1.1
  have hl1 := hC.2.2.2.2.1.2.1
  have hl2 := hC.2.2.2.2.1.2.2
  have hs0 : pI S 20 (L 0) = nI (mP M) := by rw [← hl0]; exact hA0.2.1
  have hs1 : pI S 20 (L 1) = nI (mM M) := by rw [← hl1]; exact hA1.2.1
  have hs2 : pI S 20 (L 2) = nI (mE M) := by rw [← hl2]; exact hA2.2.1
  refine z_of (cc := cX5_send) (maxL := 5) (ret := (some .int)) (lo := [some (.ref x), some (.int k), some (.int to), some (.ref t), none]) (by decide) rfl rfl (Nat.le_of_ble_eq_true rfl) rfl ?_
  intro pp ee ss mi aa bl mh cd h0 hts hown hr hlk hnm
  have hown : ss.vm.findClass RX5 = some mi.cls := hown
  have inX5 : ∀ w ∈ u_ws RX5 TX5 4, w ∈ wsX5_send := by decide +kernel
  have lk_25 : zLk ss mi aa RX5 25 6 2 := ⟨RX5, TX5, 4, "PurseWorld", wsX5_send, rfl, by decide, hts, inX5, hown, hts (.fieldLink RX5 25 "PurseWorld" "sent" "Ljava/util/ArrayList;") (by decide +kernel), fun _ h => h⟩
  refine z_aload_n h0 dX5_send_0 rfl ?_
  refine z_getO h0 fO8 lk_25 dX5_send_1 (by assumption) (by assumption) ?_
  refine z_cVi (n := 0) (As := []) h0 hts hown (c_Jx4a65c_size_8abf5 h71) gX5_send_Jx4a65c_size_8abf5 rfl (by decide +kernel) ⟨Nat.le_of_ble_eq_true rfl, Nat.le_of_ble_eq_true rfl⟩ kOk7 rfl (by assumption) dX5_send_4 rfl rfl (Nat.le_of_ble_eq_true rfl) ⟨Nat.le_of_ble_eq_true rfl, Nat.le_of_ble_eq_true rfl⟩ (fun r4 S4 hp4 => ?_)
  obtain ⟨rfl, hr4⟩ := hp4
  rw [hs1] at hr4
  subst hr4
  refine z_istore (lo' := [_, _, _, _, _]) h0 dX5_send_7 (by decide) rfl rfl ?_
  refine z_aload_n h0 dX5_send_9 rfl ?_
  refine z_getO h0 fO8 lk_25 dX5_send_10 (by assumption) (by assumption) ?_
  refine z_new h0 nOk2 hts (by decide +kernel) tyX2 tyX2_ok hown (hts (.classLink RX5 91 RX2) (by decide +kernel)) (hts (.instantiable RX2 5) (by decide +kernel)) (hts (.initialized RX2) (by decide +kernel)) rfl (fun j hj => by rcases (show j = 0 ∨ j = 1 ∨ j = 2 ∨ j = 3 ∨ j = 4 by omega) with rfl | rfl | rfl | rfl | rfl <;> rfl) (Nat.le_of_ble_eq_true rfl) (Nat.le_of_ble_eq_true rfl) dX5_send_13 (fun q13 hq13 => ?_)
  refine z_dup h0 dX5_send_16 rfl ?_
  refine z_iload_n h0 dX5_send_17 rfl ?_
  refine z_iload_n h0 dX5_send_18 rfl ?_
  refine z_aload_n h0 dX5_send_19 rfl ?_
  refine z_iconst (v := -1) h0 dX5_send_20 (by decide) ?_
  refine z_iconst (v := 0) h0 dX5_send_21 (by decide) ?_
  refine z_cIv (n := 5) (As := [_, _, _, _, _]) h0 hts hown (c_X2_init (isK_new (S := S) (q := q13) (k := 2) (n := 0))) gX5_send_X2_init rfl (by decide +kernel) ⟨Nat.le_of_ble_eq_true rfl, Nat.le_of_ble_eq_true rfl⟩ (hts (.initialized RX2) (by decide +kernel)) (hts (.methodLink RX5 141 yX2_init) (by decide +kernel)) (hts (.instanceMethod yX2_init) (by decide +kernel)) rfl dX5_send_22 rfl rfl (Nat.le_of_ble_eq_true rfl) ⟨Nat.le_of_ble_eq_true rfl, Nat.le_of_ble_eq_true rfl⟩ (fun S22 hp22 => ?_)
  subst hp22
  refine z_G0 h0 (fun hG => ?_)
  have hL := LS_msg (k := k) (to := to) (t := t) (x3 := -1) (x4 := 0) hC.2.2.2.1 hq13
  refine z_cVi (n := 1) (As := [_]) h0 hts hown (c_Jx4a65c_add_9ea2d (S := mkMsg S q13 k to t (-1) 0) (hL.1 1 (by omega)) (by omega) ⟨2, by simp, isK_new (S := S) (q := q13) (k := 2) (n := 0)⟩) gX5_send_Jx4a65c_add_9ea2d rfl (by decide +kernel) ⟨Nat.le_of_ble_eq_true rfl, Nat.le_of_ble_eq_true rfl⟩ kOk7 rfl (hL.1 1 (by omega)).1 dX5_send_25 rfl rfl (Nat.le_of_ble_eq_true rfl) ⟨Nat.le_of_ble_eq_true rfl, Nat.le_of_ble_eq_true rfl⟩ (fun r25 S25 hp25 => ?_)
  obtain ⟨hp25, -⟩ := hp25
  obtain ⟨hR, hF⟩ := RC_msg hC hI hm hq13 hG hp25 ht htr (fun z => absurd z h5) (fun z => absurd z h6)
  refine z_pop h0 dX5_send_28 rfl ?_
  refine z_iload h0 dX5_send_29 rfl ?_
  exact z_iret h0 hr hlk dX5_send_31 (Nat.le_of_ble_eq_true rfl) (Nat.le_of_ble_eq_true rfl) ⟨⟨_, hR⟩, hF, rfl⟩

abbrev rm_X5_messages : Room := { frames := 1, cells := 0, slots := 0, locals := 20 }
set_option maxRecDepth 100000 in
set_option maxHeartbeats 4000000 in
theorem c_X5_messages {l : Launch} {D : va_G} {cI cZ cO : ClassId} {G : Nat → Nat} {S : PS} {x n0 ar : Nat} {L : Nat → Nat} {C : Nat → List Nat} {M : MS} (hC : RC G S x n0 ar L C M) {c : Nat} (hI : MI c M) (hc : c < 512) : zMi l yX5_messages wsX5_messages rm_X5_messages [.ref x] D cI cZ cO G S (fun r S' => S = S' ∧ r = nI (mM M)) := by
  have hx5 := hC.1.1
  have hxn := hC.1.2.1
  have hxo := hC.1.2.2.1
  have hxs := hC.1.2.2.2.1
  have hxa := hC.1.2.2.2.2
  have har := hC.2.2.1.1
  have harr := hC.2.2.1.2
  have hA0 := hC.2.2.2.1.1 0 (by omega)
  have hA1 := hC.2.2.2.1.1 1 (by omega)
  have hA2 := hC.2.2.2.1.1 2 (by omega)
  have h70 := hA0.1
  have h71 := hA1.1
  have h72 := hA2.1
  have hl0 := hC.2.2.2.2.1.1
  have hl1 := hC.2.2.2.2.1.2.1
  have hl2 := hC.2.2.2.2.1.2.2
  have hs0 : pI S 20 (L 0) = nI (mP M) := by rw [← hl0]; exact hA0.2.1
  have hs1 : pI S 20 (L 1) = nI (mM M) := by rw [← hl1]; exact hA1.2.1
  have hs2 : pI S 20 (L 2) = nI (mE M) := by rw [← hl2]; exact hA2.2.1
  have := MI_p hI; have := MI_m hI; have := MI_e hI
  refine z_of (cc := cX5_messages) (maxL := 1) (ret := (some .int)) (lo := [some (.ref x)]) (by decide) rfl rfl (Nat.le_of_ble_eq_true rfl) rfl ?_
  intro pp ee ss mi aa bl mh cd h0 hts hown hr hlk hnm
  have hown : ss.vm.findClass RX5 = some mi.cls := hown
  have inX5 : ∀ w ∈ u_ws RX5 TX5 4, w ∈ wsX5_messages := by decide +kernel
  have lk_25 : zLk ss mi aa RX5 25 6 2 := ⟨RX5, TX5, 4, "PurseWorld", wsX5_messages, rfl, by decide, hts, inX5, hown, hts (.fieldLink RX5 25 "PurseWorld" "sent" "Ljava/util/ArrayList;") (by decide +kernel), fun _ h => h⟩
  refine z_aload_n h0 dX5_messages_0 rfl ?_
  refine z_getO h0 fO8 lk_25 dX5_messages_1 (by assumption) (by assumption) ?_
  refine z_cVi (n := 0) (As := []) h0 hts hown (c_Jx4a65c_size_8abf5 h71) gX5_messages_Jx4a65c_size_8abf5 rfl (by decide +kernel) ⟨Nat.le_of_ble_eq_true rfl, Nat.le_of_ble_eq_true rfl⟩ kOk7 rfl (by assumption) dX5_messages_4 rfl rfl (Nat.le_of_ble_eq_true rfl) ⟨Nat.le_of_ble_eq_true rfl, Nat.le_of_ble_eq_true rfl⟩ (fun r4 S4 hp4 => ?_)
  obtain ⟨rfl, hr4⟩ := hp4
  rw [hs1] at hr4
  subst hr4
  exact z_iret h0 hr hlk dX5_messages_7 (Nat.le_of_ble_eq_true rfl) (Nat.le_of_ble_eq_true rfl) ⟨rfl, rfl⟩

abbrev rm_X5_purses : Room := { frames := 1, cells := 0, slots := 0, locals := 20 }
set_option maxRecDepth 100000 in
set_option maxHeartbeats 4000000 in
theorem c_X5_purses {l : Launch} {D : va_G} {cI cZ cO : ClassId} {G : Nat → Nat} {S : PS} {x n0 ar : Nat} {L : Nat → Nat} {C : Nat → List Nat} {M : MS} (hC : RC G S x n0 ar L C M) {c : Nat} (hI : MI c M) (hc : c < 512) : zMi l yX5_purses wsX5_purses rm_X5_purses [.ref x] D cI cZ cO G S (fun r S' => S = S' ∧ r = nI (mP M)) := by
  have hx5 := hC.1.1
  have hxn := hC.1.2.1
  have hxo := hC.1.2.2.1
  have hxs := hC.1.2.2.2.1
  have hxa := hC.1.2.2.2.2
  have har := hC.2.2.1.1
  have harr := hC.2.2.1.2
  have hA0 := hC.2.2.2.1.1 0 (by omega)
  have hA1 := hC.2.2.2.1.1 1 (by omega)
  have hA2 := hC.2.2.2.1.1 2 (by omega)
  have h70 := hA0.1
  have h71 := hA1.1
  have h72 := hA2.1
  have hl0 := hC.2.2.2.2.1.1
  have hl1 := hC.2.2.2.2.1.2.1
  have hl2 := hC.2.2.2.2.1.2.2
  have hs0 : pI S 20 (L 0) = nI (mP M) := by rw [← hl0]; exact hA0.2.1
  have hs1 : pI S 20 (L 1) = nI (mM M) := by rw [← hl1]; exact hA1.2.1
  have hs2 : pI S 20 (L 2) = nI (mE M) := by rw [← hl2]; exact hA2.2.1
  have := MI_p hI; have := MI_m hI; have := MI_e hI
  refine z_of (cc := cX5_purses) (maxL := 1) (ret := (some .int)) (lo := [some (.ref x)]) (by decide) rfl rfl (Nat.le_of_ble_eq_true rfl) rfl ?_
  intro pp ee ss mi aa bl mh cd h0 hts hown hr hlk hnm
  have hown : ss.vm.findClass RX5 = some mi.cls := hown
  have inX5 : ∀ w ∈ u_ws RX5 TX5 4, w ∈ wsX5_purses := by decide +kernel
  have lk_21 : zLk ss mi aa RX5 21 6 1 := ⟨RX5, TX5, 4, "PurseWorld", wsX5_purses, rfl, by decide, hts, inX5, hown, hts (.fieldLink RX5 21 "PurseWorld" "owners" "Ljava/util/ArrayList;") (by decide +kernel), fun _ h => h⟩
  refine z_aload_n h0 dX5_purses_0 rfl ?_
  refine z_getO h0 fO7 lk_21 dX5_purses_1 (by assumption) (by assumption) ?_
  refine z_cVi (n := 0) (As := []) h0 hts hown (c_Jx4a65c_size_8abf5 h70) gX5_purses_Jx4a65c_size_8abf5 rfl (by decide +kernel) ⟨Nat.le_of_ble_eq_true rfl, Nat.le_of_ble_eq_true rfl⟩ kOk7 rfl (by assumption) dX5_purses_4 rfl rfl (Nat.le_of_ble_eq_true rfl) ⟨Nat.le_of_ble_eq_true rfl, Nat.le_of_ble_eq_true rfl⟩ (fun r4 S4 hp4 => ?_)
  obtain ⟨rfl, hr4⟩ := hp4
  rw [hs0] at hr4
  subst hr4
  exact z_iret h0 hr hlk dX5_purses_7 (Nat.le_of_ble_eq_true rfl) (Nat.le_of_ble_eq_true rfl) ⟨rfl, rfl⟩

abbrev rm_X5_entries : Room := { frames := 2, cells := 0, slots := 0, locals := 40 }
set_option maxRecDepth 100000 in
set_option maxHeartbeats 4000000 in
theorem c_X5_entries {l : Launch} {D : va_G} {cI cZ cO : ClassId} {G : Nat → Nat} {S : PS} {x n0 ar : Nat} {L : Nat → Nat} {C : Nat → List Nat} {M : MS} (hC : RC G S x n0 ar L C M) {c : Nat} (hI : MI c M) (hc : c < 512) : zMi l yX5_entries wsX5_entries rm_X5_entries [.ref x] D cI cZ cO G S (fun r S' => S = S' ∧ r = nI (mE M)) := by
  have hx5 := hC.1.1
  have hxn := hC.1.2.1
  have hxo := hC.1.2.2.1
  have hxs := hC.1.2.2.2.1
  have hxa := hC.1.2.2.2.2
  have har := hC.2.2.1.1
  have harr := hC.2.2.1.2
  have hA0 := hC.2.2.2.1.1 0 (by omega)
  have hA1 := hC.2.2.2.1.1 1 (by omega)
  have hA2 := hC.2.2.2.1.1 2 (by omega)
  have h70 := hA0.1
  have h71 := hA1.1
  have h72 := hA2.1
  have hl0 := hC.2.2.2.2.1.1
  have hl1 := hC.2.2.2.2.1.2.1
  have hl2 := hC.2.2.2.2.1.2.2
  have hs0 : pI S 20 (L 0) = nI (mP M) := by rw [← hl0]; exact hA0.2.1
  have hs1 : pI S 20 (L 1) = nI (mM M) := by rw [← hl1]; exact hA1.2.1
  have hs2 : pI S 20 (L 2) = nI (mE M) := by rw [← hl2]; exact hA2.2.1
  have := MI_p hI; have := MI_m hI; have := MI_e hI
  refine z_of (cc := cX5_entries) (maxL := 1) (ret := (some .int)) (lo := [some (.ref x)]) (by decide) rfl rfl (Nat.le_of_ble_eq_true rfl) rfl ?_
  intro pp ee ss mi aa bl mh cd h0 hts hown hr hlk hnm
  have hown : ss.vm.findClass RX5 = some mi.cls := hown
  have inX5 : ∀ w ∈ u_ws RX5 TX5 4, w ∈ wsX5_entries := by decide +kernel
  have lk_31 : zLk ss mi aa RX5 31 6 3 := ⟨RX5, TX5, 4, "PurseWorld", wsX5_entries, rfl, by decide, hts, inX5, hown, hts (.fieldLink RX5 31 "PurseWorld" "archive" "LPurseWorld$Archive;") (by decide +kernel), fun _ h => h⟩
  refine z_aload_n h0 dX5_entries_0 rfl ?_
  refine z_getO h0 fO9 lk_31 dX5_entries_1 (by assumption) (by assumption) ?_
  refine z_cVi (n := 0) (As := []) h0 hts hown (c_X0_size har harr hA2) gX5_entries_X0_size rfl (by decide +kernel) ⟨Nat.le_of_ble_eq_true rfl, Nat.le_of_ble_eq_true rfl⟩ kOk0 rfl (by assumption) dX5_entries_4 rfl rfl (Nat.le_of_ble_eq_true rfl) ⟨Nat.le_of_ble_eq_true rfl, Nat.le_of_ble_eq_true rfl⟩ (fun r4 S4 hp4 => ?_)
  obtain ⟨rfl, hr4⟩ := hp4
  rw [hl2] at hr4
  subst hr4
  exact z_iret h0 hr hlk dX5_entries_7 (Nat.le_of_ble_eq_true rfl) (Nat.le_of_ble_eq_true rfl) ⟨rfl, rfl⟩

end CLS1
