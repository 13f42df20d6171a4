/-! THE CLASS: what is delivered. -/
section CLS4
theorem mEnd_q {b c : Nat} {M : MS} {p i : Nat} (h : MIb b c M) (hp : p < mP M) : mT (mEnd M p) (72 + i) = mT M (72 + i) := by
  have hp12 := h.1
  by_cases h0 : mA M 2 p = 0
  · rw [mEnd_0 h0]
  · refine mEnd_T ?_ (by omega)
    obtain ⟨s, n, v, es, hs3, en, hn5, ev, hv1, hvb, hcur, -⟩ := h.2.2.2.1 p hp
    have := (hcur (fun z => h0 (by rw [es, z]; rfl))).1
    rw [lnN_of en (by omega)]; exact this
theorem set1 {t : T5} {x y : Int32} (h : part 0 t = x) : (x, y, part 2 t, part 3 t, part 4 t) = setP t 1 y := by rw [← h]; rfl
theorem set3 {t : T5} {x y : Int32} (h : part 2 t = x) : (part 0 t, part 1 t, x, y, part 4 t) = setP t 3 y := by rw [← h]; rfl

abbrev rm_X5_takePay : Room := { frames := 8, cells := 4, slots := 1520, locals := 211 }
set_option maxRecDepth 100000 in
set_option maxHeartbeats 4000000 in
theorem c_X5_takePay {l : Launch} {D : va_G} {cI cZ cO : ClassId} {G : Nat → Nat} {S : PS} {x n0 ar : Nat} {L : Nat → Nat} {C : Nat → List Nat} {M : MS} (hC : RC G S x n0 ar L C M) {c : Nat} (hI : MI c M) (hc : c < 512) {i g p : Nat} (hi : i < mM M) (hg : (C 1)[i]? = some g) (hk : mA M 4 i = 0) (hp : p < mP M) (hto : mA M 5 i = nI p) (ht0 : part 0 (mT M (72 + i)) = nI p) : zMi l yX5_takePay wsX5_takePay rm_X5_takePay [.ref x, .ref g] D cI cZ cO G S (fun r S' => (∃ C', RC G S' x n0 ar L C' (mTakes M p (72 + i) true).1) ∧ KF S S' ∧ r = bI (mTakes M p (72 + i) true).2) := by
  have hx5 := hC.1.1
  have hxn := hC.1.2.1
  have hxo := hC.1.2.2.1
  have hxs := hC.1.2.2.2.1
  have hxa := hC.1.2.2.2.2
  have har := hC.2.2.1.1
  have harr := hC.2.2.1.2
  have hA0 := hC.2.2.2.1.1 0 (by omega)
  have hA1 := hC.2.2.2.1.1 1 (by omega)
  have hA2 := hC.2.2.2.1.1 2 (by omega)
  have h70 := hA0.1
  have h71 := hA1.1
  have h72 := hA2.1
  have hl0 := hC.2.2.2.2.1.1
  have hl1 := hC.2.2.2.2.1.2.1
  have hl2 := hC.2.2.2.2.1.2.2
  have hs0 : pI S 20 (L 0) = nI (mP M) := by rw [← hl0]; exact hA0.2.1
  have hs1 : pI S 20 (L 1) = nI (mM M) := by rw [← hl1]; exact hA1.2.1
  have hs2 : pI S 20 (L 2) = nI (mE M) := by rw [← hl2]; exact hA2.2.1
  have := MI_p hI; have := MI_m hI; have := MI_e hI
  have hmr := hC.2.2.2.2.2.2.1 i g hg
  have k2 := hmr.1
  have mk := hmr.2.1
  have mto := hmr.2.2.1
  obtain ⟨t, mt, t4, mtr⟩ := hmr.2.2.2.1
  obtain ⟨a0, ha0⟩ := RC_at hC hp
  refine z_of (cc := cX5_takePay) (maxL := 4) (ret := (some .boolean)) (lo := [some (.ref x), some (.ref g), none, none]) (by decide) rfl rfl (Nat.le_of_ble_eq_true rfl) rfl ?_
  intro pp ee ss mi aa bl mh cd h0 hts hown hr hlk hnm
  have hown : ss.vm.findClass RX5 = some mi.cls := hown
  have inX2 : ∀ w ∈ u_ws RX2 TX2 5, w ∈ wsX5_takePay := by decide +kernel
  have inX3 : ∀ w ∈ u_ws RX3 TX3 7, w ∈ wsX5_takePay := by decide +kernel
  have inX4 : ∀ w ∈ u_ws RX4 TX4 5, w ∈ wsX5_takePay := by decide +kernel
  have lk_74 : zLk ss mi aa RX5 74 4 4 := ⟨RX3, TX3, 7, "PurseWorld$Purse", wsX5_takePay, rfl, by decide, hts, inX3, hown, hts (.fieldLink RX5 74 "PurseWorld$Purse" "serial" "I") (by decide +kernel), fun _ h => h⟩
  have lk_113 : zLk ss mi aa RX5 113 3 2 := ⟨RX2, TX2, 5, "PurseWorld$Message", wsX5_takePay, rfl, by decide, hts, inX2, hown, hts (.fieldLink RX5 113 "PurseWorld$Message" "terms" "LPurseWorld$Transfer;") (by decide +kernel), fun _ h => h⟩
  have lk_164 : zLk ss mi aa RX5 164 5 2 := ⟨RX4, TX4, 5, "PurseWorld$Transfer", wsX5_takePay, rfl, by decide, hts, inX4, hown, hts (.fieldLink RX5 164 "PurseWorld$Transfer" "payee" "I") (by decide +kernel), fun _ h => h⟩
  have lk_179 : zLk ss mi aa RX5 179 4 3 := ⟨RX3, TX3, 7, "PurseWorld$Purse", wsX5_takePay, rfl, by decide, hts, inX3, hown, hts (.fieldLink RX5 179 "PurseWorld$Purse" "balance" "I") (by decide +kernel), fun _ h => h⟩
  have lk_182 : zLk ss mi aa RX5 182 5 4 := ⟨RX4, TX4, 5, "PurseWorld$Transfer", wsX5_takePay, rfl, by decide, hts, inX4, hown, hts (.fieldLink RX5 182 "PurseWorld$Transfer" "amount" "I") (by decide +kernel), fun _ h => h⟩
  have lk_199 : zLk ss mi aa RX5 199 3 1 := ⟨RX2, TX2, 5, "PurseWorld$Message", wsX5_takePay, rfl, by decide, hts, inX2, hown, hts (.fieldLink RX5 199 "PurseWorld$Message" "to" "I") (by decide +kernel), fun _ h => h⟩
  have lk_223 : zLk ss mi aa RX5 223 5 3 := ⟨RX4, TX4, 5, "PurseWorld$Transfer", wsX5_takePay, rfl, by decide, hts, inX4, hown, hts (.fieldLink RX5 223 "PurseWorld$Transfer" "payeeSerial" "I") (by decide +kernel), fun _ h => h⟩
  have lk_237 : zLk ss mi aa RX5 237 4 0 := ⟨RX3, TX3, 7, "PurseWorld$Purse", wsX5_takePay, rfl, by decide, hts, inX3, hown, hts (.fieldLink RX5 237 "PurseWorld$Purse" "number" "I") (by decide +kernel), fun _ h => h⟩
  refine z_aload_n h0 dX5_takePay_0 rfl ?_
  refine z_aload_n h0 dX5_takePay_1 rfl ?_
  refine z_getI h0 fI3 lk_199 dX5_takePay_2 (by assumption) ?_
  refine z_top (mto.trans hto) ?_
  refine z_cVr (n := 1) (As := [_]) h0 hts hown (c_X5_purseAt_y hC hI hc hp ha0) gX5_takePay_X5_purseAt rfl (by decide +kernel) ⟨Nat.le_of_ble_eq_true rfl, Nat.le_of_ble_eq_true rfl⟩ kOk5 rfl (by assumption) dX5_takePay_5 rfl rfl (Nat.le_of_ble_eq_true rfl) ⟨Nat.le_of_ble_eq_true rfl, Nat.le_of_ble_eq_true rfl⟩ (fun r5 S5 hp5 => ?_)
  obtain ⟨rfl, hpa⟩ := hp5
  have hpr := hC.2.2.2.2.2.1 p _ hpa
  have k3 := hpr.1
  have pnum := hpr.2.1
  have pnot := hpr.2.2.1
  have pkept := hpr.2.2.2.1
  have pbal := hpr.2.2.2.2.1
  have pser := hpr.2.2.2.2.2.1
  have pst := hpr.2.2.2.2.2.2.1
  have pln := hpr.2.2.2.2.2.2.2.1
  obtain ⟨cu, pcu, cu4, cu0, cuT⟩ := hpr.2.2.2.2.2.2.2.2.1
  have plog := hpr.2.2.2.2.2.2.2.2.2
  have hAk := hC.2.2.2.1.1 (p + 3) (by omega)
  have h7k := hAk.1
  have hsk := hAk.2.1
  refine z_astore_n (lo' := [_, _, _, _]) h0 dX5_takePay_8 (by decide) rfl rfl ?_
  refine z_aload_n h0 dX5_takePay_9 rfl ?_
  refine z_getO h0 fO2 lk_113 dX5_takePay_10 (by assumption) (by assumption) ?_
  refine z_astore_n (lo' := [_, _, _, _]) h0 dX5_takePay_13 (by decide) rfl rfl ?_
  refine z_aload_n h0 dX5_takePay_14 rfl ?_
  refine z_G0 h0 (fun hG => ?_)
  refine z_cVv (n := 0) (As := []) h0 hts hown (c_X3_end k3 pnot pkept pcu hAk (by have := (RC_len hC hI hpa).1; have := (RC_len hC hI hpa).2.1; omega) cu4 (by rw [pst]; exact st_cases hI hp)) gX5_takePay_X3_end rfl (by decide +kernel) ⟨Nat.le_of_ble_eq_true rfl, Nat.le_of_ble_eq_true rfl⟩ kOk3 rfl (by assumption) dX5_takePay_15 rfl rfl (Nat.le_of_ble_eq_true rfl) ⟨Nat.le_of_ble_eq_true rfl, Nat.le_of_ble_eq_true rfl⟩ (fun S15 hp15 => ?_)
  obtain ⟨C1, hC1, hF1, hCC⟩ := RC_end hC hI hpa pcu hp15 hG
  have hI1 := MIb_end hI (by omega) hp
  have e0 : C1 0 = C 0 := hCC 0 (by omega)
  have hpa1 : (C1 0)[p]? = some r5 := by rw [e0]; exact hpa
  have hpr1 := hC1.2.2.2.2.2.1 p _ hpa1
  have k31 := hpr1.1
  have pnum1 := hpr1.2.1
  have pkept1 := hpr1.2.2.2.1
  have pbal1 := hpr1.2.2.2.2.1
  have pser1 := hpr1.2.2.2.2.2.1
  have pln1 := hpr1.2.2.2.2.2.2.2.1
  have hlen1 := RC_len hC1 hI1 hpa1
  have hAk1 := hC1.2.2.2.1.1 (p + 3) (by omega)
  have t41 := KF_K hF1 t4
  have mtr1 : tr S15 t = mT (mEnd M p) (72 + i) := by rw [mEnd_q hI hp, KF_tr hF1 t4]; exact mtr
  refine z_aload_n h0 dX5_takePay_18 rfl ?_
  refine z_cVi (n := 0) (As := []) h0 hts hown (c_X3_logIsFull k31 pkept1 hAk1) gX5_takePay_X3_logIsFull rfl (by decide +kernel) ⟨Nat.le_of_ble_eq_true rfl, Nat.le_of_ble_eq_true rfl⟩ kOk3 rfl (by assumption) dX5_takePay_19 rfl rfl (Nat.le_of_ble_eq_true rfl) ⟨Nat.le_of_ble_eq_true rfl, Nat.le_of_ble_eq_true rfl⟩ (fun r19 S19 hp19 => ?_)
  obtain ⟨rfl, hr19⟩ := hp19
  refine z_if_ne (tgt := 36) h0 dX5_takePay_22 (by decide) (fun h22 => ?_) (fun h22 => ?_)
  · refine z_iconst (v := 0) h0 dX5_takePay_36 (by decide) ?_
    exact z_zret h0 hr rfl hlk dX5_takePay_37 (Nat.le_of_ble_eq_true rfl) (Nat.le_of_ble_eq_true rfl) ⟨⟨C1, by rw [mTakes_no (Or.inl (pln1.trans (len_5 hr19 h22 (by omega))))]; exact hC1⟩, hF1, by rw [mTakes_no (Or.inl (pln1.trans (len_5 hr19 h22 (by omega))))]; rfl⟩
  · refine z_aload_n h0 dX5_takePay_25 rfl ?_
    refine z_getI h0 fI7 lk_179 dX5_takePay_26 (by assumption) ?_
    refine z_top pbal1 ?_
    refine z_aload_n h0 dX5_takePay_29 rfl ?_
    refine z_getI h0 fI14 lk_182 dX5_takePay_30 (by assumption) ?_
    refine z_top (y := part 4 (mT (mEnd M p) (72 + i))) (congrArg (part 4) mtr1) ?_
    refine z_icmp_ge (tgt := 38) h0 dX5_takePay_33 (by decide) (fun h33 => ?_) (fun h33 => ?_)
    · refine z_aload_n h0 dX5_takePay_38 rfl ?_
      refine z_iconst (v := 1) h0 dX5_takePay_39 (by decide) ?_
      refine z_new h0 nOk4 hts (by decide +kernel) tyX4 tyX4_ok hown (hts (.classLink RX5 7 RX4) (by decide +kernel)) (hts (.instantiable RX4 5) (by decide +kernel)) (hts (.initialized RX4) (by decide +kernel)) rfl (fun j hj => by rcases (show j = 0 ∨ j = 1 ∨ j = 2 ∨ j = 3 ∨ j = 4 by omega) with rfl | rfl | rfl | rfl | rfl <;> rfl) (Nat.le_of_ble_eq_true rfl) (Nat.le_of_ble_eq_true rfl) dX5_takePay_40 (fun q40 hq40 => ?_)
      have k3n := isK_old (k := 4) (n := 0) k31 hq40
      have t4n := isK_old (k := 4) (n := 0) t41 hq40
      refine z_dup h0 dX5_takePay_43 rfl ?_
      refine z_aload_n h0 dX5_takePay_44 rfl ?_
      refine z_getI h0 fI6 lk_237 dX5_takePay_45 (by assumption) ?_
      refine z_top (y := nI p) ((upA_a _ _ _ (isK_ne k31 hq40)).trans pnum1) ?_
      refine z_aload_n h0 dX5_takePay_48 rfl ?_
      refine z_getI h0 fI8 lk_74 dX5_takePay_49 (by assumption) ?_
      refine z_top (y := mA (mEnd M p) 1 p) ((upA_a _ _ _ (isK_ne k31 hq40)).trans pser1) ?_
      refine z_aload_n h0 dX5_takePay_52 rfl ?_
      refine z_getI h0 fI12 lk_164 dX5_takePay_53 (by assumption) ?_
      refine z_top (y := part 2 (mT (mEnd M p) (72 + i))) ((upA_a _ _ _ (isK_ne t41 hq40)).trans (congrArg (part 2) mtr1)) ?_
      refine z_aload_n h0 dX5_takePay_56 rfl ?_
      refine z_getI h0 fI13 lk_223 dX5_takePay_57 (by assumption) ?_
      refine z_top (y := part 3 (mT (mEnd M p) (72 + i))) ((upA_a _ _ _ (isK_ne t41 hq40)).trans (congrArg (part 3) mtr1)) ?_
      refine z_aload_n h0 dX5_takePay_60 rfl ?_
      refine z_getI h0 fI14 lk_182 dX5_takePay_61 (by assumption) ?_
      refine z_top (y := part 4 (mT (mEnd M p) (72 + i))) ((upA_a _ _ _ (isK_ne t41 hq40)).trans (congrArg (part 4) mtr1)) ?_
      refine z_cIv (n := 5) (As := [_, _, _, _, _]) h0 hts hown (c_X4_init (isK_new (S := S15) (q := q40) (k := 4) (n := 0))) gX5_takePay_X4_init rfl (by decide +kernel) ⟨Nat.le_of_ble_eq_true rfl, Nat.le_of_ble_eq_true rfl⟩ (hts (.initialized RX4) (by decide +kernel)) (hts (.methodLink RX5 11 yX4_init) (by decide +kernel)) (hts (.instanceMethod yX4_init) (by decide +kernel)) rfl dX5_takePay_64 rfl rfl (Nat.le_of_ble_eq_true rfl) ⟨Nat.le_of_ble_eq_true rfl, Nat.le_of_ble_eq_true rfl⟩ (fun S64 hp64 => ?_)
      subst hp64
      refine z_cVv (n := 2) (As := [_, _]) h0 hts hown (c_X3_start (S := mkTr S15 q40 (nI p, mA (mEnd M p) 1 p, part 2 (mT (mEnd M p) (72 + i)), part 3 (mT (mEnd M p) (72 + i)), part 4 (mT (mEnd M p) (72 + i)))) k3n) gX5_takePay_X3_start rfl (by decide +kernel) ⟨Nat.le_of_ble_eq_true rfl, Nat.le_of_ble_eq_true rfl⟩ kOk3 rfl k3n dX5_takePay_67 rfl rfl (Nat.le_of_ble_eq_true rfl) ⟨Nat.le_of_ble_eq_true rfl, Nat.le_of_ble_eq_true rfl⟩ (fun S67 hp67 => ?_)
      subst hp67
      obtain ⟨hC2, hF2⟩ := RC_go (d := true) hC1 hI1 hpa1 hq40 (set1 (t := (mT (mEnd M p) (72 + i))) (x := nI p) (y := mA (mEnd M p) 1 p) (by rw [mEnd_q hI hp]; exact ht0))
      have hno := mTakes_t (M := M) (p := p) (q := 72 + i) (fun z => z.elim (fun w => len_n5 hr19 h22 (pln1.symm.trans w)) (fun w => k2_nlt h33 w.2))
      refine z_iconst (v := 1) h0 dX5_takePay_70 (by decide) ?_
      exact z_zret h0 hr rfl hlk dX5_takePay_71 (Nat.le_of_ble_eq_true rfl) (Nat.le_of_ble_eq_true rfl) ⟨⟨C1, by rw [hno]; exact hC2⟩, KF_trans hF1 hF2, by rw [hno]; rfl⟩
    · refine z_iconst (v := 0) h0 dX5_takePay_36 (by decide) ?_
      exact z_zret h0 hr rfl hlk dX5_takePay_37 (Nat.le_of_ble_eq_true rfl) (Nat.le_of_ble_eq_true rfl) ⟨⟨C1, by rw [mTakes_no (Or.inr ⟨rfl, k2_lt h33⟩)]; exact hC1⟩, hF1, by rw [mTakes_no (Or.inr ⟨rfl, k2_lt h33⟩)]; rfl⟩

abbrev rm_X5_takeEarn : Room := { frames := 8, cells := 6, slots := 3030, locals := 215 }
set_option maxRecDepth 100000 in
set_option maxHeartbeats 4000000 in
theorem c_X5_takeEarn {l : Launch} {D : va_G} {cI cZ cO : ClassId} {G : Nat → Nat} {S : PS} {x n0 ar : Nat} {L : Nat → Nat} {C : Nat → List Nat} {M : MS} (hC : RC G S x n0 ar L C M) {c : Nat} (hI : MI c M) (hc : c < 512) {i g p : Nat} (hi : i < mM M) (hg : (C 1)[i]? = some g) (hk : mA M 4 i = 1) (hp : p < mP M) (hto : mA M 5 i = nI p) (ht0 : part 2 (mT M (72 + i)) = nI p) (htk : tOk (mP M) (mT M (72 + i))) (hm8 : mM M < 800) : zMi l yX5_takeEarn wsX5_takeEarn rm_X5_takeEarn [.ref x, .ref g] D cI cZ cO G S (fun r S' => (∃ C', RC G S' x n0 ar L C' (mTakes M p (72 + i) false).1) ∧ KF S S' ∧ r = bI (mTakes M p (72 + i) false).2) := by
  have hx5 := hC.1.1
  have hxn := hC.1.2.1
  have hxo := hC.1.2.2.1
  have hxs := hC.1.2.2.2.1
  have hxa := hC.1.2.2.2.2
  have har := hC.2.2.1.1
  have harr := hC.2.2.1.2
  have hA0 := hC.2.2.2.1.1 0 (by omega)
  have hA1 := hC.2.2.2.1.1 1 (by omega)
  have hA2 := hC.2.2.2.1.1 2 (by omega)
  have h70 := hA0.1
  have h71 := hA1.1
  have h72 := hA2.1
  have hl0 := hC.2.2.2.2.1.1
  have hl1 := hC.2.2.2.2.1.2.1
  have hl2 := hC.2.2.2.2.1.2.2
  have hs0 : pI S 20 (L 0) = nI (mP M) := by rw [← hl0]; exact hA0.2.1
  have hs1 : pI S 20 (L 1) = nI (mM M) := by rw [← hl1]; exact hA1.2.1
  have hs2 : pI S 20 (L 2) = nI (mE M) := by rw [← hl2]; exact hA2.2.1
  have := MI_p hI; have := MI_m hI; have := MI_e hI
  have hmr := hC.2.2.2.2.2.2.1 i g hg
  have k2 := hmr.1
  have mk := hmr.2.1
  have mto := hmr.2.2.1
  obtain ⟨t, mt, t4, mtr⟩ := hmr.2.2.2.1
  obtain ⟨a0, ha0⟩ := RC_at hC hp
  refine z_of (cc := cX5_takeEarn) (maxL := 4) (ret := (some .boolean)) (lo := [some (.ref x), some (.ref g), none, none]) (by decide) rfl rfl (Nat.le_of_ble_eq_true rfl) rfl ?_
  intro pp ee ss mi aa bl mh cd h0 hts hown hr hlk hnm
  have hown : ss.vm.findClass RX5 = some mi.cls := hown
  have inX2 : ∀ w ∈ u_ws RX2 TX2 5, w ∈ wsX5_takeEarn := by decide +kernel
  have inX3 : ∀ w ∈ u_ws RX3 TX3 7, w ∈ wsX5_takeEarn := by decide +kernel
  have inX4 : ∀ w ∈ u_ws RX4 TX4 5, w ∈ wsX5_takeEarn := by decide +kernel
  have lk_74 : zLk ss mi aa RX5 74 4 4 := ⟨RX3, TX3, 7, "PurseWorld$Purse", wsX5_takeEarn, rfl, by decide, hts, inX3, hown, hts (.fieldLink RX5 74 "PurseWorld$Purse" "serial" "I") (by decide +kernel), fun _ h => h⟩
  have lk_113 : zLk ss mi aa RX5 113 3 2 := ⟨RX2, TX2, 5, "PurseWorld$Message", wsX5_takeEarn, rfl, by decide, hts, inX2, hown, hts (.fieldLink RX5 113 "PurseWorld$Message" "terms" "LPurseWorld$Transfer;") (by decide +kernel), fun _ h => h⟩
  have lk_158 : zLk ss mi aa RX5 158 5 0 := ⟨RX4, TX4, 5, "PurseWorld$Transfer", wsX5_takeEarn, rfl, by decide, hts, inX4, hown, hts (.fieldLink RX5 158 "PurseWorld$Transfer" "payer" "I") (by decide +kernel), fun _ h => h⟩
  have lk_182 : zLk ss mi aa RX5 182 5 4 := ⟨RX4, TX4, 5, "PurseWorld$Transfer", wsX5_takeEarn, rfl, by decide, hts, inX4, hown, hts (.fieldLink RX5 182 "PurseWorld$Transfer" "amount" "I") (by decide +kernel), fun _ h => h⟩
  have lk_187 : zLk ss mi aa RX5 187 4 6 := ⟨RX3, TX3, 7, "PurseWorld$Purse", wsX5_takeEarn, rfl, by decide, hts, inX3, hown, hts (.fieldLink RX5 187 "PurseWorld$Purse" "current" "LPurseWorld$Transfer;") (by decide +kernel), fun _ h => h⟩
  have lk_199 : zLk ss mi aa RX5 199 3 1 := ⟨RX2, TX2, 5, "PurseWorld$Message", wsX5_takeEarn, rfl, by decide, hts, inX2, hown, hts (.fieldLink RX5 199 "PurseWorld$Message" "to" "I") (by decide +kernel), fun _ h => h⟩
  have lk_220 : zLk ss mi aa RX5 220 5 1 := ⟨RX4, TX4, 5, "PurseWorld$Transfer", wsX5_takeEarn, rfl, by decide, hts, inX4, hown, hts (.fieldLink RX5 220 "PurseWorld$Transfer" "payerSerial" "I") (by decide +kernel), fun _ h => h⟩
  have lk_237 : zLk ss mi aa RX5 237 4 0 := ⟨RX3, TX3, 7, "PurseWorld$Purse", wsX5_takeEarn, rfl, by decide, hts, inX3, hown, hts (.fieldLink RX5 237 "PurseWorld$Purse" "number" "I") (by decide +kernel), fun _ h => h⟩
  refine z_aload_n h0 dX5_takeEarn_0 rfl ?_
  refine z_aload_n h0 dX5_takeEarn_1 rfl ?_
  refine z_getI h0 fI3 lk_199 dX5_takeEarn_2 (by assumption) ?_
  refine z_top (mto.trans hto) ?_
  refine z_cVr (n := 1) (As := [_]) h0 hts hown (c_X5_purseAt_y hC hI hc hp ha0) gX5_takeEarn_X5_purseAt rfl (by decide +kernel) ⟨Nat.le_of_ble_eq_true rfl, Nat.le_of_ble_eq_true rfl⟩ kOk5 rfl (by assumption) dX5_takeEarn_5 rfl rfl (Nat.le_of_ble_eq_true rfl) ⟨Nat.le_of_ble_eq_true rfl, Nat.le_of_ble_eq_true rfl⟩ (fun r5 S5 hp5 => ?_)
  obtain ⟨rfl, hpa⟩ := hp5
  have hpr := hC.2.2.2.2.2.1 p _ hpa
  have k3 := hpr.1
  have pnum := hpr.2.1
  have pnot := hpr.2.2.1
  have pkept := hpr.2.2.2.1
  have pbal := hpr.2.2.2.2.1
  have pser := hpr.2.2.2.2.2.1
  have pst := hpr.2.2.2.2.2.2.1
  have pln := hpr.2.2.2.2.2.2.2.1
  obtain ⟨cu, pcu, cu4, cu0, cuT⟩ := hpr.2.2.2.2.2.2.2.2.1
  have plog := hpr.2.2.2.2.2.2.2.2.2
  have hAk := hC.2.2.2.1.1 (p + 3) (by omega)
  have h7k := hAk.1
  have hsk := hAk.2.1
  refine z_astore_n (lo' := [_, _, _, _]) h0 dX5_takeEarn_8 (by decide) rfl rfl ?_
  refine z_aload_n h0 dX5_takeEarn_9 rfl ?_
  refine z_getO h0 fO2 lk_113 dX5_takeEarn_10 (by assumption) (by assumption) ?_
  refine z_astore_n (lo' := [_, _, _, _]) h0 dX5_takeEarn_13 (by decide) rfl rfl ?_
  refine z_aload_n h0 dX5_takeEarn_14 rfl ?_
  refine z_G0 h0 (fun hG => ?_)
  refine z_cVv (n := 0) (As := []) h0 hts hown (c_X3_end k3 pnot pkept pcu hAk (by have := (RC_len hC hI hpa).1; have := (RC_len hC hI hpa).2.1; omega) cu4 (by rw [pst]; exact st_cases hI hp)) gX5_takeEarn_X3_end rfl (by decide +kernel) ⟨Nat.le_of_ble_eq_true rfl, Nat.le_of_ble_eq_true rfl⟩ kOk3 rfl (by assumption) dX5_takeEarn_15 rfl rfl (Nat.le_of_ble_eq_true rfl) ⟨Nat.le_of_ble_eq_true rfl, Nat.le_of_ble_eq_true rfl⟩ (fun S15 hp15 => ?_)
  obtain ⟨C1, hC1, hF1, hCC⟩ := RC_end hC hI hpa pcu hp15 hG
  have hI1 := MIb_end hI (by omega) hp
  have e0 : C1 0 = C 0 := hCC 0 (by omega)
  have hpa1 : (C1 0)[p]? = some r5 := by rw [e0]; exact hpa
  have hpr1 := hC1.2.2.2.2.2.1 p _ hpa1
  have k31 := hpr1.1
  have pnum1 := hpr1.2.1
  have pkept1 := hpr1.2.2.2.1
  have pbal1 := hpr1.2.2.2.2.1
  have pser1 := hpr1.2.2.2.2.2.1
  have pln1 := hpr1.2.2.2.2.2.2.2.1
  have hlen1 := RC_len hC1 hI1 hpa1
  have hAk1 := hC1.2.2.2.1.1 (p + 3) (by omega)
  have t41 := KF_K hF1 t4
  have mtr1 : tr S15 t = mT (mEnd M p) (72 + i) := by rw [mEnd_q hI hp, KF_tr hF1 t4]; exact mtr
  refine z_aload_n h0 dX5_takeEarn_18 rfl ?_
  refine z_cVi (n := 0) (As := []) h0 hts hown (c_X3_logIsFull k31 pkept1 hAk1) gX5_takeEarn_X3_logIsFull rfl (by decide +kernel) ⟨Nat.le_of_ble_eq_true rfl, Nat.le_of_ble_eq_true rfl⟩ kOk3 rfl (by assumption) dX5_takeEarn_19 rfl rfl (Nat.le_of_ble_eq_true rfl) ⟨Nat.le_of_ble_eq_true rfl, Nat.le_of_ble_eq_true rfl⟩ (fun r19 S19 hp19 => ?_)
  obtain ⟨rfl, hr19⟩ := hp19
  refine z_if_eq (tgt := 27) h0 dX5_takeEarn_22 (by decide) (fun h22 => ?_) (fun h22 => ?_)
  · refine z_aload_n h0 dX5_takeEarn_27 rfl ?_
    refine z_iconst (v := 2) h0 dX5_takeEarn_28 (by decide) ?_
    refine z_new h0 nOk4 hts (by decide +kernel) tyX4 tyX4_ok hown (hts (.classLink RX5 7 RX4) (by decide +kernel)) (hts (.instantiable RX4 5) (by decide +kernel)) (hts (.initialized RX4) (by decide +kernel)) rfl (fun j hj => by rcases (show j = 0 ∨ j = 1 ∨ j = 2 ∨ j = 3 ∨ j = 4 by omega) with rfl | rfl | rfl | rfl | rfl <;> rfl) (Nat.le_of_ble_eq_true rfl) (Nat.le_of_ble_eq_true rfl) dX5_takeEarn_29 (fun q29 hq29 => ?_)
    have k3n := isK_old (k := 4) (n := 0) k31 hq29
    have t4n := isK_old (k := 4) (n := 0) t41 hq29
    refine z_dup h0 dX5_takeEarn_32 rfl ?_
    refine z_aload_n h0 dX5_takeEarn_33 rfl ?_
    refine z_getI h0 fI10 lk_158 dX5_takeEarn_34 (by assumption) ?_
    refine z_top (y := part 0 (mT (mEnd M p) (72 + i))) ((upA_a _ _ _ (isK_ne t41 hq29)).trans (congrArg (part 0) mtr1)) ?_
    refine z_aload_n h0 dX5_takeEarn_37 rfl ?_
    refine z_getI h0 fI11 lk_220 dX5_takeEarn_38 (by assumption) ?_
    refine z_top (y := part 1 (mT (mEnd M p) (72 + i))) ((upA_a _ _ _ (isK_ne t41 hq29)).trans (congrArg (part 1) mtr1)) ?_
    refine z_aload_n h0 dX5_takeEarn_41 rfl ?_
    refine z_getI h0 fI6 lk_237 dX5_takeEarn_42 (by assumption) ?_
    refine z_top (y := nI p) ((upA_a _ _ _ (isK_ne k31 hq29)).trans pnum1) ?_
    refine z_aload_n h0 dX5_takeEarn_45 rfl ?_
    refine z_getI h0 fI8 lk_74 dX5_takeEarn_46 (by assumption) ?_
    refine z_top (y := mA (mEnd M p) 1 p) ((upA_a _ _ _ (isK_ne k31 hq29)).trans pser1) ?_
    refine z_aload_n h0 dX5_takeEarn_49 rfl ?_
    refine z_getI h0 fI14 lk_182 dX5_takeEarn_50 (by assumption) ?_
    refine z_top (y := part 4 (mT (mEnd M p) (72 + i))) ((upA_a _ _ _ (isK_ne t41 hq29)).trans (congrArg (part 4) mtr1)) ?_
    refine z_cIv (n := 5) (As := [_, _, _, _, _]) h0 hts hown (c_X4_init (isK_new (S := S15) (q := q29) (k := 4) (n := 0))) gX5_takeEarn_X4_init rfl (by decide +kernel) ⟨Nat.le_of_ble_eq_true rfl, Nat.le_of_ble_eq_true rfl⟩ (hts (.initialized RX4) (by decide +kernel)) (hts (.methodLink RX5 11 yX4_init) (by decide +kernel)) (hts (.instanceMethod yX4_init) (by decide +kernel)) rfl dX5_takeEarn_53 rfl rfl (Nat.le_of_ble_eq_true rfl) ⟨Nat.le_of_ble_eq_true rfl, Nat.le_of_ble_eq_true rfl⟩ (fun S53 hp53 => ?_)
    subst hp53
    refine z_cVv (n := 2) (As := [_, _]) h0 hts hown (c_X3_start (S := mkTr S15 q29 (part 0 (mT (mEnd M p) (72 + i)), part 1 (mT (mEnd M p) (72 + i)), nI p, mA (mEnd M p) 1 p, part 4 (mT (mEnd M p) (72 + i)))) k3n) gX5_takeEarn_X3_start rfl (by decide +kernel) ⟨Nat.le_of_ble_eq_true rfl, Nat.le_of_ble_eq_true rfl⟩ kOk3 rfl k3n dX5_takeEarn_56 rfl rfl (Nat.le_of_ble_eq_true rfl) ⟨Nat.le_of_ble_eq_true rfl, Nat.le_of_ble_eq_true rfl⟩ (fun S56 hp56 => ?_)
    subst hp56
    obtain ⟨hC2, hF2⟩ := RC_go (d := false) hC1 hI1 hpa1 hq29 (set3 (t := (mT (mEnd M p) (72 + i))) (x := nI p) (y := mA (mEnd M p) 1 p) (by rw [mEnd_q hI hp]; exact ht0))
    have hT1 := mEnd_q (i := i) hI hp
    have hq1 := mEnd_M (M := M) (p := p)
    have hI2 := (MIb_go (q := 72 + i) (d := false) hI1 (by omega) (by omega) mEnd_2 (fun w => len_n5 hr19 h22 (pln1.symm.trans w)) (by rw [hT1, hq1.2.1]; exact htk) (by rw [hT1]; exact ht0)).1
    have hno := mTakes_f (M := M) (p := p) (q := 72 + i) (fun w => len_n5 hr19 h22 (pln1.symm.trans w))
    have t42 := KF_K hF2 t41
    have mtr2 := KF_tr hF2 t41
    have k32 := KF_K hF2 k31
    have hx52 := hC2.1.1
    refine z_aload_n h0 dX5_takeEarn_59 rfl ?_
    refine z_iconst (v := 2) h0 dX5_takeEarn_60 (by decide) ?_
    refine z_aload_n h0 dX5_takeEarn_61 rfl ?_
    refine z_getI h0 fI10 lk_158 dX5_takeEarn_62 t42 ?_
    refine z_top (y := part 0 (mT (mGo (mEnd M p) p (72 + i) false) p)) ((congrArg (part 0) (mtr2.trans mtr1)).trans (by rw [mGo_Ts]; rfl)) ?_
    refine z_aload_n h0 dX5_takeEarn_65 rfl ?_
    refine z_getO h0 fO5 lk_187 dX5_takeEarn_66 k32 (up2_s _ _ _ _) ?_
    refine z_cVi (n := 3) (As := [_, _, _]) h0 hts hown (c_X5_send hC2 hI2 (show mM (mEnd M p) < 800 by omega) (k := 2) (t := q29) (r := p) (by exact ⟨List.mem_append_right _ (List.mem_singleton.mpr rfl), va_up_self _ _ _⟩) (by have := hC2.2.2.2.2.2.1 p _ hpa1; obtain ⟨cu9, z1, z2, z3, z4⟩ := this.2.2.2.2.2.2.2.2.1; cases Option.some.inj ((up2_s _ _ _ _).symm.trans z1); exact z4 (by rw [mGo_2]; decide)) (by decide) (by decide)) gX5_takeEarn_X5_send rfl (by decide +kernel) ⟨Nat.le_of_ble_eq_true rfl, Nat.le_of_ble_eq_true rfl⟩ kOk5 rfl hx52 dX5_takeEarn_69 rfl rfl (Nat.le_of_ble_eq_true rfl) ⟨Nat.le_of_ble_eq_true rfl, Nat.le_of_ble_eq_true rfl⟩ (fun r69 S69 hp69 => ?_)
    obtain ⟨⟨v9, hC3⟩, hF3, -⟩ := hp69
    refine z_pop h0 dX5_takeEarn_72 rfl ?_
    refine z_iconst (v := 1) h0 dX5_takeEarn_73 (by decide) ?_
    exact z_zret h0 hr rfl hlk dX5_takeEarn_74 (Nat.le_of_ble_eq_true rfl) (Nat.le_of_ble_eq_true rfl) ⟨⟨_, by rw [hno]; exact hC3⟩, KF_trans hF1 (KF_trans hF2 hF3), by rw [hno]; rfl⟩
  · refine z_iconst (v := 0) h0 dX5_takeEarn_25 (by decide) ?_
    exact z_zret h0 hr rfl hlk dX5_takeEarn_26 (Nat.le_of_ble_eq_true rfl) (Nat.le_of_ble_eq_true rfl) ⟨⟨C1, by rw [mTakes_no (Or.inl (pln1.trans (len_5 hr19 h22 (by omega))))]; exact hC1⟩, hF1, by rw [mTakes_no (Or.inl (pln1.trans (len_5 hr19 h22 (by omega))))]; rfl⟩

end CLS4
