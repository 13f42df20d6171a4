/-! THE REFERENCE: what is delivered. -/
section REFTAKE
theorem ite_t {C : Prop} [Decidable C] {r : Int32} (hr : r = if C then 1 else 0) (h : ¬ r = 0) : C := by by_cases g : C; exact g; rw [if_neg g] at hr; exact absurd hr h
theorem ite_f {C : Prop} [Decidable C] {r : Int32} (hr : r = if C then 1 else 0) (h : r = 0) : ¬ C := by intro g; rw [if_pos g] at hr; rw [hr] at h; exact absurd h (by decide)
theorem bI_tt {b : Bool} (h : ¬ bI b = 0) : b = true := bI_t rfl h
theorem bI_ff {b : Bool} (h : bI b = 0) : b = false := bI_f rfl h
theorem mEnd_M {M : MS} {p : Nat} : mM (mEnd M p) = mM M ∧ mP (mEnd M p) = mP M ∧ mE (mEnd M p) = mE M := by
  unfold mEnd mLog
  by_cases h : 2 ≤ mA M 2 p
  · rw [if_pos h]; exact ⟨rfl, rfl, rfl⟩
  · rw [if_neg h]; exact ⟨rfl, rfl, rfl⟩
/-- a begun transfer is taken up -/
def mGo (M : MS) (p q : Nat) (b : Bool) : MS := sA (sA (sT M p (setP (mT M q) (if b then 1 else 3) (mA M 1 p))) 1 p (mA M 1 p + 1)) 2 p (if b then 1 else 2)
def mTakes (M : MS) (p q : Nat) (b : Bool) : MS × Bool := if mA (mEnd M p) 3 p = 5 ∨ (b = true ∧ mA (mEnd M p) 0 p < part 4 (mT (mEnd M p) q)) then (mEnd M p, false)
  else (if b then mGo (mEnd M p) p q b else mSend (mGo (mEnd M p) p q b) 2 (part 0 (mT (mGo (mEnd M p) p q b) p)) p, true)
theorem mTakes_no {M : MS} {p q : Nat} {b : Bool} (h : mA (mEnd M p) 3 p = 5 ∨ (b = true ∧ mA (mEnd M p) 0 p < part 4 (mT (mEnd M p) q))) : mTakes M p q b = (mEnd M p, false) := if_pos h
theorem mTakes_t {M : MS} {p q : Nat} (h : ¬ (mA (mEnd M p) 3 p = 5 ∨ (true = true ∧ mA (mEnd M p) 0 p < part 4 (mT (mEnd M p) q)))) : mTakes M p q true = (mGo (mEnd M p) p q true, true) := if_neg h
theorem mTakes_f {M : MS} {p q : Nat} (h : ¬ mA (mEnd M p) 3 p = 5) : mTakes M p q false = (mSend (mGo (mEnd M p) p q false) 2 (part 0 (mT (mGo (mEnd M p) p q false) p)) p, true) := if_neg (fun z => z.elim h (fun w => nomatch w.1))
theorem mGo_eq {M : MS} {p q k : Nat} {x y : Int32} : sA (sA (sT (sT M p (mT M q)) p (setP (mT (sT M p (mT M q)) p) k x)) 1 p y) 2 p = sA (sA (sT M p (setP (mT M q) k x)) 1 p y) 2 p := by
  rw [sT_2, mT_s]

abbrev rm_X6_takesBegin : Room := { frames := 2, cells := 0, slots := 0, locals := 46 }
set_option maxRecDepth 100000 in
set_option maxHeartbeats 4000000 in
theorem c_X6_takesBegin_f {l : Launch} {D : va_G} {cI cZ cO : ClassId} {G : Nat → Nat} {S : PS} {m : Nat} {A : Nat → Nat} {M : MS} (hR : RF S S m A M) {p q n0 : Nat} (hp : p < 12) (hn : mA M 3 p = nI n0) (hn5 : n0 ≤ 5) (hq : q < 1672) (hm8 : mM M < 800) : zMi l yX6_takesBegin wsX6_takesBegin rm_X6_takesBegin [.ref m, .int (nI p), .int (nI q), .int 0] D cI cZ cO G S (fun r S' => RF S S' m A (mTakes M p q false).1 ∧ r = bI (mTakes M p q false).2) := by
  refine z_of (cc := cX6_takesBegin) (maxL := 4) (ret := (some .boolean)) (lo := [some (.ref m), some (.int (nI p)), some (.int (nI q)), some (.int 0)]) (by decide) rfl rfl (Nat.le_of_ble_eq_true rfl) rfl ?_
  intro pp ee ss mi aa bl mh cd h0 hts hown hr hlk hnm
  have hown : ss.vm.findClass RX6 = some mi.cls := hown
  have inX6 : ∀ w ∈ u_ws RX6 TX6 14, w ∈ wsX6_takesBegin := by decide +kernel
  have lk_13 : zLk ss mi aa RX6 13 7 3 := ⟨RX6, TX6, 14, "PurseWorldModel", wsX6_takesBegin, rfl, by decide, hts, inX6, hown, hts (.fieldLink RX6 13 "PurseWorldModel" "serials" "[I") (by decide +kernel), fun _ h => h⟩
  have lk_16 : zLk ss mi aa RX6 16 7 4 := ⟨RX6, TX6, 14, "PurseWorldModel", wsX6_takesBegin, rfl, by decide, hts, inX6, hown, hts (.fieldLink RX6 16 "PurseWorldModel" "states" "[I") (by decide +kernel), fun _ h => h⟩
  have lk_19 : zLk ss mi aa RX6 19 7 5 := ⟨RX6, TX6, 14, "PurseWorldModel", wsX6_takesBegin, rfl, by decide, hts, inX6, hown, hts (.fieldLink RX6 19 "PurseWorldModel" "logSize" "[I") (by decide +kernel), fun _ h => h⟩
  have lk_38 : zLk ss mi aa RX6 38 7 13 := ⟨RX6, TX6, 14, "PurseWorldModel", wsX6_takesBegin, rfl, by decide, hts, inX6, hown, hts (.fieldLink RX6 38 "PurseWorldModel" "transfers" "[I") (by decide +kernel), fun _ h => h⟩
  refine z_aload_n h0 dX6_takesBegin_0 rfl ?_
  refine z_iload_n h0 dX6_takesBegin_1 rfl ?_
  refine z_cVv (n := 1) (As := [_]) h0 hts hown (c_X6_endIt hR hp hn hn5) gX6_takesBegin_X6_endIt rfl (by decide +kernel) ⟨Nat.le_of_ble_eq_true rfl, Nat.le_of_ble_eq_true rfl⟩ kOk6 rfl (RF_m hR) dX6_takesBegin_2 rfl rfl (Nat.le_of_ble_eq_true rfl) ⟨Nat.le_of_ble_eq_true rfl, Nat.le_of_ble_eq_true rfl⟩ (fun S2 hp2 => ?_)
  have hR := RF_trans hR hp2
  refine z_aload_n h0 dX6_takesBegin_5 rfl ?_
  refine z_getA h0 hR 3 (by decide) fO13 rfl lk_19 dX6_takesBegin_6 ?_
  refine z_iload_n h0 dX6_takesBegin_9 rfl ?_
  refine z_ialdR h0 hR 3 (by decide) rfl dX6_takesBegin_10 (nI_toInt (by first | omega | (dsimp only [sA, sT, mP, mM, mE] at *; omega))) (by simp only [rLen]; first | omega | (dsimp only [sA, sT, mP, mM, mE] at *; omega)) ?_
  refine z_iconst (v := 5) h0 dX6_takesBegin_11 (by decide) ?_
  refine z_icmp_eq (tgt := 34) h0 dX6_takesBegin_12 (by decide) (fun h12 => ?_) (fun h12 => ?_)
  · refine z_iconst (v := 0) h0 dX6_takesBegin_34 (by decide) ?_
    exact z_zret h0 hr rfl hlk dX6_takesBegin_35 (Nat.le_of_ble_eq_true rfl) (Nat.le_of_ble_eq_true rfl) (by rw [mTakes_no (Or.inl h12)]; exact ⟨hR, rfl⟩)
  · refine z_iload_n h0 dX6_takesBegin_15 rfl ?_
    refine z_if_eq (tgt := 36) h0 dX6_takesBegin_16 (by decide) (fun h16 => ?_) (fun h16 => absurd rfl h16)
    refine z_aload_n h0 dX6_takesBegin_36 rfl ?_
    refine z_iload_n h0 dX6_takesBegin_37 rfl ?_
    refine z_iload_n h0 dX6_takesBegin_38 rfl ?_
    refine z_cVv (n := 2) (As := [_, _]) h0 hts hown (c_X6_copy (RF_refl hR) hq (q := p) (by omega)) gX6_takesBegin_X6_copy rfl (by decide +kernel) ⟨Nat.le_of_ble_eq_true rfl, Nat.le_of_ble_eq_true rfl⟩ kOk6 rfl (RF_m hR) dX6_takesBegin_39 rfl rfl (Nat.le_of_ble_eq_true rfl) ⟨Nat.le_of_ble_eq_true rfl, Nat.le_of_ble_eq_true rfl⟩ (fun S39 hp39 => ?_)
    have hR := RF_trans hR hp39
    refine z_aload_n h0 dX6_takesBegin_42 rfl ?_
    refine z_getA h0 hR 9 (by decide) fO19 rfl lk_38 dX6_takesBegin_43 ?_
    refine z_iconst (v := 5) h0 dX6_takesBegin_46 (by decide) ?_
    refine z_iload_n h0 dX6_takesBegin_47 rfl ?_
    refine z_imul h0 dX6_takesBegin_48 ?_
    refine z_iload_n h0 dX6_takesBegin_49 rfl ?_
    refine z_if_eq (tgt := 57) h0 dX6_takesBegin_50 (by decide) (fun h50 => ?_) (fun h50 => absurd rfl h50)
    refine z_iconst (v := 3) h0 dX6_takesBegin_57 (by decide) ?_
    refine z_iadd h0 dX6_takesBegin_58 ?_
    refine z_top (y := nI (5 * p + 3)) (by rw [zc5, zc3, pk_mul, nI_add]) ?_
    refine z_aload_n h0 dX6_takesBegin_59 rfl ?_
    refine z_getA h0 hR 1 (by decide) fO11 rfl lk_13 dX6_takesBegin_60 ?_
    refine z_iload_n h0 dX6_takesBegin_63 rfl ?_
    refine z_ialdR h0 hR 1 (by decide) rfl dX6_takesBegin_64 (nI_toInt (by first | omega | (dsimp only [sA, sT, mP, mM, mE] at *; omega))) (by simp only [rLen]; first | omega | (dsimp only [sA, sT, mP, mM, mE] at *; omega)) ?_
    refine z_tastR h0 hR dX6_takesBegin_65 (nI_toInt (by omega)) (by decide) (by omega) (fun hR => ?_)
    refine z_aload_n h0 dX6_takesBegin_66 rfl ?_
    refine z_getA h0 hR 1 (by decide) fO11 rfl lk_13 dX6_takesBegin_67 ?_
    refine z_iload_n h0 dX6_takesBegin_70 rfl ?_
    refine z_dup2 h0 dX6_takesBegin_71 rfl rfl ?_
    refine z_ialdR h0 hR 1 (by decide) rfl dX6_takesBegin_72 (nI_toInt (by first | omega | (dsimp only [sA, sT, mP, mM, mE] at *; omega))) (by simp only [rLen]; first | omega | (dsimp only [sA, sT, mP, mM, mE] at *; omega)) ?_
    refine z_iconst (v := 1) h0 dX6_takesBegin_73 (by decide) ?_
    refine z_iadd h0 dX6_takesBegin_74 ?_
    refine z_iastR h0 hR 1 (by decide) rfl dX6_takesBegin_75 (nI_toInt (by first | omega | (dsimp only [sA, sT, mP, mM, mE] at *; omega))) (by simp only [rLen]; first | omega | (dsimp only [sA, sT, mP, mM, mE] at *; omega)) (fun hR => ?_)
    refine z_aload_n h0 dX6_takesBegin_76 rfl ?_
    refine z_getA h0 hR 2 (by decide) fO12 rfl lk_16 dX6_takesBegin_77 ?_
    refine z_iload_n h0 dX6_takesBegin_80 rfl ?_
    refine z_iload_n h0 dX6_takesBegin_81 rfl ?_
    refine z_if_eq (tgt := 89) h0 dX6_takesBegin_82 (by decide) (fun h82 => ?_) (fun h82 => absurd rfl h82)
    refine z_iconst (v := 2) h0 dX6_takesBegin_89 (by decide) ?_
    refine z_iastR h0 hR 2 (by decide) rfl dX6_takesBegin_90 (nI_toInt (by first | omega | (dsimp only [sA, sT, mP, mM, mE] at *; omega))) (by simp only [rLen]; first | omega | (dsimp only [sA, sT, mP, mM, mE] at *; omega)) (fun hR => ?_)
    rw [sT_2, mT_s] at hR
    refine z_iload_n h0 dX6_takesBegin_91 rfl ?_
    refine z_if_ne (tgt := 107) h0 dX6_takesBegin_92 (by decide) (fun h92 => absurd h92 (by decide)) (fun h92 => ?_)
    refine z_aload_n h0 dX6_takesBegin_95 rfl ?_
    refine z_iconst (v := 2) h0 dX6_takesBegin_96 (by decide) ?_
    refine z_aload_n h0 dX6_takesBegin_97 rfl ?_
    refine z_iload_n h0 dX6_takesBegin_98 rfl ?_
    refine z_iconst (v := 0) h0 dX6_takesBegin_99 (by decide) ?_
    refine z_cVi (n := 2) (As := [_, _]) h0 hts hown (c_X6_part (RF_refl hR) (p := p) (k := 0) (by omega) (by decide)) gX6_takesBegin_X6_part rfl (by decide +kernel) ⟨Nat.le_of_ble_eq_true rfl, Nat.le_of_ble_eq_true rfl⟩ kOk6 rfl (RF_m hR) dX6_takesBegin_100 rfl rfl (Nat.le_of_ble_eq_true rfl) ⟨Nat.le_of_ble_eq_true rfl, Nat.le_of_ble_eq_true rfl⟩ (fun r100 S100 hp100 => ?_)
    obtain ⟨rfl, hr100⟩ := hp100
    subst hr100
    refine z_iload_n h0 dX6_takesBegin_103 rfl ?_
    refine z_cVv (n := 3) (As := [_, _, _]) h0 hts hown (c_X6_send (RF_refl hR) (by first | exact hm8 | (have := (mEnd_M (M := M) (p := p)).1; dsimp only [sA, sT, mM] at *; omega)) (q := p) (by omega)) gX6_takesBegin_X6_send rfl (by decide +kernel) ⟨Nat.le_of_ble_eq_true rfl, Nat.le_of_ble_eq_true rfl⟩ kOk6 rfl (RF_m hR) dX6_takesBegin_104 rfl rfl (Nat.le_of_ble_eq_true rfl) ⟨Nat.le_of_ble_eq_true rfl, Nat.le_of_ble_eq_true rfl⟩ (fun S104 hp104 => ?_)
    have hR := RF_trans hR hp104
    refine z_iconst (v := 1) h0 dX6_takesBegin_107 (by decide) ?_
    exact z_zret h0 hr rfl hlk dX6_takesBegin_108 (Nat.le_of_ble_eq_true rfl) (Nat.le_of_ble_eq_true rfl) (by rw [mTakes_f h12]; exact ⟨hR, rfl⟩)

set_option maxRecDepth 100000 in
set_option maxHeartbeats 4000000 in
theorem c_X6_takesBegin_t {l : Launch} {D : va_G} {cI cZ cO : ClassId} {G : Nat → Nat} {S : PS} {m : Nat} {A : Nat → Nat} {M : MS} (hR : RF S S m A M) {p q n0 : Nat} (hp : p < 12) (hn : mA M 3 p = nI n0) (hn5 : n0 ≤ 5) (hq : q < 1672) : zMi l yX6_takesBegin wsX6_takesBegin rm_X6_takesBegin [.ref m, .int (nI p), .int (nI q), .int 1] D cI cZ cO G S (fun r S' => RF S S' m A (mTakes M p q true).1 ∧ r = bI (mTakes M p q true).2) := by
  refine z_of (cc := cX6_takesBegin) (maxL := 4) (ret := (some .boolean)) (lo := [some (.ref m), some (.int (nI p)), some (.int (nI q)), some (.int 1)]) (by decide) rfl rfl (Nat.le_of_ble_eq_true rfl) rfl ?_
  intro pp ee ss mi aa bl mh cd h0 hts hown hr hlk hnm
  have hown : ss.vm.findClass RX6 = some mi.cls := hown
  have inX6 : ∀ w ∈ u_ws RX6 TX6 14, w ∈ wsX6_takesBegin := by decide +kernel
  have lk_7 : zLk ss mi aa RX6 7 7 2 := ⟨RX6, TX6, 14, "PurseWorldModel", wsX6_takesBegin, rfl, by decide, hts, inX6, hown, hts (.fieldLink RX6 7 "PurseWorldModel" "balances" "[I") (by decide +kernel), fun _ h => h⟩
  have lk_13 : zLk ss mi aa RX6 13 7 3 := ⟨RX6, TX6, 14, "PurseWorldModel", wsX6_takesBegin, rfl, by decide, hts, inX6, hown, hts (.fieldLink RX6 13 "PurseWorldModel" "serials" "[I") (by decide +kernel), fun _ h => h⟩
  have lk_16 : zLk ss mi aa RX6 16 7 4 := ⟨RX6, TX6, 14, "PurseWorldModel", wsX6_takesBegin, rfl, by decide, hts, inX6, hown, hts (.fieldLink RX6 16 "PurseWorldModel" "states" "[I") (by decide +kernel), fun _ h => h⟩
  have lk_19 : zLk ss mi aa RX6 19 7 5 := ⟨RX6, TX6, 14, "PurseWorldModel", wsX6_takesBegin, rfl, by decide, hts, inX6, hown, hts (.fieldLink RX6 19 "PurseWorldModel" "logSize" "[I") (by decide +kernel), fun _ h => h⟩
  have lk_38 : zLk ss mi aa RX6 38 7 13 := ⟨RX6, TX6, 14, "PurseWorldModel", wsX6_takesBegin, rfl, by decide, hts, inX6, hown, hts (.fieldLink RX6 38 "PurseWorldModel" "transfers" "[I") (by decide +kernel), fun _ h => h⟩
  refine z_aload_n h0 dX6_takesBegin_0 rfl ?_
  refine z_iload_n h0 dX6_takesBegin_1 rfl ?_
  refine z_cVv (n := 1) (As := [_]) h0 hts hown (c_X6_endIt hR hp hn hn5) gX6_takesBegin_X6_endIt rfl (by decide +kernel) ⟨Nat.le_of_ble_eq_true rfl, Nat.le_of_ble_eq_true rfl⟩ kOk6 rfl (RF_m hR) dX6_takesBegin_2 rfl rfl (Nat.le_of_ble_eq_true rfl) ⟨Nat.le_of_ble_eq_true rfl, Nat.le_of_ble_eq_true rfl⟩ (fun S2 hp2 => ?_)
  have hR := RF_trans hR hp2
  refine z_aload_n h0 dX6_takesBegin_5 rfl ?_
  refine z_getA h0 hR 3 (by decide) fO13 rfl lk_19 dX6_takesBegin_6 ?_
  refine z_iload_n h0 dX6_takesBegin_9 rfl ?_
  refine z_ialdR h0 hR 3 (by decide) rfl dX6_takesBegin_10 (nI_toInt (by first | omega | (dsimp only [sA, sT, mP, mM, mE] at *; omega))) (by simp only [rLen]; first | omega | (dsimp only [sA, sT, mP, mM, mE] at *; omega)) ?_
  refine z_iconst (v := 5) h0 dX6_takesBegin_11 (by decide) ?_
  refine z_icmp_eq (tgt := 34) h0 dX6_takesBegin_12 (by decide) (fun h12 => ?_) (fun h12 => ?_)
  · refine z_iconst (v := 0) h0 dX6_takesBegin_34 (by decide) ?_
    exact z_zret h0 hr rfl hlk dX6_takesBegin_35 (Nat.le_of_ble_eq_true rfl) (Nat.le_of_ble_eq_true rfl) (by rw [mTakes_no (Or.inl h12)]; exact ⟨hR, rfl⟩)
  · refine z_iload_n h0 dX6_takesBegin_15 rfl ?_
    refine z_if_eq (tgt := 36) h0 dX6_takesBegin_16 (by decide) (fun h16 => absurd h16 (by decide)) (fun h16 => ?_)
    refine z_aload_n h0 dX6_takesBegin_19 rfl ?_
    refine z_getA h0 hR 0 (by decide) fO10 rfl lk_7 dX6_takesBegin_20 ?_
    refine z_iload_n h0 dX6_takesBegin_23 rfl ?_
    refine z_ialdR h0 hR 0 (by decide) rfl dX6_takesBegin_24 (nI_toInt (by first | omega | (dsimp only [sA, sT, mP, mM, mE] at *; omega))) (by simp only [rLen]; first | omega | (dsimp only [sA, sT, mP, mM, mE] at *; omega)) ?_
    refine z_aload_n h0 dX6_takesBegin_25 rfl ?_
    refine z_iload_n h0 dX6_takesBegin_26 rfl ?_
    refine z_iconst (v := 4) h0 dX6_takesBegin_27 (by decide) ?_
    refine z_cVi (n := 2) (As := [_, _]) h0 hts hown (c_X6_part (RF_refl hR) (p := q) (k := 4) hq (by decide)) gX6_takesBegin_X6_part rfl (by decide +kernel) ⟨Nat.le_of_ble_eq_true rfl, Nat.le_of_ble_eq_true rfl⟩ kOk6 rfl (RF_m hR) dX6_takesBegin_28 rfl rfl (Nat.le_of_ble_eq_true rfl) ⟨Nat.le_of_ble_eq_true rfl, Nat.le_of_ble_eq_true rfl⟩ (fun r28 S28 hp28 => ?_)
    obtain ⟨rfl, hr28⟩ := hp28
    subst hr28
    refine z_icmp_ge (tgt := 36) h0 dX6_takesBegin_31 (by decide) (fun h31 => ?_) (fun h31 => ?_)
    · refine z_aload_n h0 dX6_takesBegin_36 rfl ?_
      refine z_iload_n h0 dX6_takesBegin_37 rfl ?_
      refine z_iload_n h0 dX6_takesBegin_38 rfl ?_
      refine z_cVv (n := 2) (As := [_, _]) h0 hts hown (c_X6_copy (RF_refl hR) hq (q := p) (by omega)) gX6_takesBegin_X6_copy rfl (by decide +kernel) ⟨Nat.le_of_ble_eq_true rfl, Nat.le_of_ble_eq_true rfl⟩ kOk6 rfl (RF_m hR) dX6_takesBegin_39 rfl rfl (Nat.le_of_ble_eq_true rfl) ⟨Nat.le_of_ble_eq_true rfl, Nat.le_of_ble_eq_true rfl⟩ (fun S39 hp39 => ?_)
      have hR := RF_trans hR hp39
      refine z_aload_n h0 dX6_takesBegin_42 rfl ?_
      refine z_getA h0 hR 9 (by decide) fO19 rfl lk_38 dX6_takesBegin_43 ?_
      refine z_iconst (v := 5) h0 dX6_takesBegin_46 (by decide) ?_
      refine z_iload_n h0 dX6_takesBegin_47 rfl ?_
      refine z_imul h0 dX6_takesBegin_48 ?_
      refine z_iload_n h0 dX6_takesBegin_49 rfl ?_
      refine z_if_eq (tgt := 57) h0 dX6_takesBegin_50 (by decide) (fun h50 => absurd h50 (by decide)) (fun h50 => ?_)
      refine z_iconst (v := 1) h0 dX6_takesBegin_53 (by decide) ?_
      refine z_goto (tgt := 58) h0 dX6_takesBegin_54 (by decide) ?_
      refine z_iadd h0 dX6_takesBegin_58 ?_
      refine z_top (y := nI (5 * p + 1)) (by rw [zc5, zc1, pk_mul, nI_add]) ?_
      refine z_aload_n h0 dX6_takesBegin_59 rfl ?_
      refine z_getA h0 hR 1 (by decide) fO11 rfl lk_13 dX6_takesBegin_60 ?_
      refine z_iload_n h0 dX6_takesBegin_63 rfl ?_
      refine z_ialdR h0 hR 1 (by decide) rfl dX6_takesBegin_64 (nI_toInt (by first | omega | (dsimp only [sA, sT, mP, mM, mE] at *; omega))) (by simp only [rLen]; first | omega | (dsimp only [sA, sT, mP, mM, mE] at *; omega)) ?_
      refine z_tastR h0 hR dX6_takesBegin_65 (nI_toInt (by omega)) (by decide) (by omega) (fun hR => ?_)
      refine z_aload_n h0 dX6_takesBegin_66 rfl ?_
      refine z_getA h0 hR 1 (by decide) fO11 rfl lk_13 dX6_takesBegin_67 ?_
      refine z_iload_n h0 dX6_takesBegin_70 rfl ?_
      refine z_dup2 h0 dX6_takesBegin_71 rfl rfl ?_
      refine z_ialdR h0 hR 1 (by decide) rfl dX6_takesBegin_72 (nI_toInt (by first | omega | (dsimp only [sA, sT, mP, mM, mE] at *; omega))) (by simp only [rLen]; first | omega | (dsimp only [sA, sT, mP, mM, mE] at *; omega)) ?_
      refine z_iconst (v := 1) h0 dX6_takesBegin_73 (by decide) ?_
      refine z_iadd h0 dX6_takesBegin_74 ?_
      refine z_iastR h0 hR 1 (by decide) rfl dX6_takesBegin_75 (nI_toInt (by first | omega | (dsimp only [sA, sT, mP, mM, mE] at *; omega))) (by simp only [rLen]; first | omega | (dsimp only [sA, sT, mP, mM, mE] at *; omega)) (fun hR => ?_)
      refine z_aload_n h0 dX6_takesBegin_76 rfl ?_
      refine z_getA h0 hR 2 (by decide) fO12 rfl lk_16 dX6_takesBegin_77 ?_
      refine z_iload_n h0 dX6_takesBegin_80 rfl ?_
      refine z_iload_n h0 dX6_takesBegin_81 rfl ?_
      refine z_if_eq (tgt := 89) h0 dX6_takesBegin_82 (by decide) (fun h82 => absurd h82 (by decide)) (fun h82 => ?_)
      refine z_iconst (v := 1) h0 dX6_takesBegin_85 (by decide) ?_
      refine z_goto (tgt := 90) h0 dX6_takesBegin_86 (by decide) ?_
      refine z_iastR h0 hR 2 (by decide) rfl dX6_takesBegin_90 (nI_toInt (by first | omega | (dsimp only [sA, sT, mP, mM, mE] at *; omega))) (by simp only [rLen]; first | omega | (dsimp only [sA, sT, mP, mM, mE] at *; omega)) (fun hR => ?_)
      refine z_iload_n h0 dX6_takesBegin_91 rfl ?_
      refine z_if_ne (tgt := 107) h0 dX6_takesBegin_92 (by decide) (fun h92 => ?_) (fun h92 => absurd h92 (by decide))
      refine z_iconst (v := 1) h0 dX6_takesBegin_107 (by decide) ?_
      exact z_zret h0 hr rfl hlk dX6_takesBegin_108 (Nat.le_of_ble_eq_true rfl) (Nat.le_of_ble_eq_true rfl) (by rw [mTakes_t (fun z => z.elim h12 (fun w => k2_nlt h31 w.2))]; refine ⟨?_, rfl⟩; rw [sT_2, mT_s] at hR; exact hR)
    · refine z_iconst (v := 0) h0 dX6_takesBegin_34 (by decide) ?_
      exact z_zret h0 hr rfl hlk dX6_takesBegin_35 (Nat.le_of_ble_eq_true rfl) (Nat.le_of_ble_eq_true rfl) (by rw [mTakes_no (Or.inr ⟨rfl, k2_lt h31⟩)]; exact ⟨hR, rfl⟩)

end REFTAKE
