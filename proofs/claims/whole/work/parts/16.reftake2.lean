/-! THE REFERENCE: what else is delivered. -/
section REFOTHER
def wts (M : MS) (p : Nat) (x : Int32) (q : Nat) : Bool := decide (mA M 2 p = x ∧ mT M p = mT M q)
def mAsk (M : MS) (p q : Nat) : MS := mSend (sA (sA M 0 p (mA M 0 p - part 4 (mT M q))) 2 p 3) 3 (part 2 (mT M q)) q
def mVal (M : MS) (p q : Nat) : MS := mSend (sA (sA M 0 p (mA M 0 p + part 4 (mT M q))) 2 p 0) 4 (part 0 (mT M q)) q
def mThk (M : MS) (p : Nat) : MS := sA (sA M 0 p (mA M 0 p + 0)) 2 p 0
/-- the archive's first k entries have what is at q, told by x -/
def kpt (M : MS) (x : Int32) (q k : Nat) : Bool := (List.range k).any (fun j => decide (mA M 7 j = x ∧ mT M (872 + j) = mT M q))
def mRec (M : MS) (i : Nat) : MS := (mP M, mM M, mE M + 1, up2 (up2 (mA M) 7 (mE M) (mA M 6 i)) 8 (mE M) 0, va_up (mT M) (872 + mE M) (mT M (72 + i)))
def clr (M : MS) (p k n0 : Nat) : Bool := decide (mA M 2 p = 0 ∧ 0 < n0) && (List.range n0).all (fun j => kpt M (nI p) (12 + 5 * p + j) k)
theorem sA_same {M : MS} {k j : Nat} : sA M k j (mA M k j) = M := by
  have : up2 (mA M) k j (mA M k j) = mA M := by
    funext a b
    by_cases h : a = k
    · subst h
      by_cases g : b = j
      · subst g; rw [up2_s]
      · rw [up2_a _ _ _ _ g]
    · rw [up2_f _ _ _ _ h]
  show (mP M, mM M, mE M, up2 (mA M) k j (mA M k j), mT M) = M
  rw [this]

abbrev rm_X6_takesOther : Room := { frames := 2, cells := 0, slots := 0, locals := 47 }
set_option maxRecDepth 100000 in
set_option maxHeartbeats 4000000 in
theorem c_X6_takesOther_2 {l : Launch} {D : va_G} {cI cZ cO : ClassId} {G : Nat → Nat} {S : PS} {m : Nat} {A : Nat → Nat} {M : MS} (hR : RF S S m A M) {p q : Nat} (hp : p < 12) (hq : q < 1672) (hm8 : mM M < 800) : zMi l yX6_takesOther wsX6_takesOther rm_X6_takesOther [.ref m, .int (nI p), .int 2, .int (nI q)] D cI cZ cO G S (fun r S' => RF S S' m A (if wts M p 1 q then mAsk M p q else M) ∧ r = bI (wts M p 1 q)) := by
  refine z_of (cc := cX6_takesOther) (maxL := 5) (ret := (some .boolean)) (lo := [some (.ref m), some (.int (nI p)), some (.int 2), some (.int (nI q)), none]) (by decide) rfl rfl (Nat.le_of_ble_eq_true rfl) rfl ?_
  intro pp ee ss mi aa bl mh cd h0 hts hown hr hlk hnm
  have hown : ss.vm.findClass RX6 = some mi.cls := hown
  have inX6 : ∀ w ∈ u_ws RX6 TX6 14, w ∈ wsX6_takesOther := by decide +kernel
  have lk_7 : zLk ss mi aa RX6 7 7 2 := ⟨RX6, TX6, 14, "PurseWorldModel", wsX6_takesOther, rfl, by decide, hts, inX6, hown, hts (.fieldLink RX6 7 "PurseWorldModel" "balances" "[I") (by decide +kernel), fun _ h => h⟩
  have lk_16 : zLk ss mi aa RX6 16 7 4 := ⟨RX6, TX6, 14, "PurseWorldModel", wsX6_takesOther, rfl, by decide, hts, inX6, hown, hts (.fieldLink RX6 16 "PurseWorldModel" "states" "[I") (by decide +kernel), fun _ h => h⟩
  refine z_aload_n h0 dX6_takesOther_0 rfl ?_
  refine z_iload_n h0 dX6_takesOther_1 rfl ?_
  refine z_iload_n h0 dX6_takesOther_2 rfl ?_
  refine z_iconst (v := 2) h0 dX6_takesOther_3 (by decide) ?_
  refine z_icmp_ne (tgt := 11) h0 dX6_takesOther_4 (by decide) (fun h4 => absurd rfl h4) (fun h4 => ?_)
  refine z_iconst (v := 1) h0 dX6_takesOther_7 (by decide) ?_
  refine z_goto (tgt := 21) h0 dX6_takesOther_8 (by decide) ?_
  refine z_iload_n h0 dX6_takesOther_21 rfl ?_
  refine z_cVi (n := 3) (As := [_, _, _]) h0 hts hown (c_X6_waits hR hp hq) gX6_takesOther_X6_waits rfl (by decide +kernel) ⟨Nat.le_of_ble_eq_true rfl, Nat.le_of_ble_eq_true rfl⟩ kOk6 rfl (RF_m hR) dX6_takesOther_22 rfl rfl (Nat.le_of_ble_eq_true rfl) ⟨Nat.le_of_ble_eq_true rfl, Nat.le_of_ble_eq_true rfl⟩ (fun r22 S22 hp22 => ?_)
  obtain ⟨rfl, hr22⟩ := hp22
  refine z_istore (lo' := [_, _, _, _, _]) h0 dX6_takesOther_25 (by decide) rfl rfl ?_
  refine z_iload h0 dX6_takesOther_27 rfl ?_
  refine z_if_eq (tgt := 74) h0 dX6_takesOther_29 (by decide) (fun h29 => ?_) (fun h29 => ?_)
  · refine z_iload h0 dX6_takesOther_74 rfl ?_
    refine z_if_eq (tgt := 127) h0 dX6_takesOther_76 (by decide) (fun h76 => ?_) (fun h76 => absurd h29 h76)
    refine z_iload h0 dX6_takesOther_127 rfl ?_
    exact z_zret h0 hr (by rw [hr22]; exact bI_nar _) hlk dX6_takesOther_129 (Nat.le_of_ble_eq_true rfl) (Nat.le_of_ble_eq_true rfl) (by have hb := bI_f hr22 h29; unfold wts; rw [hb]; exact ⟨hR, hr22.trans (congrArg bI hb)⟩)
  · refine z_iload_n h0 dX6_takesOther_32 rfl ?_
    refine z_iconst (v := 2) h0 dX6_takesOther_33 (by decide) ?_
    refine z_icmp_ne (tgt := 74) h0 dX6_takesOther_34 (by decide) (fun h34 => absurd rfl h34) (fun h34 => ?_)
    refine z_aload_n h0 dX6_takesOther_37 rfl ?_
    refine z_getA h0 hR 0 (by decide) fO10 rfl lk_7 dX6_takesOther_38 ?_
    refine z_iload_n h0 dX6_takesOther_41 rfl ?_
    refine z_dup2 h0 dX6_takesOther_42 rfl rfl ?_
    refine z_ialdR h0 hR 0 (by decide) rfl dX6_takesOther_43 (nI_toInt (by first | omega | (dsimp only [sA, sT, mP, mM, mE] at *; omega))) (by simp only [rLen]; first | omega | (dsimp only [sA, sT, mP, mM, mE] at *; omega)) ?_
    refine z_aload_n h0 dX6_takesOther_44 rfl ?_
    refine z_iload_n h0 dX6_takesOther_45 rfl ?_
    refine z_iconst (v := 4) h0 dX6_takesOther_46 (by decide) ?_
    refine z_cVi (n := 2) (As := [_, _]) h0 hts hown (c_X6_part (RF_refl hR) (p := q) (k := 4) hq (by decide)) gX6_takesOther_X6_part rfl (by decide +kernel) ⟨Nat.le_of_ble_eq_true rfl, Nat.le_of_ble_eq_true rfl⟩ kOk6 rfl (RF_m hR) dX6_takesOther_47 rfl rfl (Nat.le_of_ble_eq_true rfl) ⟨Nat.le_of_ble_eq_true rfl, Nat.le_of_ble_eq_true rfl⟩ (fun r47 S47 hp47 => ?_)
    obtain ⟨rfl, hr47⟩ := hp47
    subst hr47
    refine z_isub h0 dX6_takesOther_50 ?_
    refine z_iastR h0 hR 0 (by decide) rfl dX6_takesOther_51 (nI_toInt (by first | omega | (dsimp only [sA, sT, mP, mM, mE] at *; omega))) (by simp only [rLen]; first | omega | (dsimp only [sA, sT, mP, mM, mE] at *; omega)) (fun hR => ?_)
    refine z_aload_n h0 dX6_takesOther_52 rfl ?_
    refine z_getA h0 hR 2 (by decide) fO12 rfl lk_16 dX6_takesOther_53 ?_
    refine z_iload_n h0 dX6_takesOther_56 rfl ?_
    refine z_iconst (v := 3) h0 dX6_takesOther_57 (by decide) ?_
    refine z_iastR h0 hR 2 (by decide) rfl dX6_takesOther_58 (nI_toInt (by first | omega | (dsimp only [sA, sT, mP, mM, mE] at *; omega))) (by simp only [rLen]; first | omega | (dsimp only [sA, sT, mP, mM, mE] at *; omega)) (fun hR => ?_)
    refine z_aload_n h0 dX6_takesOther_59 rfl ?_
    refine z_iconst (v := 3) h0 dX6_takesOther_60 (by decide) ?_
    refine z_aload_n h0 dX6_takesOther_61 rfl ?_
    refine z_iload_n h0 dX6_takesOther_62 rfl ?_
    refine z_iconst (v := 2) h0 dX6_takesOther_63 (by decide) ?_
    refine z_cVi (n := 2) (As := [_, _]) h0 hts hown (c_X6_part (RF_refl hR) (p := q) (k := 2) hq (by decide)) gX6_takesOther_X6_part rfl (by decide +kernel) ⟨Nat.le_of_ble_eq_true rfl, Nat.le_of_ble_eq_true rfl⟩ kOk6 rfl (RF_m hR) dX6_takesOther_64 rfl rfl (Nat.le_of_ble_eq_true rfl) ⟨Nat.le_of_ble_eq_true rfl, Nat.le_of_ble_eq_true rfl⟩ (fun r64 S64 hp64 => ?_)
    obtain ⟨rfl, hr64⟩ := hp64
    subst hr64
    refine z_iload_n h0 dX6_takesOther_67 rfl ?_
    refine z_cVv (n := 3) (As := [_, _, _]) h0 hts hown (c_X6_send (RF_refl hR) (by dsimp only [sA, sT, mM] at *; omega) (q := q) hq) gX6_takesOther_X6_send rfl (by decide +kernel) ⟨Nat.le_of_ble_eq_true rfl, Nat.le_of_ble_eq_true rfl⟩ kOk6 rfl (RF_m hR) dX6_takesOther_68 rfl rfl (Nat.le_of_ble_eq_true rfl) ⟨Nat.le_of_ble_eq_true rfl, Nat.le_of_ble_eq_true rfl⟩ (fun S68 hp68 => ?_)
    have hR := RF_trans hR hp68
    refine z_goto (tgt := 127) h0 dX6_takesOther_71 (by decide) ?_
    refine z_iload h0 dX6_takesOther_127 rfl ?_
    exact z_zret h0 hr (by rw [hr22]; exact bI_nar _) hlk dX6_takesOther_129 (Nat.le_of_ble_eq_true rfl) (Nat.le_of_ble_eq_true rfl) (by have hb := bI_t hr22 h29; unfold wts; rw [hb]; exact ⟨hR, hr22.trans (congrArg bI hb)⟩)

set_option maxRecDepth 100000 in
set_option maxHeartbeats 4000000 in
theorem c_X6_takesOther_3 {l : Launch} {D : va_G} {cI cZ cO : ClassId} {G : Nat → Nat} {S : PS} {m : Nat} {A : Nat → Nat} {M : MS} (hR : RF S S m A M) {p q : Nat} (hp : p < 12) (hq : q < 1672) (hm8 : mM M < 800) : zMi l yX6_takesOther wsX6_takesOther rm_X6_takesOther [.ref m, .int (nI p), .int 3, .int (nI q)] D cI cZ cO G S (fun r S' => RF S S' m A (if wts M p 2 q then mVal M p q else M) ∧ r = bI (wts M p 2 q)) := by
  refine z_of (cc := cX6_takesOther) (maxL := 5) (ret := (some .boolean)) (lo := [some (.ref m), some (.int (nI p)), some (.int 3), some (.int (nI q)), none]) (by decide) rfl rfl (Nat.le_of_ble_eq_true rfl) rfl ?_
  intro pp ee ss mi aa bl mh cd h0 hts hown hr hlk hnm
  have hown : ss.vm.findClass RX6 = some mi.cls := hown
  have inX6 : ∀ w ∈ u_ws RX6 TX6 14, w ∈ wsX6_takesOther := by decide +kernel
  have lk_7 : zLk ss mi aa RX6 7 7 2 := ⟨RX6, TX6, 14, "PurseWorldModel", wsX6_takesOther, rfl, by decide, hts, inX6, hown, hts (.fieldLink RX6 7 "PurseWorldModel" "balances" "[I") (by decide +kernel), fun _ h => h⟩
  have lk_16 : zLk ss mi aa RX6 16 7 4 := ⟨RX6, TX6, 14, "PurseWorldModel", wsX6_takesOther, rfl, by decide, hts, inX6, hown, hts (.fieldLink RX6 16 "PurseWorldModel" "states" "[I") (by decide +kernel), fun _ h => h⟩
  refine z_aload_n h0 dX6_takesOther_0 rfl ?_
  refine z_iload_n h0 dX6_takesOther_1 rfl ?_
  refine z_iload_n h0 dX6_takesOther_2 rfl ?_
  refine z_iconst (v := 2) h0 dX6_takesOther_3 (by decide) ?_
  refine z_icmp_ne (tgt := 11) h0 dX6_takesOther_4 (by decide) (fun h4 => ?_) (fun h4 => absurd h4 (by decide))
  refine z_iload_n h0 dX6_takesOther_11 rfl ?_
  refine z_iconst (v := 3) h0 dX6_takesOther_12 (by decide) ?_
  refine z_icmp_ne (tgt := 20) h0 dX6_takesOther_13 (by decide) (fun h13 => absurd rfl h13) (fun h13 => ?_)
  refine z_iconst (v := 2) h0 dX6_takesOther_16 (by decide) ?_
  refine z_goto (tgt := 21) h0 dX6_takesOther_17 (by decide) ?_
  refine z_iload_n h0 dX6_takesOther_21 rfl ?_
  refine z_cVi (n := 3) (As := [_, _, _]) h0 hts hown (c_X6_waits hR hp hq) gX6_takesOther_X6_waits rfl (by decide +kernel) ⟨Nat.le_of_ble_eq_true rfl, Nat.le_of_ble_eq_true rfl⟩ kOk6 rfl (RF_m hR) dX6_takesOther_22 rfl rfl (Nat.le_of_ble_eq_true rfl) ⟨Nat.le_of_ble_eq_true rfl, Nat.le_of_ble_eq_true rfl⟩ (fun r22 S22 hp22 => ?_)
  obtain ⟨rfl, hr22⟩ := hp22
  refine z_istore (lo' := [_, _, _, _, _]) h0 dX6_takesOther_25 (by decide) rfl rfl ?_
  refine z_iload h0 dX6_takesOther_27 rfl ?_
  refine z_if_eq (tgt := 74) h0 dX6_takesOther_29 (by decide) (fun h29 => ?_) (fun h29 => ?_)
  · refine z_iload h0 dX6_takesOther_74 rfl ?_
    refine z_if_eq (tgt := 127) h0 dX6_takesOther_76 (by decide) (fun h76 => ?_) (fun h76 => absurd h29 h76)
    refine z_iload h0 dX6_takesOther_127 rfl ?_
    exact z_zret h0 hr (by rw [hr22]; exact bI_nar _) hlk dX6_takesOther_129 (Nat.le_of_ble_eq_true rfl) (Nat.le_of_ble_eq_true rfl) (by have hb := bI_f hr22 h29; unfold wts; rw [hb]; exact ⟨hR, hr22.trans (congrArg bI hb)⟩)
  · refine z_iload_n h0 dX6_takesOther_32 rfl ?_
    refine z_iconst (v := 2) h0 dX6_takesOther_33 (by decide) ?_
    refine z_icmp_ne (tgt := 74) h0 dX6_takesOther_34 (by decide) (fun h34 => ?_) (fun h34 => absurd h34 (by decide))
    refine z_iload h0 dX6_takesOther_74 rfl ?_
    refine z_if_eq (tgt := 127) h0 dX6_takesOther_76 (by decide) (fun h76 => absurd h76 h29) (fun h76 => ?_)
    refine z_aload_n h0 dX6_takesOther_79 rfl ?_
    refine z_getA h0 hR 0 (by decide) fO10 rfl lk_7 dX6_takesOther_80 ?_
    refine z_iload_n h0 dX6_takesOther_83 rfl ?_
    refine z_dup2 h0 dX6_takesOther_84 rfl rfl ?_
    refine z_ialdR h0 hR 0 (by decide) rfl dX6_takesOther_85 (nI_toInt (by first | omega | (dsimp only [sA, sT, mP, mM, mE] at *; omega))) (by simp only [rLen]; first | omega | (dsimp only [sA, sT, mP, mM, mE] at *; omega)) ?_
    refine z_iload_n h0 dX6_takesOther_86 rfl ?_
    refine z_iconst (v := 3) h0 dX6_takesOther_87 (by decide) ?_
    refine z_icmp_ne (tgt := 100) h0 dX6_takesOther_88 (by decide) (fun h88 => absurd rfl h88) (fun h88 => ?_)
    refine z_aload_n h0 dX6_takesOther_91 rfl ?_
    refine z_iload_n h0 dX6_takesOther_92 rfl ?_
    refine z_iconst (v := 4) h0 dX6_takesOther_93 (by decide) ?_
    refine z_cVi (n := 2) (As := [_, _]) h0 hts hown (c_X6_part (RF_refl hR) (p := q) (k := 4) hq (by decide)) gX6_takesOther_X6_part rfl (by decide +kernel) ⟨Nat.le_of_ble_eq_true rfl, Nat.le_of_ble_eq_true rfl⟩ kOk6 rfl (RF_m hR) dX6_takesOther_94 rfl rfl (Nat.le_of_ble_eq_true rfl) ⟨Nat.le_of_ble_eq_true rfl, Nat.le_of_ble_eq_true rfl⟩ (fun r94 S94 hp94 => ?_)
    obtain ⟨rfl, hr94⟩ := hp94
    subst hr94
    refine z_goto (tgt := 101) h0 dX6_takesOther_97 (by decide) ?_
    refine z_iadd h0 dX6_takesOther_101 ?_
    refine z_iastR h0 hR 0 (by decide) rfl dX6_takesOther_102 (nI_toInt (by first | omega | (dsimp only [sA, sT, mP, mM, mE] at *; omega))) (by simp only [rLen]; first | omega | (dsimp only [sA, sT, mP, mM, mE] at *; omega)) (fun hR => ?_)
    refine z_aload_n h0 dX6_takesOther_103 rfl ?_
    refine z_getA h0 hR 2 (by decide) fO12 rfl lk_16 dX6_takesOther_104 ?_
    refine z_iload_n h0 dX6_takesOther_107 rfl ?_
    refine z_iconst (v := 0) h0 dX6_takesOther_108 (by decide) ?_
    refine z_iastR h0 hR 2 (by decide) rfl dX6_takesOther_109 (nI_toInt (by first | omega | (dsimp only [sA, sT, mP, mM, mE] at *; omega))) (by simp only [rLen]; first | omega | (dsimp only [sA, sT, mP, mM, mE] at *; omega)) (fun hR => ?_)
    refine z_iload_n h0 dX6_takesOther_110 rfl ?_
    refine z_iconst (v := 3) h0 dX6_takesOther_111 (by decide) ?_
    refine z_icmp_ne (tgt := 127) h0 dX6_takesOther_112 (by decide) (fun h112 => absurd rfl h112) (fun h112 => ?_)
    refine z_aload_n h0 dX6_takesOther_115 rfl ?_
    refine z_iconst (v := 4) h0 dX6_takesOther_116 (by decide) ?_
    refine z_aload_n h0 dX6_takesOther_117 rfl ?_
    refine z_iload_n h0 dX6_takesOther_118 rfl ?_
    refine z_iconst (v := 0) h0 dX6_takesOther_119 (by decide) ?_
    refine z_cVi (n := 2) (As := [_, _]) h0 hts hown (c_X6_part (RF_refl hR) (p := q) (k := 0) hq (by decide)) gX6_takesOther_X6_part rfl (by decide +kernel) ⟨Nat.le_of_ble_eq_true rfl, Nat.le_of_ble_eq_true rfl⟩ kOk6 rfl (RF_m hR) dX6_takesOther_120 rfl rfl (Nat.le_of_ble_eq_true rfl) ⟨Nat.le_of_ble_eq_true rfl, Nat.le_of_ble_eq_true rfl⟩ (fun r120 S120 hp120 => ?_)
    obtain ⟨rfl, hr120⟩ := hp120
    subst hr120
    refine z_iload_n h0 dX6_takesOther_123 rfl ?_
    refine z_cVv (n := 3) (As := [_, _, _]) h0 hts hown (c_X6_send (RF_refl hR) (by dsimp only [sA, sT, mM] at *; omega) (q := q) hq) gX6_takesOther_X6_send rfl (by decide +kernel) ⟨Nat.le_of_ble_eq_true rfl, Nat.le_of_ble_eq_true rfl⟩ kOk6 rfl (RF_m hR) dX6_takesOther_124 rfl rfl (Nat.le_of_ble_eq_true rfl) ⟨Nat.le_of_ble_eq_true rfl, Nat.le_of_ble_eq_true rfl⟩ (fun S124 hp124 => ?_)
    have hR := RF_trans hR hp124
    refine z_iload h0 dX6_takesOther_127 rfl ?_
    exact z_zret h0 hr (by rw [hr22]; exact bI_nar _) hlk dX6_takesOther_129 (Nat.le_of_ble_eq_true rfl) (Nat.le_of_ble_eq_true rfl) (by have hb := bI_t hr22 h29; unfold wts; rw [hb]; exact ⟨hR, hr22.trans (congrArg bI hb)⟩)

set_option maxRecDepth 100000 in
set_option maxHeartbeats 4000000 in
theorem c_X6_takesOther_4 {l : Launch} {D : va_G} {cI cZ cO : ClassId} {G : Nat → Nat} {S : PS} {m : Nat} {A : Nat → Nat} {M : MS} (hR : RF S S m A M) {p q : Nat} (hp : p < 12) (hq : q < 1672) : zMi l yX6_takesOther wsX6_takesOther rm_X6_takesOther [.ref m, .int (nI p), .int 4, .int (nI q)] D cI cZ cO G S (fun r S' => RF S S' m A (if wts M p 3 q then mThk M p else M) ∧ r = bI (wts M p 3 q)) := by
  refine z_of (cc := cX6_takesOther) (maxL := 5) (ret := (some .boolean)) (lo := [some (.ref m), some (.int (nI p)), some (.int 4), some (.int (nI q)), none]) (by decide) rfl rfl (Nat.le_of_ble_eq_true rfl) rfl ?_
  intro pp ee ss mi aa bl mh cd h0 hts hown hr hlk hnm
  have hown : ss.vm.findClass RX6 = some mi.cls := hown
  have inX6 : ∀ w ∈ u_ws RX6 TX6 14, w ∈ wsX6_takesOther := by decide +kernel
  have lk_7 : zLk ss mi aa RX6 7 7 2 := ⟨RX6, TX6, 14, "PurseWorldModel", wsX6_takesOther, rfl, by decide, hts, inX6, hown, hts (.fieldLink RX6 7 "PurseWorldModel" "balances" "[I") (by decide +kernel), fun _ h => h⟩
  have lk_16 : zLk ss mi aa RX6 16 7 4 := ⟨RX6, TX6, 14, "PurseWorldModel", wsX6_takesOther, rfl, by decide, hts, inX6, hown, hts (.fieldLink RX6 16 "PurseWorldModel" "states" "[I") (by decide +kernel), fun _ h => h⟩
  refine z_aload_n h0 dX6_takesOther_0 rfl ?_
  refine z_iload_n h0 dX6_takesOther_1 rfl ?_
  refine z_iload_n h0 dX6_takesOther_2 rfl ?_
  refine z_iconst (v := 2) h0 dX6_takesOther_3 (by decide) ?_
  refine z_icmp_ne (tgt := 11) h0 dX6_takesOther_4 (by decide) (fun h4 => ?_) (fun h4 => absurd h4 (by decide))
  refine z_iload_n h0 dX6_takesOther_11 rfl ?_
  refine z_iconst (v := 3) h0 dX6_takesOther_12 (by decide) ?_
  refine z_icmp_ne (tgt := 20) h0 dX6_takesOther_13 (by decide) (fun h13 => ?_) (fun h13 => absurd h13 (by decide))
  refine z_iconst (v := 3) h0 dX6_takesOther_20 (by decide) ?_
  refine z_iload_n h0 dX6_takesOther_21 rfl ?_
  refine z_cVi (n := 3) (As := [_, _, _]) h0 hts hown (c_X6_waits hR hp hq) gX6_takesOther_X6_waits rfl (by decide +kernel) ⟨Nat.le_of_ble_eq_true rfl, Nat.le_of_ble_eq_true rfl⟩ kOk6 rfl (RF_m hR) dX6_takesOther_22 rfl rfl (Nat.le_of_ble_eq_true rfl) ⟨Nat.le_of_ble_eq_true rfl, Nat.le_of_ble_eq_true rfl⟩ (fun r22 S22 hp22 => ?_)
  obtain ⟨rfl, hr22⟩ := hp22
  refine z_istore (lo' := [_, _, _, _, _]) h0 dX6_takesOther_25 (by decide) rfl rfl ?_
  refine z_iload h0 dX6_takesOther_27 rfl ?_
  refine z_if_eq (tgt := 74) h0 dX6_takesOther_29 (by decide) (fun h29 => ?_) (fun h29 => ?_)
  · refine z_iload h0 dX6_takesOther_74 rfl ?_
    refine z_if_eq (tgt := 127) h0 dX6_takesOther_76 (by decide) (fun h76 => ?_) (fun h76 => absurd h29 h76)
    refine z_iload h0 dX6_takesOther_127 rfl ?_
    exact z_zret h0 hr (by rw [hr22]; exact bI_nar _) hlk dX6_takesOther_129 (Nat.le_of_ble_eq_true rfl) (Nat.le_of_ble_eq_true rfl) (by have hb := bI_f hr22 h29; unfold wts; rw [hb]; exact ⟨hR, hr22.trans (congrArg bI hb)⟩)
  · refine z_iload_n h0 dX6_takesOther_32 rfl ?_
    refine z_iconst (v := 2) h0 dX6_takesOther_33 (by decide) ?_
    refine z_icmp_ne (tgt := 74) h0 dX6_takesOther_34 (by decide) (fun h34 => ?_) (fun h34 => absurd h34 (by decide))
    refine z_iload h0 dX6_takesOther_74 rfl ?_
    refine z_if_eq (tgt := 127) h0 dX6_takesOther_76 (by decide) (fun h76 => absurd h76 h29) (fun h76 => ?_)
    refine z_aload_n h0 dX6_takesOther_79 rfl ?_
    refine z_getA h0 hR 0 (by decide) fO10 rfl lk_7 dX6_takesOther_80 ?_
    refine z_iload_n h0 dX6_takesOther_83 rfl ?_
    refine z_dup2 h0 dX6_takesOther_84 rfl rfl ?_
    refine z_ialdR h0 hR 0 (by decide) rfl dX6_takesOther_85 (nI_toInt (by first | omega | (dsimp only [sA, sT, mP, mM, mE] at *; omega))) (by simp only [rLen]; first | omega | (dsimp only [sA, sT, mP, mM, mE] at *; omega)) ?_
    refine z_iload_n h0 dX6_takesOther_86 rfl ?_
    refine z_iconst (v := 3) h0 dX6_takesOther_87 (by decide) ?_
    refine z_icmp_ne (tgt := 100) h0 dX6_takesOther_88 (by decide) (fun h88 => ?_) (fun h88 => absurd h88 (by decide))
    refine z_iconst (v := 0) h0 dX6_takesOther_100 (by decide) ?_
    refine z_iadd h0 dX6_takesOther_101 ?_
    refine z_iastR h0 hR 0 (by decide) rfl dX6_takesOther_102 (nI_toInt (by first | omega | (dsimp only [sA, sT, mP, mM, mE] at *; omega))) (by simp only [rLen]; first | omega | (dsimp only [sA, sT, mP, mM, mE] at *; omega)) (fun hR => ?_)
    refine z_aload_n h0 dX6_takesOther_103 rfl ?_
    refine z_getA h0 hR 2 (by decide) fO12 rfl lk_16 dX6_takesOther_104 ?_
    refine z_iload_n h0 dX6_takesOther_107 rfl ?_
    refine z_iconst (v := 0) h0 dX6_takesOther_108 (by decide) ?_
    refine z_iastR h0 hR 2 (by decide) rfl dX6_takesOther_109 (nI_toInt (by first | omega | (dsimp only [sA, sT, mP, mM, mE] at *; omega))) (by simp only [rLen]; first | omega | (dsimp only [sA, sT, mP, mM, mE] at *; omega)) (fun hR => ?_)
    refine z_iload_n h0 dX6_takesOther_110 rfl ?_
    refine z_iconst (v := 3) h0 dX6_takesOther_111 (by decide) ?_
    refine z_icmp_ne (tgt := 127) h0 dX6_takesOther_112 (by decide) (fun h112 => ?_) (fun h112 => absurd h112 (by decide))
    refine z_iload h0 dX6_takesOther_127 rfl ?_
    exact z_zret h0 hr (by rw [hr22]; exact bI_nar _) hlk dX6_takesOther_129 (Nat.le_of_ble_eq_true rfl) (Nat.le_of_ble_eq_true rfl) (by have hb := bI_t hr22 h29; unfold wts; rw [hb]; exact ⟨hR, hr22.trans (congrArg bI hb)⟩)

abbrev rm_X6_takesRecord : Room := { frames := 2, cells := 0, slots := 0, locals := 49 }
set_option maxRecDepth 100000 in
set_option maxHeartbeats 4000000 in
theorem c_X6_takesRecord {l : Launch} {D : va_G} {cI cZ cO : ClassId} {G : Nat → Nat} {S : PS} {m : Nat} {A : Nat → Nat} {M : MS} (hR : RF S S m A M) {i : Nat} (hi : i < 800) (he : mE M < 800) : zMi l yX6_takesRecord wsX6_takesRecord rm_X6_takesRecord [.ref m, .int (nI i)] D cI cZ cO G S (fun r S' => RF S S' m A (if kpt M (mA M 6 i) (72 + i) (mE M) then M else mRec M i) ∧ r = bI (!kpt M (mA M 6 i) (72 + i) (mE M))) := by
  refine z_of (cc := cX6_takesRecord) (maxL := 2) (ret := (some .boolean)) (lo := [some (.ref m), some (.int (nI i))]) (by decide) rfl rfl (Nat.le_of_ble_eq_true rfl) rfl ?_
  intro pp ee ss mi aa bl mh cd h0 hts hown hr hlk hnm
  have hown : ss.vm.findClass RX6 = some mi.cls := hown
  have inX6 : ∀ w ∈ u_ws RX6 TX6 14, w ∈ wsX6_takesRecord := by decide +kernel
  have lk_28 : zLk ss mi aa RX6 28 7 9 := ⟨RX6, TX6, 14, "PurseWorldModel", wsX6_takesRecord, rfl, by decide, hts, inX6, hown, hts (.fieldLink RX6 28 "PurseWorldModel" "of" "[I") (by decide +kernel), fun _ h => h⟩
  have lk_31 : zLk ss mi aa RX6 31 7 11 := ⟨RX6, TX6, 14, "PurseWorldModel", wsX6_takesRecord, rfl, by decide, hts, inX6, hown, hts (.fieldLink RX6 31 "PurseWorldModel" "tellers" "[I") (by decide +kernel), fun _ h => h⟩
  have lk_34 : zLk ss mi aa RX6 34 7 12 := ⟨RX6, TX6, 14, "PurseWorldModel", wsX6_takesRecord, rfl, by decide, hts, inX6, hown, hts (.fieldLink RX6 34 "PurseWorldModel" "refunded" "[Z") (by decide +kernel), fun _ h => h⟩
  have lk_56 : zLk ss mi aa RX6 56 7 10 := ⟨RX6, TX6, 14, "PurseWorldModel", wsX6_takesRecord, rfl, by decide, hts, inX6, hown, hts (.fieldLink RX6 56 "PurseWorldModel" "entries" "I") (by decide +kernel), fun _ h => h⟩
  have lp_56 : zLp ss mi aa mh RX6 56 7 10 .int := ⟨RX6, TX6, 14, "PurseWorldModel", wsX6_takesRecord, tyX6, rfl, by decide, hts, inX6, hown, hts (.fieldLink RX6 56 "PurseWorldModel" "entries" "I") (by decide +kernel), fun _ h => h, tyX6_ok, nmX6, by decide +kernel, Or.inl rfl⟩
  refine z_aload_n h0 dX6_takesRecord_0 rfl ?_
  refine z_aload_n h0 dX6_takesRecord_1 rfl ?_
  refine z_getA h0 hR 6 (by decide) fO16 rfl lk_28 dX6_takesRecord_2 ?_
  refine z_iload_n h0 dX6_takesRecord_5 rfl ?_
  refine z_ialdR h0 hR 6 (by decide) rfl dX6_takesRecord_6 (nI_toInt (by first | omega | (dsimp only [sA, sT, mP, mM, mE] at *; omega))) (by simp only [rLen]; first | omega | (dsimp only [sA, sT, mP, mM, mE] at *; omega)) ?_
  refine z_bipush (v := 72) h0 dX6_takesRecord_7 (by decide) ?_
  refine z_iload_n h0 dX6_takesRecord_9 rfl ?_
  refine z_iadd h0 dX6_takesRecord_10 ?_
  refine z_top (y := nI (72 + i)) (by rw [zc72, nI_add]) ?_
  refine z_aload_n h0 dX6_takesRecord_11 rfl ?_
  refine z_getSE h0 hR fI18 lk_56 dX6_takesRecord_12 ?_
  refine z_cVi (n := 3) (As := [_, _, _]) h0 hts hown (c_X6_isKept hR (q := 72 + i) (by omega) (by omega)) gX6_takesRecord_X6_isKept rfl (by decide +kernel) ⟨Nat.le_of_ble_eq_true rfl, Nat.le_of_ble_eq_true rfl⟩ kOk6 rfl (RF_m hR) dX6_takesRecord_15 rfl rfl (Nat.le_of_ble_eq_true rfl) ⟨Nat.le_of_ble_eq_true rfl, Nat.le_of_ble_eq_true rfl⟩ (fun r15 S15 hp15 => ?_)
  obtain ⟨rfl, hr15⟩ := hp15
  refine z_if_eq (tgt := 23) h0 dX6_takesRecord_18 (by decide) (fun h18 => ?_) (fun h18 => ?_)
  · refine z_aload_n h0 dX6_takesRecord_23 rfl ?_
    refine z_getA h0 hR 7 (by decide) fO17 rfl lk_31 dX6_takesRecord_24 ?_
    refine z_aload_n h0 dX6_takesRecord_27 rfl ?_
    refine z_getSE h0 hR fI18 lk_56 dX6_takesRecord_28 ?_
    refine z_aload_n h0 dX6_takesRecord_31 rfl ?_
    refine z_getA h0 hR 6 (by decide) fO16 rfl lk_28 dX6_takesRecord_32 ?_
    refine z_iload_n h0 dX6_takesRecord_35 rfl ?_
    refine z_ialdR h0 hR 6 (by decide) rfl dX6_takesRecord_36 (nI_toInt (by first | omega | (dsimp only [sA, sT, mP, mM, mE] at *; omega))) (by simp only [rLen]; first | omega | (dsimp only [sA, sT, mP, mM, mE] at *; omega)) ?_
    refine z_iastR h0 hR 7 (by decide) rfl dX6_takesRecord_37 (nI_toInt (by first | omega | (dsimp only [sA, sT, mP, mM, mE] at *; omega))) (by simp only [rLen]; first | omega | (dsimp only [sA, sT, mP, mM, mE] at *; omega)) (fun hR => ?_)
    refine z_aload_n h0 dX6_takesRecord_38 rfl ?_
    refine z_getA h0 hR 8 (by decide) fO18 rfl lk_34 dX6_takesRecord_39 ?_
    refine z_aload_n h0 dX6_takesRecord_42 rfl ?_
    refine z_getSE h0 hR fI18 lk_56 dX6_takesRecord_43 ?_
    refine z_iconst (v := 0) h0 dX6_takesRecord_46 (by decide) ?_
    refine z_zastR h0 hR dX6_takesRecord_47 (nI_toInt (by first | omega | (dsimp only [sA, sT, mP, mM, mE] at *; omega))) (by first | omega | (dsimp only [sA, sT, mP, mM, mE] at *; omega)) rfl (fun hR => ?_)
    refine z_aload_n h0 dX6_takesRecord_48 rfl ?_
    refine z_bipush (v := 72) h0 dX6_takesRecord_49 (by decide) ?_
    refine z_iload_n h0 dX6_takesRecord_51 rfl ?_
    refine z_iadd h0 dX6_takesRecord_52 ?_
    refine z_top (y := nI (72 + i)) (by rw [zc72, nI_add]) ?_
    refine z_sipush (v := 872) h0 dX6_takesRecord_53 (by decide) ?_
    refine z_aload_n h0 dX6_takesRecord_56 rfl ?_
    refine z_getSE h0 hR fI18 lk_56 dX6_takesRecord_57 ?_
    refine z_iadd h0 dX6_takesRecord_60 ?_
    refine z_top (y := nI (872 + mE M)) (by rw [zc872, nI_add]) ?_
    refine z_cVv (n := 2) (As := [_, _]) h0 hts hown (c_X6_copy (RF_refl hR) (p := 72 + i) (q := 872 + mE M) (by omega) (by omega)) gX6_takesRecord_X6_copy rfl (by decide +kernel) ⟨Nat.le_of_ble_eq_true rfl, Nat.le_of_ble_eq_true rfl⟩ kOk6 rfl (RF_m hR) dX6_takesRecord_61 rfl rfl (Nat.le_of_ble_eq_true rfl) ⟨Nat.le_of_ble_eq_true rfl, Nat.le_of_ble_eq_true rfl⟩ (fun S61 hp61 => ?_)
    have hR := RF_trans hR hp61
    refine z_aload_n h0 dX6_takesRecord_64 rfl ?_
    refine z_dup h0 dX6_takesRecord_65 rfl ?_
    refine z_getSE h0 hR fI18 lk_56 dX6_takesRecord_66 ?_
    refine z_iconst (v := 1) h0 dX6_takesRecord_69 (by decide) ?_
    refine z_iadd h0 dX6_takesRecord_70 ?_
    refine z_putE h0 hR fI18 lp_56 dX6_takesRecord_71 (nI_1 _) (fun hR => ?_)
    refine z_iconst (v := 1) h0 dX6_takesRecord_74 (by decide) ?_
    exact z_zret h0 hr rfl hlk dX6_takesRecord_75 (Nat.le_of_ble_eq_true rfl) (Nat.le_of_ble_eq_true rfl) (by have hb := bI_f hr15 h18; unfold kpt; rw [hb]; exact ⟨hR, rfl⟩)
  · refine z_iconst (v := 0) h0 dX6_takesRecord_21 (by decide) ?_
    exact z_zret h0 hr rfl hlk dX6_takesRecord_22 (Nat.le_of_ble_eq_true rfl) (Nat.le_of_ble_eq_true rfl) (by have hb := bI_t hr15 h18; unfold kpt; rw [hb]; exact ⟨hR, rfl⟩)

theorem n0_le {n0 : Nat} (h : n0 ≤ 5) (g : nI n0 ≤ 0) : ¬ 0 < n0 := by
  rw [Int32.le_iff_toInt_le, Int32.toInt_zero, nI_toInt (by omega)] at g; omega
theorem n0_gt {n0 : Nat} (h : n0 ≤ 5) (g : ¬ nI n0 ≤ 0) : 0 < n0 := by
  rw [Int32.le_iff_toInt_le, Int32.toInt_zero, nI_toInt (by omega)] at g; omega

abbrev rm_X6_takesClearing : Room := { frames := 2, cells := 0, slots := 0, locals := 49 }
set_option maxRecDepth 100000 in
set_option maxHeartbeats 4000000 in
theorem c_X6_takesClearing {l : Launch} {D : va_G} {cI cZ cO : ClassId} {G : Nat → Nat} {S : PS} {m : Nat} {A : Nat → Nat} {M : MS} (hR : RF S S m A M) {p k n0 : Nat} (hp : p < 12) (hn : mA M 3 p = nI n0) (hn5 : n0 ≤ 5) (hk : k ≤ 800) : zMi l yX6_takesClearing wsX6_takesClearing rm_X6_takesClearing [.ref m, .int (nI p), .int (nI k)] D cI cZ cO G S (fun r S' => RF S S' m A (if clr M p k n0 then sA M 3 p 0 else M) ∧ r = bI (clr M p k n0)) := by
  refine z_of (cc := cX6_takesClearing) (maxL := 5) (ret := (some .boolean)) (lo := [some (.ref m), some (.int (nI p)), some (.int (nI k)), none, none]) (by decide) rfl rfl (Nat.le_of_ble_eq_true rfl) rfl ?_
  intro pp ee ss mi aa bl mh cd h0 hts hown hr hlk hnm
  have hown : ss.vm.findClass RX6 = some mi.cls := hown
  have inX6 : ∀ w ∈ u_ws RX6 TX6 14, w ∈ wsX6_takesClearing := by decide +kernel
  have lk_16 : zLk ss mi aa RX6 16 7 4 := ⟨RX6, TX6, 14, "PurseWorldModel", wsX6_takesClearing, rfl, by decide, hts, inX6, hown, hts (.fieldLink RX6 16 "PurseWorldModel" "states" "[I") (by decide +kernel), fun _ h => h⟩
  have lk_19 : zLk ss mi aa RX6 19 7 5 := ⟨RX6, TX6, 14, "PurseWorldModel", wsX6_takesClearing, rfl, by decide, hts, inX6, hown, hts (.fieldLink RX6 19 "PurseWorldModel" "logSize" "[I") (by decide +kernel), fun _ h => h⟩
  have loop : ∀ (n i : Nat) (b : Int32), n0 - i < n → i ≤ n0 → b = bI (decide (mA M 2 p = 0 ∧ 0 < n0) && (List.range i).all (fun j => kpt M (nI p) (12 + 5 * p + j) k)) → ZW pp l ee rm_X6_takesClearing ss mi aa bl mh cd D cI cZ cO (zA cI cZ cO S ss.heap.size) (MQ bl (zQi D cI cZ cO S (fun r S' => RF S S' m A (if clr M p k n0 then sA M 3 p 0 else M) ∧ r = bI (clr M p k n0)) ss.heap.size) aa ss rm_X6_takesClearing.cells rm_X6_takesClearing.slots (zA cI cZ cO S ss.heap.size)) [] 5 S 0 0 27 [some (.ref m), some (.int (nI p)), some (.int (nI k)), some (.int b), some (.int (nI i))] [] := by
    intro n
    induction n with
    | zero => intro i b h; exact absurd h (Nat.not_lt_zero _)
    | succ n ih =>
      intro i b hm hi hb
      refine z_iload h0 dX6_takesClearing_27 rfl ?_
      refine z_aload_n h0 dX6_takesClearing_29 rfl ?_
      refine z_getA h0 hR 3 (by decide) fO13 rfl lk_19 dX6_takesClearing_30 ?_
      refine z_iload_n h0 dX6_takesClearing_33 rfl ?_
      refine z_ialdR h0 hR 3 (by decide) rfl dX6_takesClearing_34 (nI_toInt (by first | omega | (dsimp only [sA, sT, mP, mM, mE] at *; omega))) (by simp only [rLen]; first | omega | (dsimp only [sA, sT, mP, mM, mE] at *; omega)) ?_
      refine z_top hn ?_
      refine z_icmp_ge (tgt := 72) h0 dX6_takesClearing_35 (by decide) (fun h35 => ?_) (fun h35 => ?_)
      · refine z_aload_n h0 dX6_takesClearing_72 rfl ?_
        refine z_getA h0 hR 3 (by decide) fO13 rfl lk_19 dX6_takesClearing_73 ?_
        refine z_iload_n h0 dX6_takesClearing_76 rfl ?_
        refine z_iload_n h0 dX6_takesClearing_77 rfl ?_
        refine z_if_eq (tgt := 85) h0 dX6_takesClearing_78 (by decide) (fun h78 => ?_) (fun h78 => ?_)
        · refine z_aload_n h0 dX6_takesClearing_85 rfl ?_
          refine z_getA h0 hR 3 (by decide) fO13 rfl lk_19 dX6_takesClearing_86 ?_
          refine z_iload_n h0 dX6_takesClearing_89 rfl ?_
          refine z_ialdR h0 hR 3 (by decide) rfl dX6_takesClearing_90 (nI_toInt (by first | omega | (dsimp only [sA, sT, mP, mM, mE] at *; omega))) (by simp only [rLen]; first | omega | (dsimp only [sA, sT, mP, mM, mE] at *; omega)) ?_
          refine z_iastR h0 hR 3 (by decide) rfl dX6_takesClearing_91 (nI_toInt (by first | omega | (dsimp only [sA, sT, mP, mM, mE] at *; omega))) (by simp only [rLen]; first | omega | (dsimp only [sA, sT, mP, mM, mE] at *; omega)) (fun hR => ?_)
          have hcl : clr M p k n0 = false := by have := bI_f hb h78; rw [Nat.le_antisymm hi (nI_geof h35 (by omega) (by omega))] at this; exact this
          rw [sA_same] at hR
          refine z_iload_n h0 dX6_takesClearing_92 rfl ?_
          exact z_zret h0 hr (by rw [hb]; exact bI_nar _) hlk dX6_takesClearing_93 (Nat.le_of_ble_eq_true rfl) (Nat.le_of_ble_eq_true rfl) (by rw [hcl]; exact ⟨hR, hb.trans (congrArg bI (by first | exact (bI_f hb h78) | exact (bI_t hb h78)))⟩)
        · refine z_iconst (v := 0) h0 dX6_takesClearing_81 (by decide) ?_
          refine z_goto (tgt := 91) h0 dX6_takesClearing_82 (by decide) ?_
          refine z_iastR h0 hR 3 (by decide) rfl dX6_takesClearing_91 (nI_toInt (by first | omega | (dsimp only [sA, sT, mP, mM, mE] at *; omega))) (by simp only [rLen]; first | omega | (dsimp only [sA, sT, mP, mM, mE] at *; omega)) (fun hR => ?_)
          have hcl : clr M p k n0 = true := by have := bI_t hb h78; rw [Nat.le_antisymm hi (nI_geof h35 (by omega) (by omega))] at this; exact this
          refine z_iload_n h0 dX6_takesClearing_92 rfl ?_
          exact z_zret h0 hr (by rw [hb]; exact bI_nar _) hlk dX6_takesClearing_93 (Nat.le_of_ble_eq_true rfl) (Nat.le_of_ble_eq_true rfl) (by rw [hcl]; exact ⟨hR, hb.trans (congrArg bI (by first | exact (bI_f hb h78) | exact (bI_t hb h78)))⟩)
      · have hlt : i < n0 := nI_ltof h35 (by omega)
        refine z_iload_n h0 dX6_takesClearing_38 rfl ?_
        refine z_if_eq (tgt := 64) h0 dX6_takesClearing_39 (by decide) (fun h39 => ?_) (fun h39 => ?_)
        · refine z_iconst (v := 0) h0 dX6_takesClearing_64 (by decide) ?_
          refine z_istore_n (lo' := [_, _, _, _, _]) h0 dX6_takesClearing_65 (by decide) rfl rfl ?_
          refine z_iinc (lo' := [_, _, _, _, _]) (v := nI (i + 1)) h0 dX6_takesClearing_66 rfl (nI_1 i) (by decide) rfl rfl ?_
          refine z_goto (tgt := 27) h0 dX6_takesClearing_69 (by decide) ?_
          exact ih (i + 1) 0 (by omega) (by omega) (by rw [all_s, ← Bool.and_assoc]; exact and_f1 hb h39)
        · refine z_aload_n h0 dX6_takesClearing_42 rfl ?_
          refine z_iload_n h0 dX6_takesClearing_43 rfl ?_
          refine z_bipush (v := 12) h0 dX6_takesClearing_44 (by decide) ?_
          refine z_iconst (v := 5) h0 dX6_takesClearing_46 (by decide) ?_
          refine z_iload_n h0 dX6_takesClearing_47 rfl ?_
          refine z_imul h0 dX6_takesClearing_48 ?_
          refine z_iadd h0 dX6_takesClearing_49 ?_
          refine z_iload h0 dX6_takesClearing_50 rfl ?_
          refine z_iadd h0 dX6_takesClearing_52 ?_
          refine z_top (y := nI (12 + 5 * p + i)) (by rw [zc5, zc12, pk_mul, nI_add, nI_add]) ?_
          refine z_iload_n h0 dX6_takesClearing_53 rfl ?_
          refine z_cVi (n := 3) (As := [_, _, _]) h0 hts hown (c_X6_isKept hR (q := 12 + 5 * p + i) (by omega) hk) gX6_takesClearing_X6_isKept rfl (by decide +kernel) ⟨Nat.le_of_ble_eq_true rfl, Nat.le_of_ble_eq_true rfl⟩ kOk6 rfl (RF_m hR) dX6_takesClearing_54 rfl rfl (Nat.le_of_ble_eq_true rfl) ⟨Nat.le_of_ble_eq_true rfl, Nat.le_of_ble_eq_true rfl⟩ (fun r54 S54 hp54 => ?_)
          obtain ⟨rfl, hr54⟩ := hp54
          refine z_if_eq (tgt := 64) h0 dX6_takesClearing_57 (by decide) (fun h57 => ?_) (fun h57 => ?_)
          · refine z_iconst (v := 0) h0 dX6_takesClearing_64 (by decide) ?_
            refine z_istore_n (lo' := [_, _, _, _, _]) h0 dX6_takesClearing_65 (by decide) rfl rfl ?_
            refine z_iinc (lo' := [_, _, _, _, _]) (v := nI (i + 1)) h0 dX6_takesClearing_66 rfl (nI_1 i) (by decide) rfl rfl ?_
            refine z_goto (tgt := 27) h0 dX6_takesClearing_69 (by decide) ?_
            exact ih (i + 1) 0 (by omega) (by omega) (by rw [all_s, ← Bool.and_assoc]; exact and_f2 (bI_f hr54 h57))
          · refine z_iconst (v := 1) h0 dX6_takesClearing_60 (by decide) ?_
            refine z_goto (tgt := 65) h0 dX6_takesClearing_61 (by decide) ?_
            refine z_istore_n (lo' := [_, _, _, _, _]) h0 dX6_takesClearing_65 (by decide) rfl rfl ?_
            refine z_iinc (lo' := [_, _, _, _, _]) (v := nI (i + 1)) h0 dX6_takesClearing_66 rfl (nI_1 i) (by decide) rfl rfl ?_
            refine z_goto (tgt := 27) h0 dX6_takesClearing_69 (by decide) ?_
            exact ih (i + 1) 1 (by omega) (by omega) (by rw [all_s, ← Bool.and_assoc]; exact and_t hb h39 (bI_t hr54 h57))
  refine z_aload_n h0 dX6_takesClearing_0 rfl ?_
  refine z_getA h0 hR 2 (by decide) fO12 rfl lk_16 dX6_takesClearing_1 ?_
  refine z_iload_n h0 dX6_takesClearing_4 rfl ?_
  refine z_ialdR h0 hR 2 (by decide) rfl dX6_takesClearing_5 (nI_toInt (by first | omega | (dsimp only [sA, sT, mP, mM, mE] at *; omega))) (by simp only [rLen]; first | omega | (dsimp only [sA, sT, mP, mM, mE] at *; omega)) ?_
  refine z_if_ne (tgt := 22) h0 dX6_takesClearing_6 (by decide) (fun h6 => ?_) (fun h6 => ?_)
  · refine z_iconst (v := 0) h0 dX6_takesClearing_22 (by decide) ?_
    refine z_istore_n (lo' := [_, _, _, _, _]) h0 dX6_takesClearing_23 (by decide) rfl rfl ?_
    refine z_iconst (v := 0) h0 dX6_takesClearing_24 (by decide) ?_
    refine z_istore (lo' := [_, _, _, _, _]) h0 dX6_takesClearing_25 (by decide) rfl rfl ?_
    exact loop (n0 + 1) 0 0 (by omega) (Nat.zero_le _) (by rw [decide_eq_false (fun z => h6 z.1)]; rfl)
  · refine z_aload_n h0 dX6_takesClearing_9 rfl ?_
    refine z_getA h0 hR 3 (by decide) fO13 rfl lk_19 dX6_takesClearing_10 ?_
    refine z_iload_n h0 dX6_takesClearing_13 rfl ?_
    refine z_ialdR h0 hR 3 (by decide) rfl dX6_takesClearing_14 (nI_toInt (by first | omega | (dsimp only [sA, sT, mP, mM, mE] at *; omega))) (by simp only [rLen]; first | omega | (dsimp only [sA, sT, mP, mM, mE] at *; omega)) ?_
    refine z_top hn ?_
    refine z_if_le (tgt := 22) h0 dX6_takesClearing_15 (by decide) (fun h15 => ?_) (fun h15 => ?_)
    · refine z_iconst (v := 0) h0 dX6_takesClearing_22 (by decide) ?_
      refine z_istore_n (lo' := [_, _, _, _, _]) h0 dX6_takesClearing_23 (by decide) rfl rfl ?_
      refine z_iconst (v := 0) h0 dX6_takesClearing_24 (by decide) ?_
      refine z_istore (lo' := [_, _, _, _, _]) h0 dX6_takesClearing_25 (by decide) rfl rfl ?_
      exact loop (n0 + 1) 0 0 (by omega) (Nat.zero_le _) (by rw [decide_eq_false (fun z => n0_le hn5 h15 z.2)]; rfl)
    · refine z_iconst (v := 1) h0 dX6_takesClearing_18 (by decide) ?_
      refine z_goto (tgt := 23) h0 dX6_takesClearing_19 (by decide) ?_
      refine z_istore_n (lo' := [_, _, _, _, _]) h0 dX6_takesClearing_23 (by decide) rfl rfl ?_
      refine z_iconst (v := 0) h0 dX6_takesClearing_24 (by decide) ?_
      refine z_istore (lo' := [_, _, _, _, _]) h0 dX6_takesClearing_25 (by decide) rfl rfl ?_
      exact loop (n0 + 1) 0 1 (by omega) (Nat.zero_le _) (by rw [decide_eq_true ⟨h6, n0_gt hn5 h15⟩]; rfl)

end REFOTHER
