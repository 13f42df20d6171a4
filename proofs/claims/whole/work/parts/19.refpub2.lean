/-! THE REFERENCE'S CALLS, II. -/
section REFPUB2
abbrev rm_X6_authorise : Room := { frames := 2, cells := 0, slots := 0, locals := 46 }
set_option maxRecDepth 100000 in
set_option maxHeartbeats 4000000 in
theorem c_X6_authorise {l : Launch} {D : va_G} {cI cZ cO : ClassId} {G : Nat → Nat} {S : PS} {m c : Nat} {A : Nat → Nat} {M : MS} (hR : RF S S m A M) (hI : MI c M) (hc : c < 512) {x : Int32} : zMi l yX6_authorise wsX6_authorise rm_X6_authorise [.ref m, .int x] D cI cZ cO G S (fun r S' => rP S m A (oAuth M x) r S') := by
  refine z_of (cc := cX6_authorise) (maxL := 4) (ret := (some .int)) (lo := [some (.ref m), some (.int x), none, none]) (by decide) rfl rfl (Nat.le_of_ble_eq_true rfl) rfl ?_
  intro pp ee ss mi aa bl mh cd h0 hts hown hr hlk hnm
  have hown : ss.vm.findClass RX6 = some mi.cls := hown
  have inX6 : ∀ w ∈ u_ws RX6 TX6 14, w ∈ wsX6_authorise := by decide +kernel
  have lk_28 : zLk ss mi aa RX6 28 7 9 := ⟨RX6, TX6, 14, "PurseWorldModel", wsX6_authorise, rfl, by decide, hts, inX6, hown, hts (.fieldLink RX6 28 "PurseWorldModel" "of" "[I") (by decide +kernel), fun _ h => h⟩
  have lk_31 : zLk ss mi aa RX6 31 7 11 := ⟨RX6, TX6, 14, "PurseWorldModel", wsX6_authorise, rfl, by decide, hts, inX6, hown, hts (.fieldLink RX6 31 "PurseWorldModel" "tellers" "[I") (by decide +kernel), fun _ h => h⟩
  have lk_41 : zLk ss mi aa RX6 41 7 0 := ⟨RX6, TX6, 14, "PurseWorldModel", wsX6_authorise, rfl, by decide, hts, inX6, hown, hts (.fieldLink RX6 41 "PurseWorldModel" "code" "I") (by decide +kernel), fun _ h => h⟩
  have lk_56 : zLk ss mi aa RX6 56 7 10 := ⟨RX6, TX6, 14, "PurseWorldModel", wsX6_authorise, rfl, by decide, hts, inX6, hown, hts (.fieldLink RX6 56 "PurseWorldModel" "entries" "I") (by decide +kernel), fun _ h => h⟩
  have lk_59 : zLk ss mi aa RX6 59 7 6 := ⟨RX6, TX6, 14, "PurseWorldModel", wsX6_authorise, rfl, by decide, hts, inX6, hown, hts (.fieldLink RX6 59 "PurseWorldModel" "messages" "I") (by decide +kernel), fun _ h => h⟩
  have lp_41 : zLp ss mi aa mh RX6 41 7 0 .int := ⟨RX6, TX6, 14, "PurseWorldModel", wsX6_authorise, tyX6, rfl, by decide, hts, inX6, hown, hts (.fieldLink RX6 41 "PurseWorldModel" "code" "I") (by decide +kernel), fun _ h => h, tyX6_ok, nmX6, by decide +kernel, Or.inl rfl⟩
  have loop : ∀ (n i : Nat) (b : Int32) (S1 : PS), mE M - i < n → i ≤ mE M → inR x (mP M) → b = bI ((List.range i).any (fun j => decide (mA M 7 j = x))) → RX S S1 m A M → RF S1 S1 m A M → ZW pp l ee rm_X6_authorise ss mi aa bl mh cd D cI cZ cO (zA cI cZ cO S ss.heap.size) (MQ bl (zQi D cI cZ cO S (fun r S' => rP S m A (oAuth M x) r S') ss.heap.size) aa ss rm_X6_authorise.cells rm_X6_authorise.slots (zA cI cZ cO S ss.heap.size)) [] 4 S1 0 0 30 [some (.ref m), some (.int x), some (.int b), some (.int (nI i))] [] := by
    intro n
    induction n with
    | zero => intro i b S1 h; exact absurd h (Nat.not_lt_zero _)
    | succ n ih =>
      intro i b S1 hm hi g1 hb hX0 hR
      have := MI_p hI; have := MI_m hI; have := MI_e hI
      refine z_iload_n h0 dX6_authorise_30 rfl ?_
      refine z_aload_n h0 dX6_authorise_31 rfl ?_
      refine z_getSE h0 hR fI18 lk_56 dX6_authorise_32 ?_
      refine z_icmp_ge (tgt := 64) h0 dX6_authorise_35 (by decide) (fun h35 => ?_) (fun h35 => ?_)
      · rw [Nat.le_antisymm hi (nI_geof h35 (by omega) (by omega))] at hb
        refine z_aload_n h0 dX6_authorise_64 rfl ?_
        refine z_iload_n h0 dX6_authorise_65 rfl ?_
        refine z_if_ne (tgt := 73) h0 dX6_authorise_66 (by decide) (fun h66 => ?_) (fun h66 => ?_)
        · refine z_aload_n h0 dX6_authorise_73 rfl ?_
          refine z_getSM h0 hR fI17 lk_59 dX6_authorise_74 ?_
          refine z_sipush (v := 800) h0 dX6_authorise_77 (by decide) ?_
          refine z_icmp_ne (tgt := 87) h0 dX6_authorise_80 (by decide) (fun h80 => ?_) (fun h80 => ?_)
          · refine z_iconst (v := 0) h0 dX6_authorise_87 (by decide) ?_
            refine z_putC h0 hR.1 fI15 lp_41 dX6_authorise_88 (fun S88 hX hR hcode => ?_)
            refine z_aload_n h0 dX6_authorise_91 rfl ?_
            refine z_getI h0 fI15 lk_41 dX6_authorise_92 (RF_m hR) ?_
            refine z_top hcode ?_
            refine z_if_le (tgt := 100) h0 dX6_authorise_95 (by decide) (fun h95 => ?_) (fun h95 => absurd (by decide) h95)
            have hm8 : mM M < 800 := Nat.lt_of_le_of_ne (by omega) (fun z => h80 (by rw [z]; rfl))
            refine z_aload_n h0 dX6_authorise_100 rfl ?_
            refine z_bipush (v := 72) h0 dX6_authorise_101 (by decide) ?_
            refine z_aload_n h0 dX6_authorise_103 rfl ?_
            refine z_getSM h0 hR fI17 lk_59 dX6_authorise_104 ?_
            refine z_iadd h0 dX6_authorise_107 ?_
            refine z_top (y := nI (72 + mM M)) (by rw [zc72, nI_add]) ?_
            refine z_iconst (v := -1) h0 dX6_authorise_108 (by decide) ?_
            refine z_iconst (v := -1) h0 dX6_authorise_109 (by decide) ?_
            refine z_iconst (v := -1) h0 dX6_authorise_110 (by decide) ?_
            refine z_iconst (v := -1) h0 dX6_authorise_111 (by decide) ?_
            refine z_iconst (v := -1) h0 dX6_authorise_112 (by decide) ?_
            refine z_cVv (n := 6) (As := [_, _, _, _, _, _]) h0 hts hown (c_X6_lay (RF_refl hR) (q := 72 + mM M) (by omega)) gX6_authorise_X6_lay rfl (by decide +kernel) ⟨Nat.le_of_ble_eq_true rfl, Nat.le_of_ble_eq_true rfl⟩ kOk6 rfl (RF_m hR) dX6_authorise_113 rfl rfl (Nat.le_of_ble_eq_true rfl) ⟨Nat.le_of_ble_eq_true rfl, Nat.le_of_ble_eq_true rfl⟩ (fun S113 hp113 => ?_)
            have hR := RF_trans hR hp113
            refine z_aload_n h0 dX6_authorise_116 rfl ?_
            refine z_getA h0 hR 6 (by decide) fO16 rfl lk_28 dX6_authorise_117 ?_
            refine z_aload_n h0 dX6_authorise_120 rfl ?_
            refine z_getSM h0 hR fI17 lk_59 dX6_authorise_121 ?_
            refine z_aload_n h0 dX6_authorise_124 rfl ?_
            refine z_getSE h0 hR fI18 lk_56 dX6_authorise_125 ?_
            refine z_iastR h0 hR 6 (by decide) rfl dX6_authorise_128 (nI_toInt (show mM M < 2 ^ 31 by omega)) (show mM M < 800 by omega) (fun hR => ?_)
            refine z_aload_n h0 dX6_authorise_129 rfl ?_
            refine z_bipush (v := 6) h0 dX6_authorise_130 (by decide) ?_
            refine z_iload_n h0 dX6_authorise_132 rfl ?_
            refine z_bipush (v := 72) h0 dX6_authorise_133 (by decide) ?_
            refine z_aload_n h0 dX6_authorise_135 rfl ?_
            refine z_getSM h0 hR fI17 lk_59 dX6_authorise_136 ?_
            refine z_iadd h0 dX6_authorise_139 ?_
            refine z_top (y := nI (72 + mM M)) (by rw [zc72]; exact nI_add _ _) ?_
            refine z_cVv (n := 3) (As := [_, _, _]) h0 hts hown (c_X6_send (RF_refl hR) (show mM M < 800 by omega) (q := 72 + mM M) (by omega)) gX6_authorise_X6_send rfl (by decide +kernel) ⟨Nat.le_of_ble_eq_true rfl, Nat.le_of_ble_eq_true rfl⟩ kOk6 rfl (RF_m hR) dX6_authorise_140 rfl rfl (Nat.le_of_ble_eq_true rfl) ⟨Nat.le_of_ble_eq_true rfl, Nat.le_of_ble_eq_true rfl⟩ (fun S140 hp140 => ?_)
            have hR := RF_trans hR hp140
            refine z_aload_n h0 dX6_authorise_143 rfl ?_
            refine z_getSM h0 hR fI17 lk_59 dX6_authorise_144 ?_
            refine z_iconst (v := 1) h0 dX6_authorise_147 (by decide) ?_
            refine z_isub h0 dX6_authorise_148 ?_
            refine z_top (y := nI (mM M)) (nI_pred _) ?_
            exact z_iret h0 hr hlk dX6_authorise_149 (Nat.le_of_ble_eq_true rfl) (Nat.le_of_ble_eq_true rfl) (rP_yes (by unfold oAuth; rw [if_neg (fun z => z g1), if_neg (fun z => z (bI_t hb h66)), if_neg (by omega)]) (RX_trans hX0 (RX_trans hX hR.1)) (hR.2.trans hcode))
          · refine z_iconst (v := 3) h0 dX6_authorise_83 (by decide) ?_
            refine z_goto (tgt := 88) h0 dX6_authorise_84 (by decide) ?_
            refine z_putC h0 hR.1 fI15 lp_41 dX6_authorise_88 (fun S88 hX hR hcode => ?_)
            refine z_aload_n h0 dX6_authorise_91 rfl ?_
            refine z_getI h0 fI15 lk_41 dX6_authorise_92 (RF_m hR) ?_
            refine z_top hcode ?_
            refine z_if_le (tgt := 100) h0 dX6_authorise_95 (by decide) (fun h95 => absurd h95 (by decide)) (fun h95 => ?_)
            refine z_iconst (v := 0) h0 dX6_authorise_98 (by decide) ?_
            exact z_iret h0 hr hlk dX6_authorise_99 (Nat.le_of_ble_eq_true rfl) (Nat.le_of_ble_eq_true rfl) (by first | exact rP_no (c := 1) (by unfold oAuth; rw [if_neg (fun z => z g1), if_pos (by rw [bI_f hb h66]; decide)]) (RX_trans hX0 hX) hcode | exact rP_no (c := 2) (by unfold oAuth; rw [if_neg (fun z => z g1), if_neg (fun z => z (bI_t hb h66)), if_pos ((nI_eq (b := 800) (by omega) (by decide)).mp h80)]) (RX_trans hX0 hX) hcode)
        · refine z_iconst (v := 2) h0 dX6_authorise_69 (by decide) ?_
          refine z_goto (tgt := 88) h0 dX6_authorise_70 (by decide) ?_
          refine z_putC h0 hR.1 fI15 lp_41 dX6_authorise_88 (fun S88 hX hR hcode => ?_)
          refine z_aload_n h0 dX6_authorise_91 rfl ?_
          refine z_getI h0 fI15 lk_41 dX6_authorise_92 (RF_m hR) ?_
          refine z_top hcode ?_
          refine z_if_le (tgt := 100) h0 dX6_authorise_95 (by decide) (fun h95 => absurd h95 (by decide)) (fun h95 => ?_)
          refine z_iconst (v := 0) h0 dX6_authorise_98 (by decide) ?_
          exact z_iret h0 hr hlk dX6_authorise_99 (Nat.le_of_ble_eq_true rfl) (Nat.le_of_ble_eq_true rfl) (by first | exact rP_no (c := 1) (by unfold oAuth; rw [if_neg (fun z => z g1), if_pos (by rw [bI_f hb h66]; decide)]) (RX_trans hX0 hX) hcode | exact rP_no (c := 2) (by unfold oAuth; rw [if_neg (fun z => z g1), if_neg (fun z => z (bI_t hb h66)), if_pos ((nI_eq (b := 800) (by omega) (by decide)).mp h80)]) (RX_trans hX0 hX) hcode)
      · have hlt : i < mE M := nI_ltof h35 (by omega)
        refine z_iload_n h0 dX6_authorise_38 rfl ?_
        refine z_if_ne (tgt := 52) h0 dX6_authorise_39 (by decide) (fun h39 => ?_) (fun h39 => ?_)
        · refine z_iconst (v := 1) h0 dX6_authorise_52 (by decide) ?_
          refine z_goto (tgt := 57) h0 dX6_authorise_53 (by decide) ?_
          refine z_istore_n (lo' := [_, _, _, _]) h0 dX6_authorise_57 (by decide) rfl rfl ?_
          refine z_iinc (lo' := [_, _, _, _]) (v := nI (i + 1)) h0 dX6_authorise_58 rfl (nI_1 i) (by decide) rfl rfl ?_
          refine z_goto (tgt := 30) h0 dX6_authorise_61 (by decide) ?_
          exact ih (i + 1) 1 _ (by omega) (by omega) g1 (by rw [any_s]; exact or_t1 hb h39) hX0 hR
        · refine z_aload_n h0 dX6_authorise_42 rfl ?_
          refine z_getA h0 hR 7 (by decide) fO17 rfl lk_31 dX6_authorise_43 ?_
          refine z_iload_n h0 dX6_authorise_46 rfl ?_
          refine z_ialdR h0 hR 7 (by decide) rfl dX6_authorise_47 (nI_toInt (by first | omega | (dsimp only [sA, sT, mP, mM, mE] at *; omega))) (by simp only [rLen]; first | omega | (dsimp only [sA, sT, mP, mM, mE] at *; omega)) ?_
          refine z_iload_n h0 dX6_authorise_48 rfl ?_
          refine z_icmp_ne (tgt := 56) h0 dX6_authorise_49 (by decide) (fun h49 => ?_) (fun h49 => ?_)
          · refine z_iconst (v := 0) h0 dX6_authorise_56 (by decide) ?_
            refine z_istore_n (lo' := [_, _, _, _]) h0 dX6_authorise_57 (by decide) rfl rfl ?_
            refine z_iinc (lo' := [_, _, _, _]) (v := nI (i + 1)) h0 dX6_authorise_58 rfl (nI_1 i) (by decide) rfl rfl ?_
            refine z_goto (tgt := 30) h0 dX6_authorise_61 (by decide) ?_
            exact ih (i + 1) 0 _ (by omega) (by omega) g1 (by rw [any_s]; exact or_f hb h39 (decide_eq_false h49)) hX0 hR
          · refine z_iconst (v := 1) h0 dX6_authorise_52 (by decide) ?_
            refine z_goto (tgt := 57) h0 dX6_authorise_53 (by decide) ?_
            refine z_istore_n (lo' := [_, _, _, _]) h0 dX6_authorise_57 (by decide) rfl rfl ?_
            refine z_iinc (lo' := [_, _, _, _]) (v := nI (i + 1)) h0 dX6_authorise_58 rfl (nI_1 i) (by decide) rfl rfl ?_
            refine z_goto (tgt := 30) h0 dX6_authorise_61 (by decide) ?_
            exact ih (i + 1) 1 _ (by omega) (by omega) g1 (by rw [any_s]; exact or_t2 (decide_eq_true h49)) hX0 hR
  refine z_aload_n h0 dX6_authorise_0 rfl ?_
  refine z_aload_n h0 dX6_authorise_1 rfl ?_
  refine z_iload_n h0 dX6_authorise_2 rfl ?_
  refine z_cVi (n := 1) (As := [_]) h0 hts hown (c_X6_isPurse hR (by have := MI_p hI; omega)) gX6_authorise_X6_isPurse rfl (by decide +kernel) ⟨Nat.le_of_ble_eq_true rfl, Nat.le_of_ble_eq_true rfl⟩ kOk6 rfl (RF_m hR) dX6_authorise_3 rfl rfl (Nat.le_of_ble_eq_true rfl) ⟨Nat.le_of_ble_eq_true rfl, Nat.le_of_ble_eq_true rfl⟩ (fun r3 S3 hp3 => ?_)
  obtain ⟨rfl, hr3⟩ := hp3
  refine z_if_eq (tgt := 13) h0 dX6_authorise_6 (by decide) (fun h6 => ?_) (fun h6 => ?_)
  · refine z_iconst (v := 1) h0 dX6_authorise_13 (by decide) ?_
    refine z_putC h0 hR.1 fI15 lp_41 dX6_authorise_14 (fun S14 hX hR hcode => ?_)
    refine z_aload_n h0 dX6_authorise_17 rfl ?_
    refine z_getI h0 fI15 lk_41 dX6_authorise_18 (RF_m hR) ?_
    refine z_top hcode ?_
    refine z_if_le (tgt := 26) h0 dX6_authorise_21 (by decide) (fun h21 => absurd h21 (by decide)) (fun h21 => ?_)
    refine z_iconst (v := 0) h0 dX6_authorise_24 (by decide) ?_
    exact z_iret h0 hr hlk dX6_authorise_25 (Nat.le_of_ble_eq_true rfl) (Nat.le_of_ble_eq_true rfl) (rP_no (c := 0) (by unfold oAuth; rw [if_pos (ite_f hr3 h6)]) hX hcode)
  · refine z_iconst (v := 0) h0 dX6_authorise_9 (by decide) ?_
    refine z_goto (tgt := 14) h0 dX6_authorise_10 (by decide) ?_
    refine z_putC h0 hR.1 fI15 lp_41 dX6_authorise_14 (fun S14 hX hR hcode => ?_)
    refine z_aload_n h0 dX6_authorise_17 rfl ?_
    refine z_getI h0 fI15 lk_41 dX6_authorise_18 (RF_m hR) ?_
    refine z_top hcode ?_
    refine z_if_le (tgt := 26) h0 dX6_authorise_21 (by decide) (fun h21 => ?_) (fun h21 => absurd (by decide) h21)
    refine z_iconst (v := 0) h0 dX6_authorise_26 (by decide) ?_
    refine z_istore_n (lo' := [_, _, _, _]) h0 dX6_authorise_27 (by decide) rfl rfl ?_
    refine z_iconst (v := 0) h0 dX6_authorise_28 (by decide) ?_
    refine z_istore_n (lo' := [_, _, _, _]) h0 dX6_authorise_29 (by decide) rfl rfl ?_
    exact loop (mE M + 1) 0 0 _ (by omega) (Nat.zero_le _) (ite_t hr3 h6) rfl hX hR

abbrev rm_X6_refund : Room := { frames := 2, cells := 0, slots := 0, locals := 49 }
set_option maxRecDepth 100000 in
set_option maxHeartbeats 4000000 in
theorem c_X6_refund {l : Launch} {D : va_G} {cI cZ cO : ClassId} {G : Nat → Nat} {S : PS} {m c : Nat} {A : Nat → Nat} {M : MS} (hR : RF S S m A M) (hI : MI c M) (hc : c < 512) {x : Int32} : zMi l yX6_refund wsX6_refund rm_X6_refund [.ref m, .int x] D cI cZ cO G S (fun r S' => rP S m A (oRefund M x) r S') := by
  refine z_of (cc := cX6_refund) (maxL := 4) (ret := (some .int)) (lo := [some (.ref m), some (.int x), none, none]) (by decide) rfl rfl (Nat.le_of_ble_eq_true rfl) rfl ?_
  intro pp ee ss mi aa bl mh cd h0 hts hown hr hlk hnm
  have hown : ss.vm.findClass RX6 = some mi.cls := hown
  have inX6 : ∀ w ∈ u_ws RX6 TX6 14, w ∈ wsX6_refund := by decide +kernel
  have lk_7 : zLk ss mi aa RX6 7 7 2 := ⟨RX6, TX6, 14, "PurseWorldModel", wsX6_refund, rfl, by decide, hts, inX6, hown, hts (.fieldLink RX6 7 "PurseWorldModel" "balances" "[I") (by decide +kernel), fun _ h => h⟩
  have lk_34 : zLk ss mi aa RX6 34 7 12 := ⟨RX6, TX6, 14, "PurseWorldModel", wsX6_refund, rfl, by decide, hts, inX6, hown, hts (.fieldLink RX6 34 "PurseWorldModel" "refunded" "[Z") (by decide +kernel), fun _ h => h⟩
  have lk_41 : zLk ss mi aa RX6 41 7 0 := ⟨RX6, TX6, 14, "PurseWorldModel", wsX6_refund, rfl, by decide, hts, inX6, hown, hts (.fieldLink RX6 41 "PurseWorldModel" "code" "I") (by decide +kernel), fun _ h => h⟩
  have lk_56 : zLk ss mi aa RX6 56 7 10 := ⟨RX6, TX6, 14, "PurseWorldModel", wsX6_refund, rfl, by decide, hts, inX6, hown, hts (.fieldLink RX6 56 "PurseWorldModel" "entries" "I") (by decide +kernel), fun _ h => h⟩
  have lp_41 : zLp ss mi aa mh RX6 41 7 0 .int := ⟨RX6, TX6, 14, "PurseWorldModel", wsX6_refund, tyX6, rfl, by decide, hts, inX6, hown, hts (.fieldLink RX6 41 "PurseWorldModel" "code" "I") (by decide +kernel), fun _ h => h, tyX6_ok, nmX6, by decide +kernel, Or.inl rfl⟩
  refine z_aload_n h0 dX6_refund_0 rfl ?_
  refine z_iload_n h0 dX6_refund_1 rfl ?_
  refine z_iconst (v := 0) h0 dX6_refund_2 (by decide) ?_
  refine z_aload_n h0 dX6_refund_3 rfl ?_
  refine z_getSE h0 hR fI18 lk_56 dX6_refund_4 ?_
  refine z_iconst (v := 1) h0 dX6_refund_7 (by decide) ?_
  refine z_isub h0 dX6_refund_8 ?_
  refine z_cSi (n := 3) (As := [_, _, _]) h0 hts hown c_X6_in gX6_refund_X6_in rfl (by decide +kernel) ⟨Nat.le_of_ble_eq_true rfl, Nat.le_of_ble_eq_true rfl⟩ dX6_refund_9 rfl rfl (Nat.le_of_ble_eq_true rfl) ⟨Nat.le_of_ble_eq_true rfl, Nat.le_of_ble_eq_true rfl⟩ (fun r9 S9 hp9 => ?_)
  obtain ⟨rfl, hr9⟩ := hp9
  simp only [isP_iff (n := mE M) (by have := MI_p hI; have := MI_m hI; have := MI_e hI; omega)] at hr9
  refine z_if_eq (tgt := 19) h0 dX6_refund_12 (by decide) (fun h12 => ?_) (fun h12 => ?_)
  · refine z_iconst (v := 1) h0 dX6_refund_19 (by decide) ?_
    refine z_putC h0 hR.1 fI15 lp_41 dX6_refund_20 (fun S20 hX hR hcode => ?_)
    refine z_aload_n h0 dX6_refund_23 rfl ?_
    refine z_getI h0 fI15 lk_41 dX6_refund_24 (RF_m hR) ?_
    refine z_top hcode ?_
    refine z_if_le (tgt := 32) h0 dX6_refund_27 (by decide) (fun h27 => absurd h27 (by decide)) (fun h27 => ?_)
    refine z_iconst (v := 0) h0 dX6_refund_30 (by decide) ?_
    exact z_iret h0 hr hlk dX6_refund_31 (Nat.le_of_ble_eq_true rfl) (Nat.le_of_ble_eq_true rfl) (rP_no (c := 0) (by unfold oRefund; rw [if_pos (ite_f hr9 h12)]) hX hcode)
  · refine z_iconst (v := 0) h0 dX6_refund_15 (by decide) ?_
    refine z_goto (tgt := 20) h0 dX6_refund_16 (by decide) ?_
    refine z_putC h0 hR.1 fI15 lp_41 dX6_refund_20 (fun S20 hX hR hcode => ?_)
    refine z_aload_n h0 dX6_refund_23 rfl ?_
    refine z_getI h0 fI15 lk_41 dX6_refund_24 (RF_m hR) ?_
    refine z_top hcode ?_
    refine z_if_le (tgt := 32) h0 dX6_refund_27 (by decide) (fun h27 => ?_) (fun h27 => absurd (by decide) h27)
    have := MI_p hI; have := MI_m hI; have := MI_e hI
    have hX0 := hX
    have g1 := ite_t hr9 h12
    obtain ⟨k, hk, rfl⟩ := inR_nI g1 (by omega)
    have e1 := ix_of (x := nI k) rfl (by omega)
    obtain ⟨pa, pb, hpa, hpb, hab, ea, eb⟩ := (hI.2.2.2.2.2.2.1 k hk).1
    have e2 := ix_of ea (by omega)
    refine z_sipush (v := 872) h0 dX6_refund_32 (by decide) ?_
    refine z_iload_n h0 dX6_refund_35 rfl ?_
    refine z_iadd h0 dX6_refund_36 ?_
    refine z_top (y := nI (872 + k)) (by rw [zc872, nI_add]) ?_
    refine z_istore_n (lo' := [_, _, _, _]) h0 dX6_refund_37 (by decide) rfl rfl ?_
    refine z_aload_n h0 dX6_refund_38 rfl ?_
    refine z_aload_n h0 dX6_refund_39 rfl ?_
    refine z_iload_n h0 dX6_refund_40 rfl ?_
    refine z_iconst (v := 0) h0 dX6_refund_41 (by decide) ?_
    refine z_cVi (n := 2) (As := [_, _]) h0 hts hown (c_X6_part (RF_refl hR) (p := 872 + k) (k := 0) (by omega) (by decide)) gX6_refund_X6_part rfl (by decide +kernel) ⟨Nat.le_of_ble_eq_true rfl, Nat.le_of_ble_eq_true rfl⟩ kOk6 rfl (RF_m hR) dX6_refund_42 rfl rfl (Nat.le_of_ble_eq_true rfl) ⟨Nat.le_of_ble_eq_true rfl, Nat.le_of_ble_eq_true rfl⟩ (fun r42 S42 hp42 => ?_)
    obtain ⟨rfl, hr42⟩ := hp42
    subst hr42
    refine z_iload_n h0 dX6_refund_45 rfl ?_
    refine z_aload_n h0 dX6_refund_46 rfl ?_
    refine z_getSE h0 hR fI18 lk_56 dX6_refund_47 ?_
    refine z_cVi (n := 3) (As := [_, _, _]) h0 hts hown (c_X6_isKept (RF_refl hR) (q := 872 + k) (by omega) (k := mE M) (by omega)) gX6_refund_X6_isKept rfl (by decide +kernel) ⟨Nat.le_of_ble_eq_true rfl, Nat.le_of_ble_eq_true rfl⟩ kOk6 rfl (RF_m hR) dX6_refund_50 rfl rfl (Nat.le_of_ble_eq_true rfl) ⟨Nat.le_of_ble_eq_true rfl, Nat.le_of_ble_eq_true rfl⟩ (fun r50 S50 hp50 => ?_)
    obtain ⟨rfl, hr50⟩ := hp50
    refine z_if_eq (tgt := 78) h0 dX6_refund_53 (by decide) (fun h53 => ?_) (fun h53 => ?_)
    · refine z_iconst (v := 0) h0 dX6_refund_78 (by decide) ?_
      refine z_istore_n (lo' := [_, _, _, _]) h0 dX6_refund_79 (by decide) rfl rfl ?_
      refine z_aload_n h0 dX6_refund_80 rfl ?_
      refine z_iload_n h0 dX6_refund_81 rfl ?_
      refine z_if_eq (tgt := 97) h0 dX6_refund_82 (by decide) (fun h82 => ?_) (fun h82 => absurd (by decide) h82)
      refine z_iconst (v := 2) h0 dX6_refund_97 (by decide) ?_
      refine z_putC h0 hR.1 fI15 lp_41 dX6_refund_98 (fun S98 hX hR hcode => ?_)
      refine z_aload_n h0 dX6_refund_101 rfl ?_
      refine z_getI h0 fI15 lk_41 dX6_refund_102 (RF_m hR) ?_
      refine z_top hcode ?_
      refine z_if_le (tgt := 110) h0 dX6_refund_105 (by decide) (fun h105 => absurd h105 (by decide)) (fun h105 => ?_)
      refine z_iconst (v := 0) h0 dX6_refund_108 (by decide) ?_
      exact z_iret h0 hr hlk dX6_refund_109 (Nat.le_of_ble_eq_true rfl) (Nat.le_of_ble_eq_true rfl) (by first | exact rP_no (c := 1) (by unfold oRefund; rw [if_neg (fun z => z g1), e1, if_pos (fun z => by have := bI_f hr50 h53; unfold kpt at z; rw [this] at z; exact nomatch z.1.1)]) (RX_trans hX0 hX) hcode | exact rP_no (c := 1) (by unfold oRefund; rw [if_neg (fun z => z g1), e1, if_pos (fun z => by have := bI_f hr68 h71; unfold kpt at z; rw [this] at z; exact nomatch z.1.2)]) (RX_trans hX0 hX) hcode | exact rP_no (c := 1) (by unfold oRefund; rw [if_neg (fun z => z g1), e1, if_pos (fun z => by have := bI_t hr87 h90; unfold rfd at z; rw [this] at z; exact nomatch z.2)]) (RX_trans hX0 hX) hcode)
    · refine z_aload_n h0 dX6_refund_56 rfl ?_
      refine z_aload_n h0 dX6_refund_57 rfl ?_
      refine z_iload_n h0 dX6_refund_58 rfl ?_
      refine z_iconst (v := 2) h0 dX6_refund_59 (by decide) ?_
      refine z_cVi (n := 2) (As := [_, _]) h0 hts hown (c_X6_part (RF_refl hR) (p := 872 + k) (k := 2) (by omega) (by decide)) gX6_refund_X6_part rfl (by decide +kernel) ⟨Nat.le_of_ble_eq_true rfl, Nat.le_of_ble_eq_true rfl⟩ kOk6 rfl (RF_m hR) dX6_refund_60 rfl rfl (Nat.le_of_ble_eq_true rfl) ⟨Nat.le_of_ble_eq_true rfl, Nat.le_of_ble_eq_true rfl⟩ (fun r60 S60 hp60 => ?_)
      obtain ⟨rfl, hr60⟩ := hp60
      subst hr60
      refine z_iload_n h0 dX6_refund_63 rfl ?_
      refine z_aload_n h0 dX6_refund_64 rfl ?_
      refine z_getSE h0 hR fI18 lk_56 dX6_refund_65 ?_
      refine z_cVi (n := 3) (As := [_, _, _]) h0 hts hown (c_X6_isKept (RF_refl hR) (q := 872 + k) (by omega) (k := mE M) (by omega)) gX6_refund_X6_isKept rfl (by decide +kernel) ⟨Nat.le_of_ble_eq_true rfl, Nat.le_of_ble_eq_true rfl⟩ kOk6 rfl (RF_m hR) dX6_refund_68 rfl rfl (Nat.le_of_ble_eq_true rfl) ⟨Nat.le_of_ble_eq_true rfl, Nat.le_of_ble_eq_true rfl⟩ (fun r68 S68 hp68 => ?_)
      obtain ⟨rfl, hr68⟩ := hp68
      refine z_if_eq (tgt := 78) h0 dX6_refund_71 (by decide) (fun h71 => ?_) (fun h71 => ?_)
      · refine z_iconst (v := 0) h0 dX6_refund_78 (by decide) ?_
        refine z_istore_n (lo' := [_, _, _, _]) h0 dX6_refund_79 (by decide) rfl rfl ?_
        refine z_aload_n h0 dX6_refund_80 rfl ?_
        refine z_iload_n h0 dX6_refund_81 rfl ?_
        refine z_if_eq (tgt := 97) h0 dX6_refund_82 (by decide) (fun h82 => ?_) (fun h82 => absurd (by decide) h82)
        refine z_iconst (v := 2) h0 dX6_refund_97 (by decide) ?_
        refine z_putC h0 hR.1 fI15 lp_41 dX6_refund_98 (fun S98 hX hR hcode => ?_)
        refine z_aload_n h0 dX6_refund_101 rfl ?_
        refine z_getI h0 fI15 lk_41 dX6_refund_102 (RF_m hR) ?_
        refine z_top hcode ?_
        refine z_if_le (tgt := 110) h0 dX6_refund_105 (by decide) (fun h105 => absurd h105 (by decide)) (fun h105 => ?_)
        refine z_iconst (v := 0) h0 dX6_refund_108 (by decide) ?_
        exact z_iret h0 hr hlk dX6_refund_109 (Nat.le_of_ble_eq_true rfl) (Nat.le_of_ble_eq_true rfl) (by first | exact rP_no (c := 1) (by unfold oRefund; rw [if_neg (fun z => z g1), e1, if_pos (fun z => by have := bI_f hr50 h53; unfold kpt at z; rw [this] at z; exact nomatch z.1.1)]) (RX_trans hX0 hX) hcode | exact rP_no (c := 1) (by unfold oRefund; rw [if_neg (fun z => z g1), e1, if_pos (fun z => by have := bI_f hr68 h71; unfold kpt at z; rw [this] at z; exact nomatch z.1.2)]) (RX_trans hX0 hX) hcode | exact rP_no (c := 1) (by unfold oRefund; rw [if_neg (fun z => z g1), e1, if_pos (fun z => by have := bI_t hr87 h90; unfold rfd at z; rw [this] at z; exact nomatch z.2)]) (RX_trans hX0 hX) hcode)
      · refine z_iconst (v := 1) h0 dX6_refund_74 (by decide) ?_
        refine z_goto (tgt := 79) h0 dX6_refund_75 (by decide) ?_
        refine z_istore_n (lo' := [_, _, _, _]) h0 dX6_refund_79 (by decide) rfl rfl ?_
        refine z_aload_n h0 dX6_refund_80 rfl ?_
        refine z_iload_n h0 dX6_refund_81 rfl ?_
        refine z_if_eq (tgt := 97) h0 dX6_refund_82 (by decide) (fun h82 => absurd h82 (by decide)) (fun h82 => ?_)
        refine z_aload_n h0 dX6_refund_85 rfl ?_
        refine z_iload_n h0 dX6_refund_86 rfl ?_
        refine z_cVi (n := 1) (As := [_]) h0 hts hown (c_X6_isRefunded (RF_refl hR) (q := 872 + k) (by omega) (by omega)) gX6_refund_X6_isRefunded rfl (by decide +kernel) ⟨Nat.le_of_ble_eq_true rfl, Nat.le_of_ble_eq_true rfl⟩ kOk6 rfl (RF_m hR) dX6_refund_87 rfl rfl (Nat.le_of_ble_eq_true rfl) ⟨Nat.le_of_ble_eq_true rfl, Nat.le_of_ble_eq_true rfl⟩ (fun r87 S87 hp87 => ?_)
        obtain ⟨rfl, hr87⟩ := hp87
        refine z_if_ne (tgt := 97) h0 dX6_refund_90 (by decide) (fun h90 => ?_) (fun h90 => ?_)
        · refine z_iconst (v := 2) h0 dX6_refund_97 (by decide) ?_
          refine z_putC h0 hR.1 fI15 lp_41 dX6_refund_98 (fun S98 hX hR hcode => ?_)
          refine z_aload_n h0 dX6_refund_101 rfl ?_
          refine z_getI h0 fI15 lk_41 dX6_refund_102 (RF_m hR) ?_
          refine z_top hcode ?_
          refine z_if_le (tgt := 110) h0 dX6_refund_105 (by decide) (fun h105 => absurd h105 (by decide)) (fun h105 => ?_)
          refine z_iconst (v := 0) h0 dX6_refund_108 (by decide) ?_
          exact z_iret h0 hr hlk dX6_refund_109 (Nat.le_of_ble_eq_true rfl) (Nat.le_of_ble_eq_true rfl) (by first | exact rP_no (c := 1) (by unfold oRefund; rw [if_neg (fun z => z g1), e1, if_pos (fun z => by have := bI_f hr50 h53; unfold kpt at z; rw [this] at z; exact nomatch z.1.1)]) (RX_trans hX0 hX) hcode | exact rP_no (c := 1) (by unfold oRefund; rw [if_neg (fun z => z g1), e1, if_pos (fun z => by have := bI_f hr68 h71; unfold kpt at z; rw [this] at z; exact nomatch z.1.2)]) (RX_trans hX0 hX) hcode | exact rP_no (c := 1) (by unfold oRefund; rw [if_neg (fun z => z g1), e1, if_pos (fun z => by have := bI_t hr87 h90; unfold rfd at z; rw [this] at z; exact nomatch z.2)]) (RX_trans hX0 hX) hcode)
        · refine z_iconst (v := 0) h0 dX6_refund_93 (by decide) ?_
          refine z_goto (tgt := 98) h0 dX6_refund_94 (by decide) ?_
          refine z_putC h0 hR.1 fI15 lp_41 dX6_refund_98 (fun S98 hX hR hcode => ?_)
          refine z_aload_n h0 dX6_refund_101 rfl ?_
          refine z_getI h0 fI15 lk_41 dX6_refund_102 (RF_m hR) ?_
          refine z_top hcode ?_
          refine z_if_le (tgt := 110) h0 dX6_refund_105 (by decide) (fun h105 => ?_) (fun h105 => absurd (by decide) h105)
          refine z_aload_n h0 dX6_refund_110 rfl ?_
          refine z_getA h0 hR 8 (by decide) fO18 rfl lk_34 dX6_refund_111 ?_
          refine z_iload_n h0 dX6_refund_114 rfl ?_
          refine z_iconst (v := 1) h0 dX6_refund_115 (by decide) ?_
          refine z_zastR h0 hR dX6_refund_116 (nI_toInt (by first | omega | (dsimp only [sA, sT, mP, mM, mE] at *; omega))) (by first | omega | (dsimp only [sA, sT, mP, mM, mE] at *; omega)) rfl (fun hR => ?_)
          refine z_aload_n h0 dX6_refund_117 rfl ?_
          refine z_getA h0 hR 0 (by decide) fO10 rfl lk_7 dX6_refund_118 ?_
          refine z_aload_n h0 dX6_refund_121 rfl ?_
          refine z_iload_n h0 dX6_refund_122 rfl ?_
          refine z_iconst (v := 0) h0 dX6_refund_123 (by decide) ?_
          refine z_cVi (n := 2) (As := [_, _]) h0 hts hown (c_X6_part (RF_refl hR) (p := 872 + k) (k := 0) (by omega) (by decide)) gX6_refund_X6_part rfl (by decide +kernel) ⟨Nat.le_of_ble_eq_true rfl, Nat.le_of_ble_eq_true rfl⟩ kOk6 rfl (RF_m hR) dX6_refund_124 rfl rfl (Nat.le_of_ble_eq_true rfl) ⟨Nat.le_of_ble_eq_true rfl, Nat.le_of_ble_eq_true rfl⟩ (fun r124 S124 hp124 => ?_)
          obtain ⟨rfl, hr124⟩ := hp124
          subst hr124
          refine z_dup2 h0 dX6_refund_127 rfl rfl ?_
          refine z_ialdR h0 hR 0 (by decide) rfl dX6_refund_128 (j := pa) (by rw [show part 0 (mT M (872 + k)) = nI pa from ea]; exact nI_toInt (by omega)) (show pa < 12 by omega) ?_
          refine z_aload_n h0 dX6_refund_129 rfl ?_
          refine z_iload_n h0 dX6_refund_130 rfl ?_
          refine z_iconst (v := 4) h0 dX6_refund_131 (by decide) ?_
          refine z_cVi (n := 2) (As := [_, _]) h0 hts hown (c_X6_part (RF_refl hR) (p := 872 + k) (k := 4) (by omega) (by decide)) gX6_refund_X6_part rfl (by decide +kernel) ⟨Nat.le_of_ble_eq_true rfl, Nat.le_of_ble_eq_true rfl⟩ kOk6 rfl (RF_m hR) dX6_refund_132 rfl rfl (Nat.le_of_ble_eq_true rfl) ⟨Nat.le_of_ble_eq_true rfl, Nat.le_of_ble_eq_true rfl⟩ (fun r132 S132 hp132 => ?_)
          obtain ⟨rfl, hr132⟩ := hp132
          subst hr132
          refine z_iadd h0 dX6_refund_135 ?_
          refine z_iastR h0 hR 0 (by decide) rfl dX6_refund_136 (j := pa) (by rw [show part 0 (mT M (872 + k)) = nI pa from ea]; exact nI_toInt (by omega)) (show pa < 12 by omega) (fun hR => ?_)
          refine z_aload_n h0 dX6_refund_137 rfl ?_
          refine z_getA h0 hR 0 (by decide) fO10 rfl lk_7 dX6_refund_138 ?_
          refine z_aload_n h0 dX6_refund_141 rfl ?_
          refine z_iload_n h0 dX6_refund_142 rfl ?_
          refine z_iconst (v := 0) h0 dX6_refund_143 (by decide) ?_
          refine z_cVi (n := 2) (As := [_, _]) h0 hts hown (c_X6_part (RF_refl hR) (p := 872 + k) (k := 0) (by omega) (by decide)) gX6_refund_X6_part rfl (by decide +kernel) ⟨Nat.le_of_ble_eq_true rfl, Nat.le_of_ble_eq_true rfl⟩ kOk6 rfl (RF_m hR) dX6_refund_144 rfl rfl (Nat.le_of_ble_eq_true rfl) ⟨Nat.le_of_ble_eq_true rfl, Nat.le_of_ble_eq_true rfl⟩ (fun r144 S144 hp144 => ?_)
          obtain ⟨rfl, hr144⟩ := hp144
          subst hr144
          refine z_ialdR h0 hR 0 (by decide) rfl dX6_refund_147 (j := pa) (by rw [show part 0 (mT M (872 + k)) = nI pa from ea]; exact nI_toInt (by omega)) (show pa < 12 by omega) ?_
          refine z_top (mA_s (M := sA M 8 k 1)) ?_
          exact z_iret h0 hr hlk dX6_refund_148 (Nat.le_of_ble_eq_true rfl) (Nat.le_of_ble_eq_true rfl) (rP_yes (by unfold oRefund; rw [if_neg (fun z => z g1), e1, if_neg (fun z => z ⟨⟨bI_t hr50 h53, bI_t hr68 h71⟩, bI_f hr87 h90⟩)]; unfold mPay; rw [e2]; rfl) (RX_trans hX0 (RX_trans hX hR.1)) (hR.2.trans hcode))

abbrev rm_X6_told : Room := { frames := 2, cells := 0, slots := 0, locals := 43 }
set_option maxRecDepth 100000 in
set_option maxHeartbeats 4000000 in
theorem c_X6_told {l : Launch} {D : va_G} {cI cZ cO : ClassId} {G : Nat → Nat} {S : PS} {m c : Nat} {A : Nat → Nat} {M : MS} (hR : RF S S m A M) (hI : MI c M) (hc : c < 512) {x w : Int32} : zMi l yX6_told wsX6_told rm_X6_told [.ref m, .int x, .int w] D cI cZ cO G S (fun r S' => rP S m A (oTold M x w) r S') := by
  refine z_of (cc := cX6_told) (maxL := 3) (ret := (some .int)) (lo := [some (.ref m), some (.int x), some (.int w)]) (by decide) rfl rfl (Nat.le_of_ble_eq_true rfl) rfl ?_
  intro pp ee ss mi aa bl mh cd h0 hts hown hr hlk hnm
  have hown : ss.vm.findClass RX6 = some mi.cls := hown
  have inX6 : ∀ w ∈ u_ws RX6 TX6 14, w ∈ wsX6_told := by decide +kernel
  have lk_7 : zLk ss mi aa RX6 7 7 2 := ⟨RX6, TX6, 14, "PurseWorldModel", wsX6_told, rfl, by decide, hts, inX6, hown, hts (.fieldLink RX6 7 "PurseWorldModel" "balances" "[I") (by decide +kernel), fun _ h => h⟩
  have lk_13 : zLk ss mi aa RX6 13 7 3 := ⟨RX6, TX6, 14, "PurseWorldModel", wsX6_told, rfl, by decide, hts, inX6, hown, hts (.fieldLink RX6 13 "PurseWorldModel" "serials" "[I") (by decide +kernel), fun _ h => h⟩
  have lk_16 : zLk ss mi aa RX6 16 7 4 := ⟨RX6, TX6, 14, "PurseWorldModel", wsX6_told, rfl, by decide, hts, inX6, hown, hts (.fieldLink RX6 16 "PurseWorldModel" "states" "[I") (by decide +kernel), fun _ h => h⟩
  have lk_19 : zLk ss mi aa RX6 19 7 5 := ⟨RX6, TX6, 14, "PurseWorldModel", wsX6_told, rfl, by decide, hts, inX6, hown, hts (.fieldLink RX6 19 "PurseWorldModel" "logSize" "[I") (by decide +kernel), fun _ h => h⟩
  have lk_41 : zLk ss mi aa RX6 41 7 0 := ⟨RX6, TX6, 14, "PurseWorldModel", wsX6_told, rfl, by decide, hts, inX6, hown, hts (.fieldLink RX6 41 "PurseWorldModel" "code" "I") (by decide +kernel), fun _ h => h⟩
  have lp_41 : zLp ss mi aa mh RX6 41 7 0 .int := ⟨RX6, TX6, 14, "PurseWorldModel", wsX6_told, tyX6, rfl, by decide, hts, inX6, hown, hts (.fieldLink RX6 41 "PurseWorldModel" "code" "I") (by decide +kernel), fun _ h => h, tyX6_ok, nmX6, by decide +kernel, Or.inl rfl⟩
  refine z_aload_n h0 dX6_told_0 rfl ?_
  refine z_aload_n h0 dX6_told_1 rfl ?_
  refine z_iload_n h0 dX6_told_2 rfl ?_
  refine z_cVi (n := 1) (As := [_]) h0 hts hown (c_X6_isPurse hR (by have := MI_p hI; omega)) gX6_told_X6_isPurse rfl (by decide +kernel) ⟨Nat.le_of_ble_eq_true rfl, Nat.le_of_ble_eq_true rfl⟩ kOk6 rfl (RF_m hR) dX6_told_3 rfl rfl (Nat.le_of_ble_eq_true rfl) ⟨Nat.le_of_ble_eq_true rfl, Nat.le_of_ble_eq_true rfl⟩ (fun r3 S3 hp3 => ?_)
  obtain ⟨rfl, hr3⟩ := hp3
  refine z_if_ne (tgt := 13) h0 dX6_told_6 (by decide) (fun h6 => ?_) (fun h6 => ?_)
  · refine z_iload_n h0 dX6_told_13 rfl ?_
    refine z_iconst (v := 0) h0 dX6_told_14 (by decide) ?_
    refine z_iconst (v := 3) h0 dX6_told_15 (by decide) ?_
    refine z_cSi (n := 3) (As := [_, _, _]) h0 hts hown c_X6_in gX6_told_X6_in rfl (by decide +kernel) ⟨Nat.le_of_ble_eq_true rfl, Nat.le_of_ble_eq_true rfl⟩ dX6_told_16 rfl rfl (Nat.le_of_ble_eq_true rfl) ⟨Nat.le_of_ble_eq_true rfl, Nat.le_of_ble_eq_true rfl⟩ (fun r16 S16 hp16 => ?_)
    obtain ⟨rfl, hr16⟩ := hp16
    refine z_if_eq (tgt := 26) h0 dX6_told_19 (by decide) (fun h19 => ?_) (fun h19 => ?_)
    · refine z_iconst (v := 2) h0 dX6_told_26 (by decide) ?_
      refine z_putC h0 hR.1 fI15 lp_41 dX6_told_27 (fun S27 hX hR hcode => ?_)
      refine z_aload_n h0 dX6_told_30 rfl ?_
      refine z_getI h0 fI15 lk_41 dX6_told_31 (RF_m hR) ?_
      refine z_top hcode ?_
      refine z_if_le (tgt := 39) h0 dX6_told_34 (by decide) (fun h34 => absurd h34 (by decide)) (fun h34 => ?_)
      refine z_iconst (v := 0) h0 dX6_told_37 (by decide) ?_
      exact z_iret h0 hr hlk dX6_told_38 (Nat.le_of_ble_eq_true rfl) (Nat.le_of_ble_eq_true rfl) (by first | exact (rP_no (c := 0) (by unfold oTold; rw [if_pos (ite_f hr3 h6)]) hX hcode) | exact (rP_no (c := 1) (by unfold oTold; rw [if_neg (fun z => z (ite_t hr3 h6)), if_pos (ite_f hr16 h19)]) hX hcode))
    · refine z_iconst (v := 0) h0 dX6_told_22 (by decide) ?_
      refine z_goto (tgt := 27) h0 dX6_told_23 (by decide) ?_
      refine z_putC h0 hR.1 fI15 lp_41 dX6_told_27 (fun S27 hX hR hcode => ?_)
      refine z_aload_n h0 dX6_told_30 rfl ?_
      refine z_getI h0 fI15 lk_41 dX6_told_31 (RF_m hR) ?_
      refine z_top hcode ?_
      refine z_if_le (tgt := 39) h0 dX6_told_34 (by decide) (fun h34 => ?_) (fun h34 => absurd (by decide) h34)
      have := MI_p hI; have := MI_m hI; have := MI_e hI
      have g1 := ite_t hr3 h6
      obtain ⟨a, ha, rfl⟩ := inR_nI g1 (by omega)
      have e1 := ix_of (x := nI a) rfl (by omega)
      refine z_iload_n h0 dX6_told_39 rfl ?_
      refine z_if_ne (tgt := 52) h0 dX6_told_40 (by decide) (fun h40 => ?_) (fun h40 => ?_)
      · refine z_iload_n h0 dX6_told_52 rfl ?_
        refine z_iconst (v := 1) h0 dX6_told_53 (by decide) ?_
        refine z_icmp_ne (tgt := 66) h0 dX6_told_54 (by decide) (fun h54 => ?_) (fun h54 => ?_)
        · refine z_iload_n h0 dX6_told_66 rfl ?_
          refine z_iconst (v := 2) h0 dX6_told_67 (by decide) ?_
          refine z_icmp_ne (tgt := 80) h0 dX6_told_68 (by decide) (fun h68 => ?_) (fun h68 => ?_)
          · refine z_aload_n h0 dX6_told_80 rfl ?_
            refine z_getA h0 hR 3 (by decide) fO13 rfl lk_19 dX6_told_81 ?_
            refine z_iload_n h0 dX6_told_84 rfl ?_
            refine z_ialdR h0 hR 3 (by decide) rfl dX6_told_85 (nI_toInt (by first | omega | (dsimp only [sA, sT, mP, mM, mE] at *; omega))) (by simp only [rLen]; first | omega | (dsimp only [sA, sT, mP, mM, mE] at *; omega)) ?_
            exact z_iret h0 hr hlk dX6_told_86 (Nat.le_of_ble_eq_true rfl) (Nat.le_of_ble_eq_true rfl) (rP_yes (by unfold oTold; rw [if_neg (fun z => z g1), if_neg (fun z => z (ite_t hr16 h19)), e1, if_neg h40, if_neg h54, if_neg h68]) (RX_trans hX hR.1) (hR.2.trans hcode))
          · refine z_aload_n h0 dX6_told_71 rfl ?_
            refine z_getA h0 hR 2 (by decide) fO12 rfl lk_16 dX6_told_72 ?_
            refine z_iload_n h0 dX6_told_75 rfl ?_
            refine z_ialdR h0 hR 2 (by decide) rfl dX6_told_76 (nI_toInt (by first | omega | (dsimp only [sA, sT, mP, mM, mE] at *; omega))) (by simp only [rLen]; first | omega | (dsimp only [sA, sT, mP, mM, mE] at *; omega)) ?_
            refine z_goto (tgt := 86) h0 dX6_told_77 (by decide) ?_
            exact z_iret h0 hr hlk dX6_told_86 (Nat.le_of_ble_eq_true rfl) (Nat.le_of_ble_eq_true rfl) (rP_yes (by unfold oTold; rw [if_neg (fun z => z g1), if_neg (fun z => z (ite_t hr16 h19)), e1, if_neg h40, if_neg h54, if_pos h68]) (RX_trans hX hR.1) (hR.2.trans hcode))
        · refine z_aload_n h0 dX6_told_57 rfl ?_
          refine z_getA h0 hR 1 (by decide) fO11 rfl lk_13 dX6_told_58 ?_
          refine z_iload_n h0 dX6_told_61 rfl ?_
          refine z_ialdR h0 hR 1 (by decide) rfl dX6_told_62 (nI_toInt (by first | omega | (dsimp only [sA, sT, mP, mM, mE] at *; omega))) (by simp only [rLen]; first | omega | (dsimp only [sA, sT, mP, mM, mE] at *; omega)) ?_
          refine z_goto (tgt := 86) h0 dX6_told_63 (by decide) ?_
          exact z_iret h0 hr hlk dX6_told_86 (Nat.le_of_ble_eq_true rfl) (Nat.le_of_ble_eq_true rfl) (rP_yes (by unfold oTold; rw [if_neg (fun z => z g1), if_neg (fun z => z (ite_t hr16 h19)), e1, if_neg h40, if_pos h54]) (RX_trans hX hR.1) (hR.2.trans hcode))
      · refine z_aload_n h0 dX6_told_43 rfl ?_
        refine z_getA h0 hR 0 (by decide) fO10 rfl lk_7 dX6_told_44 ?_
        refine z_iload_n h0 dX6_told_47 rfl ?_
        refine z_ialdR h0 hR 0 (by decide) rfl dX6_told_48 (nI_toInt (by first | omega | (dsimp only [sA, sT, mP, mM, mE] at *; omega))) (by simp only [rLen]; first | omega | (dsimp only [sA, sT, mP, mM, mE] at *; omega)) ?_
        refine z_goto (tgt := 86) h0 dX6_told_49 (by decide) ?_
        exact z_iret h0 hr hlk dX6_told_86 (Nat.le_of_ble_eq_true rfl) (Nat.le_of_ble_eq_true rfl) (rP_yes (by unfold oTold; rw [if_neg (fun z => z g1), if_neg (fun z => z (ite_t hr16 h19)), e1, if_pos h40]) (RX_trans hX hR.1) (hR.2.trans hcode))
  · refine z_iconst (v := 1) h0 dX6_told_9 (by decide) ?_
    refine z_goto (tgt := 27) h0 dX6_told_10 (by decide) ?_
    refine z_putC h0 hR.1 fI15 lp_41 dX6_told_27 (fun S27 hX hR hcode => ?_)
    refine z_aload_n h0 dX6_told_30 rfl ?_
    refine z_getI h0 fI15 lk_41 dX6_told_31 (RF_m hR) ?_
    refine z_top hcode ?_
    refine z_if_le (tgt := 39) h0 dX6_told_34 (by decide) (fun h34 => absurd h34 (by decide)) (fun h34 => ?_)
    refine z_iconst (v := 0) h0 dX6_told_37 (by decide) ?_
    exact z_iret h0 hr hlk dX6_told_38 (Nat.le_of_ble_eq_true rfl) (Nat.le_of_ble_eq_true rfl) (by first | exact (rP_no (c := 0) (by unfold oTold; rw [if_pos (ite_f hr3 h6)]) hX hcode) | exact (rP_no (c := 1) (by unfold oTold; rw [if_neg (fun z => z (ite_t hr3 h6)), if_pos (ite_f hr16 h19)]) hX hcode))

abbrev rm_X6_transfer : Room := { frames := 2, cells := 0, slots := 0, locals := 43 }
set_option maxRecDepth 100000 in
set_option maxHeartbeats 4000000 in
theorem c_X6_transfer {l : Launch} {D : va_G} {cI cZ cO : ClassId} {G : Nat → Nat} {S : PS} {m c : Nat} {A : Nat → Nat} {M : MS} (hR : RF S S m A M) (hI : MI c M) (hc : c < 512) {x w : Int32} : zMi l yX6_transfer wsX6_transfer rm_X6_transfer [.ref m, .int x, .int w] D cI cZ cO G S (fun r S' => rP S m A (oTransfer M x w) r S') := by
  refine z_of (cc := cX6_transfer) (maxL := 3) (ret := (some .int)) (lo := [some (.ref m), some (.int x), some (.int w)]) (by decide) rfl rfl (Nat.le_of_ble_eq_true rfl) rfl ?_
  intro pp ee ss mi aa bl mh cd h0 hts hown hr hlk hnm
  have hown : ss.vm.findClass RX6 = some mi.cls := hown
  have inX6 : ∀ w ∈ u_ws RX6 TX6 14, w ∈ wsX6_transfer := by decide +kernel
  have lk_16 : zLk ss mi aa RX6 16 7 4 := ⟨RX6, TX6, 14, "PurseWorldModel", wsX6_transfer, rfl, by decide, hts, inX6, hown, hts (.fieldLink RX6 16 "PurseWorldModel" "states" "[I") (by decide +kernel), fun _ h => h⟩
  have lk_41 : zLk ss mi aa RX6 41 7 0 := ⟨RX6, TX6, 14, "PurseWorldModel", wsX6_transfer, rfl, by decide, hts, inX6, hown, hts (.fieldLink RX6 41 "PurseWorldModel" "code" "I") (by decide +kernel), fun _ h => h⟩
  have lp_41 : zLp ss mi aa mh RX6 41 7 0 .int := ⟨RX6, TX6, 14, "PurseWorldModel", wsX6_transfer, tyX6, rfl, by decide, hts, inX6, hown, hts (.fieldLink RX6 41 "PurseWorldModel" "code" "I") (by decide +kernel), fun _ h => h, tyX6_ok, nmX6, by decide +kernel, Or.inl rfl⟩
  refine z_aload_n h0 dX6_transfer_0 rfl ?_
  refine z_aload_n h0 dX6_transfer_1 rfl ?_
  refine z_iload_n h0 dX6_transfer_2 rfl ?_
  refine z_cVi (n := 1) (As := [_]) h0 hts hown (c_X6_isPurse hR (by have := MI_p hI; omega)) gX6_transfer_X6_isPurse rfl (by decide +kernel) ⟨Nat.le_of_ble_eq_true rfl, Nat.le_of_ble_eq_true rfl⟩ kOk6 rfl (RF_m hR) dX6_transfer_3 rfl rfl (Nat.le_of_ble_eq_true rfl) ⟨Nat.le_of_ble_eq_true rfl, Nat.le_of_ble_eq_true rfl⟩ (fun r3 S3 hp3 => ?_)
  obtain ⟨rfl, hr3⟩ := hp3
  refine z_if_ne (tgt := 13) h0 dX6_transfer_6 (by decide) (fun h6 => ?_) (fun h6 => ?_)
  · refine z_iload_n h0 dX6_transfer_13 rfl ?_
    refine z_iconst (v := 0) h0 dX6_transfer_14 (by decide) ?_
    refine z_iconst (v := 4) h0 dX6_transfer_15 (by decide) ?_
    refine z_cSi (n := 3) (As := [_, _, _]) h0 hts hown c_X6_in gX6_transfer_X6_in rfl (by decide +kernel) ⟨Nat.le_of_ble_eq_true rfl, Nat.le_of_ble_eq_true rfl⟩ dX6_transfer_16 rfl rfl (Nat.le_of_ble_eq_true rfl) ⟨Nat.le_of_ble_eq_true rfl, Nat.le_of_ble_eq_true rfl⟩ (fun r16 S16 hp16 => ?_)
    obtain ⟨rfl, hr16⟩ := hp16
    refine z_if_eq (tgt := 26) h0 dX6_transfer_19 (by decide) (fun h19 => ?_) (fun h19 => ?_)
    · refine z_iconst (v := 2) h0 dX6_transfer_26 (by decide) ?_
      refine z_putC h0 hR.1 fI15 lp_41 dX6_transfer_27 (fun S27 hX hR hcode => ?_)
      refine z_aload_n h0 dX6_transfer_30 rfl ?_
      refine z_getI h0 fI15 lk_41 dX6_transfer_31 (RF_m hR) ?_
      refine z_top hcode ?_
      refine z_if_le (tgt := 41) h0 dX6_transfer_34 (by decide) (fun h34 => absurd h34 (by decide)) (fun h34 => ?_)
      refine z_iconst (v := 0) h0 dX6_transfer_37 (by decide) ?_
      refine z_goto (tgt := 60) h0 dX6_transfer_38 (by decide) ?_
      exact z_iret h0 hr hlk dX6_transfer_60 (Nat.le_of_ble_eq_true rfl) (Nat.le_of_ble_eq_true rfl) (rP_no (c := 1) (by unfold oTransfer; rw [if_neg (fun z => z (ite_t hr3 h6)), if_pos (ite_f hr16 h19)]) hX hcode)
    · refine z_iconst (v := 0) h0 dX6_transfer_22 (by decide) ?_
      refine z_goto (tgt := 27) h0 dX6_transfer_23 (by decide) ?_
      refine z_putC h0 hR.1 fI15 lp_41 dX6_transfer_27 (fun S27 hX hR hcode => ?_)
      refine z_aload_n h0 dX6_transfer_30 rfl ?_
      refine z_getI h0 fI15 lk_41 dX6_transfer_31 (RF_m hR) ?_
      refine z_top hcode ?_
      refine z_if_le (tgt := 41) h0 dX6_transfer_34 (by decide) (fun h34 => ?_) (fun h34 => absurd (by decide) h34)
      have := MI_p hI; have := MI_m hI; have := MI_e hI
      have g1 := ite_t hr3 h6
      obtain ⟨a, ha, rfl⟩ := inR_nI g1 (by omega)
      have e1 := ix_of (x := nI a) rfl (by omega)
      refine z_aload_n h0 dX6_transfer_41 rfl ?_
      refine z_getA h0 hR 2 (by decide) fO12 rfl lk_16 dX6_transfer_42 ?_
      refine z_iload_n h0 dX6_transfer_45 rfl ?_
      refine z_ialdR h0 hR 2 (by decide) rfl dX6_transfer_46 (nI_toInt (by first | omega | (dsimp only [sA, sT, mP, mM, mE] at *; omega))) (by simp only [rLen]; first | omega | (dsimp only [sA, sT, mP, mM, mE] at *; omega)) ?_
      refine z_if_ne (tgt := 54) h0 dX6_transfer_47 (by decide) (fun h47 => ?_) (fun h47 => ?_)
      · have gw := ite_t hr16 h19
        obtain ⟨w0, hw0, rfl⟩ := nI_of2 (M := 4) (n := 4) (by decide) (k2_nlt gw.1) gw.2
        refine z_aload_n h0 dX6_transfer_54 rfl ?_
        refine z_iload_n h0 dX6_transfer_55 rfl ?_
        refine z_iload_n h0 dX6_transfer_56 rfl ?_
        refine z_cVi (n := 2) (As := [_, _]) h0 hts hown (c_X6_part (RF_refl hR) (p := a) (by omega) (k := w0) (by omega)) gX6_transfer_X6_part rfl (by decide +kernel) ⟨Nat.le_of_ble_eq_true rfl, Nat.le_of_ble_eq_true rfl⟩ kOk6 rfl (RF_m hR) dX6_transfer_57 rfl rfl (Nat.le_of_ble_eq_true rfl) ⟨Nat.le_of_ble_eq_true rfl, Nat.le_of_ble_eq_true rfl⟩ (fun r57 S57 hp57 => ?_)
        obtain ⟨rfl, hr57⟩ := hp57
        subst hr57
        exact z_iret h0 hr hlk dX6_transfer_60 (Nat.le_of_ble_eq_true rfl) (Nat.le_of_ble_eq_true rfl) (rP_yes (by unfold oTransfer; rw [if_neg (fun z => z g1), if_neg (fun z => z (ite_t hr16 h19)), e1, if_neg h47, ix_of (x := nI w0) rfl (by omega)]) (RX_trans hX hR.1) (hR.2.trans hcode))
      · refine z_iconst (v := -1) h0 dX6_transfer_50 (by decide) ?_
        refine z_goto (tgt := 60) h0 dX6_transfer_51 (by decide) ?_
        exact z_iret h0 hr hlk dX6_transfer_60 (Nat.le_of_ble_eq_true rfl) (Nat.le_of_ble_eq_true rfl) (rP_yes (by unfold oTransfer; rw [if_neg (fun z => z g1), if_neg (fun z => z (ite_t hr16 h19)), e1, if_pos h47]) (RX_trans hX hR.1) (hR.2.trans hcode))
  · refine z_iconst (v := 1) h0 dX6_transfer_9 (by decide) ?_
    refine z_goto (tgt := 27) h0 dX6_transfer_10 (by decide) ?_
    refine z_putC h0 hR.1 fI15 lp_41 dX6_transfer_27 (fun S27 hX hR hcode => ?_)
    refine z_aload_n h0 dX6_transfer_30 rfl ?_
    refine z_getI h0 fI15 lk_41 dX6_transfer_31 (RF_m hR) ?_
    refine z_top hcode ?_
    refine z_if_le (tgt := 41) h0 dX6_transfer_34 (by decide) (fun h34 => absurd h34 (by decide)) (fun h34 => ?_)
    refine z_iconst (v := 0) h0 dX6_transfer_37 (by decide) ?_
    refine z_goto (tgt := 60) h0 dX6_transfer_38 (by decide) ?_
    exact z_iret h0 hr hlk dX6_transfer_60 (Nat.le_of_ble_eq_true rfl) (Nat.le_of_ble_eq_true rfl) (rP_no (c := 0) (by unfold oTransfer; rw [if_pos (ite_f hr3 h6)]) hX hcode)

abbrev rm_X6_log : Room := { frames := 2, cells := 0, slots := 0, locals := 43 }
set_option maxRecDepth 100000 in
set_option maxHeartbeats 4000000 in
theorem c_X6_log {l : Launch} {D : va_G} {cI cZ cO : ClassId} {G : Nat → Nat} {S : PS} {m c : Nat} {A : Nat → Nat} {M : MS} (hR : RF S S m A M) (hI : MI c M) (hc : c < 512) {x i w : Int32} : zMi l yX6_log wsX6_log rm_X6_log [.ref m, .int x, .int i, .int w] D cI cZ cO G S (fun r S' => rP S m A (oLog M x i w) r S') := by
  refine z_of (cc := cX6_log) (maxL := 4) (ret := (some .int)) (lo := [some (.ref m), some (.int x), some (.int i), some (.int w)]) (by decide) rfl rfl (Nat.le_of_ble_eq_true rfl) rfl ?_
  intro pp ee ss mi aa bl mh cd h0 hts hown hr hlk hnm
  have hown : ss.vm.findClass RX6 = some mi.cls := hown
  have inX6 : ∀ w ∈ u_ws RX6 TX6 14, w ∈ wsX6_log := by decide +kernel
  have lk_19 : zLk ss mi aa RX6 19 7 5 := ⟨RX6, TX6, 14, "PurseWorldModel", wsX6_log, rfl, by decide, hts, inX6, hown, hts (.fieldLink RX6 19 "PurseWorldModel" "logSize" "[I") (by decide +kernel), fun _ h => h⟩
  have lk_41 : zLk ss mi aa RX6 41 7 0 := ⟨RX6, TX6, 14, "PurseWorldModel", wsX6_log, rfl, by decide, hts, inX6, hown, hts (.fieldLink RX6 41 "PurseWorldModel" "code" "I") (by decide +kernel), fun _ h => h⟩
  have lp_41 : zLp ss mi aa mh RX6 41 7 0 .int := ⟨RX6, TX6, 14, "PurseWorldModel", wsX6_log, tyX6, rfl, by decide, hts, inX6, hown, hts (.fieldLink RX6 41 "PurseWorldModel" "code" "I") (by decide +kernel), fun _ h => h, tyX6_ok, nmX6, by decide +kernel, Or.inl rfl⟩
  refine z_aload_n h0 dX6_log_0 rfl ?_
  refine z_aload_n h0 dX6_log_1 rfl ?_
  refine z_iload_n h0 dX6_log_2 rfl ?_
  refine z_cVi (n := 1) (As := [_]) h0 hts hown (c_X6_isPurse hR (by have := MI_p hI; omega)) gX6_log_X6_isPurse rfl (by decide +kernel) ⟨Nat.le_of_ble_eq_true rfl, Nat.le_of_ble_eq_true rfl⟩ kOk6 rfl (RF_m hR) dX6_log_3 rfl rfl (Nat.le_of_ble_eq_true rfl) ⟨Nat.le_of_ble_eq_true rfl, Nat.le_of_ble_eq_true rfl⟩ (fun r3 S3 hp3 => ?_)
  obtain ⟨rfl, hr3⟩ := hp3
  refine z_if_ne (tgt := 13) h0 dX6_log_6 (by decide) (fun h6 => ?_) (fun h6 => ?_)
  · have := MI_p hI; have := MI_m hI; have := MI_e hI
    have g1 := ite_t hr3 h6
    obtain ⟨a, ha, rfl⟩ := inR_nI g1 (by omega)
    have e1 := ix_of (x := nI a) rfl (by omega)
    have hl := MI_ln hI ha
    refine z_iload_n h0 dX6_log_13 rfl ?_
    refine z_iconst (v := 0) h0 dX6_log_14 (by decide) ?_
    refine z_aload_n h0 dX6_log_15 rfl ?_
    refine z_getA h0 hR 3 (by decide) fO13 rfl lk_19 dX6_log_16 ?_
    refine z_iload_n h0 dX6_log_19 rfl ?_
    refine z_ialdR h0 hR 3 (by decide) rfl dX6_log_20 (nI_toInt (by first | omega | (dsimp only [sA, sT, mP, mM, mE] at *; omega))) (by simp only [rLen]; first | omega | (dsimp only [sA, sT, mP, mM, mE] at *; omega)) ?_
    refine z_top hl.1 ?_
    refine z_iconst (v := 1) h0 dX6_log_21 (by decide) ?_
    refine z_isub h0 dX6_log_22 ?_
    refine z_cSi (n := 3) (As := [_, _, _]) h0 hts hown c_X6_in gX6_log_X6_in rfl (by decide +kernel) ⟨Nat.le_of_ble_eq_true rfl, Nat.le_of_ble_eq_true rfl⟩ dX6_log_23 rfl rfl (Nat.le_of_ble_eq_true rfl) ⟨Nat.le_of_ble_eq_true rfl, Nat.le_of_ble_eq_true rfl⟩ (fun r23 S23 hp23 => ?_)
    obtain ⟨rfl, hr23⟩ := hp23
    simp only [isP_iff (n := lnN M a) (by omega)] at hr23
    refine z_if_ne (tgt := 33) h0 dX6_log_26 (by decide) (fun h26 => ?_) (fun h26 => ?_)
    · refine z_iload_n h0 dX6_log_33 rfl ?_
      refine z_iconst (v := 0) h0 dX6_log_34 (by decide) ?_
      refine z_iconst (v := 4) h0 dX6_log_35 (by decide) ?_
      refine z_cSi (n := 3) (As := [_, _, _]) h0 hts hown c_X6_in gX6_log_X6_in rfl (by decide +kernel) ⟨Nat.le_of_ble_eq_true rfl, Nat.le_of_ble_eq_true rfl⟩ dX6_log_36 rfl rfl (Nat.le_of_ble_eq_true rfl) ⟨Nat.le_of_ble_eq_true rfl, Nat.le_of_ble_eq_true rfl⟩ (fun r36 S36 hp36 => ?_)
      obtain ⟨rfl, hr36⟩ := hp36
      refine z_if_eq (tgt := 46) h0 dX6_log_39 (by decide) (fun h39 => ?_) (fun h39 => ?_)
      · refine z_iconst (v := 2) h0 dX6_log_46 (by decide) ?_
        refine z_putC h0 hR.1 fI15 lp_41 dX6_log_47 (fun S47 hX hR hcode => ?_)
        refine z_aload_n h0 dX6_log_50 rfl ?_
        refine z_getI h0 fI15 lk_41 dX6_log_51 (RF_m hR) ?_
        refine z_top hcode ?_
        refine z_if_le (tgt := 61) h0 dX6_log_54 (by decide) (fun h54 => absurd h54 (by decide)) (fun h54 => ?_)
        refine z_iconst (v := 0) h0 dX6_log_57 (by decide) ?_
        refine z_goto (tgt := 74) h0 dX6_log_58 (by decide) ?_
        exact z_iret h0 hr hlk dX6_log_74 (Nat.le_of_ble_eq_true rfl) (Nat.le_of_ble_eq_true rfl) (by first | exact (rP_no (c := 0) (by unfold oLog; rw [if_pos (ite_f hr3 h6)]) hX hcode) | exact (rP_no (c := 0) (by unfold oLog; rw [if_neg (fun z => z g1), e1, if_pos (ite_f hr23 h26)]) hX hcode) | exact (rP_no (c := 1) (by unfold oLog; rw [if_neg (fun z => z g1), e1, if_neg (fun z => z (ite_t hr23 h26)), if_pos (ite_f hr36 h39)]) hX hcode) | exact (rP_yes (by unfold oLog; rw [if_neg (fun z => z g1), e1, if_neg (fun z => z g2), if_neg (fun z => z gw), ix_of (x := nI w0) rfl (by omega), ix_of (x := nI b) rfl (by omega)]) (RX_trans hX hR.1) (hR.2.trans hcode)))
      · refine z_iconst (v := 0) h0 dX6_log_42 (by decide) ?_
        refine z_goto (tgt := 47) h0 dX6_log_43 (by decide) ?_
        refine z_putC h0 hR.1 fI15 lp_41 dX6_log_47 (fun S47 hX hR hcode => ?_)
        refine z_aload_n h0 dX6_log_50 rfl ?_
        refine z_getI h0 fI15 lk_41 dX6_log_51 (RF_m hR) ?_
        refine z_top hcode ?_
        refine z_if_le (tgt := 61) h0 dX6_log_54 (by decide) (fun h54 => ?_) (fun h54 => absurd (by decide) h54)
        have gw := ite_t hr36 h39
        have g2 := ite_t hr23 h26
        obtain ⟨b, hb, rfl⟩ := inR_nI g2 (by omega)
        obtain ⟨w0, hw0, rfl⟩ := nI_of2 (M := 4) (n := 4) (by decide) (k2_nlt gw.1) gw.2
        refine z_aload_n h0 dX6_log_61 rfl ?_
        refine z_bipush (v := 12) h0 dX6_log_62 (by decide) ?_
        refine z_iconst (v := 5) h0 dX6_log_64 (by decide) ?_
        refine z_iload_n h0 dX6_log_65 rfl ?_
        refine z_imul h0 dX6_log_66 ?_
        refine z_iadd h0 dX6_log_67 ?_
        refine z_iload_n h0 dX6_log_68 rfl ?_
        refine z_iadd h0 dX6_log_69 ?_
        refine z_top (y := nI (12 + 5 * a + b)) (by rw [zc5, zc12, pk_mul, nI_add, nI_add]) ?_
        refine z_iload_n h0 dX6_log_70 rfl ?_
        refine z_cVi (n := 2) (As := [_, _]) h0 hts hown (c_X6_part (RF_refl hR) (p := 12 + 5 * a + b) (by omega) (k := w0) (by omega)) gX6_log_X6_part rfl (by decide +kernel) ⟨Nat.le_of_ble_eq_true rfl, Nat.le_of_ble_eq_true rfl⟩ kOk6 rfl (RF_m hR) dX6_log_71 rfl rfl (Nat.le_of_ble_eq_true rfl) ⟨Nat.le_of_ble_eq_true rfl, Nat.le_of_ble_eq_true rfl⟩ (fun r71 S71 hp71 => ?_)
        obtain ⟨rfl, hr71⟩ := hp71
        subst hr71
        exact z_iret h0 hr hlk dX6_log_74 (Nat.le_of_ble_eq_true rfl) (Nat.le_of_ble_eq_true rfl) (by first | exact (rP_no (c := 0) (by unfold oLog; rw [if_pos (ite_f hr3 h6)]) hX hcode) | exact (rP_no (c := 0) (by unfold oLog; rw [if_neg (fun z => z g1), e1, if_pos (ite_f hr23 h26)]) hX hcode) | exact (rP_no (c := 1) (by unfold oLog; rw [if_neg (fun z => z g1), e1, if_neg (fun z => z (ite_t hr23 h26)), if_pos (ite_f hr36 h39)]) hX hcode) | exact (rP_yes (by unfold oLog; rw [if_neg (fun z => z g1), e1, if_neg (fun z => z g2), if_neg (fun z => z gw), ix_of (x := nI w0) rfl (by omega), ix_of (x := nI b) rfl (by omega)]) (RX_trans hX hR.1) (hR.2.trans hcode)))
    · refine z_iconst (v := 1) h0 dX6_log_29 (by decide) ?_
      refine z_goto (tgt := 47) h0 dX6_log_30 (by decide) ?_
      refine z_putC h0 hR.1 fI15 lp_41 dX6_log_47 (fun S47 hX hR hcode => ?_)
      refine z_aload_n h0 dX6_log_50 rfl ?_
      refine z_getI h0 fI15 lk_41 dX6_log_51 (RF_m hR) ?_
      refine z_top hcode ?_
      refine z_if_le (tgt := 61) h0 dX6_log_54 (by decide) (fun h54 => absurd h54 (by decide)) (fun h54 => ?_)
      refine z_iconst (v := 0) h0 dX6_log_57 (by decide) ?_
      refine z_goto (tgt := 74) h0 dX6_log_58 (by decide) ?_
      exact z_iret h0 hr hlk dX6_log_74 (Nat.le_of_ble_eq_true rfl) (Nat.le_of_ble_eq_true rfl) (by first | exact (rP_no (c := 0) (by unfold oLog; rw [if_pos (ite_f hr3 h6)]) hX hcode) | exact (rP_no (c := 0) (by unfold oLog; rw [if_neg (fun z => z g1), e1, if_pos (ite_f hr23 h26)]) hX hcode) | exact (rP_no (c := 1) (by unfold oLog; rw [if_neg (fun z => z g1), e1, if_neg (fun z => z (ite_t hr23 h26)), if_pos (ite_f hr36 h39)]) hX hcode) | exact (rP_yes (by unfold oLog; rw [if_neg (fun z => z g1), e1, if_neg (fun z => z g2), if_neg (fun z => z gw), ix_of (x := nI w0) rfl (by omega), ix_of (x := nI b) rfl (by omega)]) (RX_trans hX hR.1) (hR.2.trans hcode)))
  · refine z_iconst (v := 1) h0 dX6_log_9 (by decide) ?_
    refine z_goto (tgt := 47) h0 dX6_log_10 (by decide) ?_
    refine z_putC h0 hR.1 fI15 lp_41 dX6_log_47 (fun S47 hX hR hcode => ?_)
    refine z_aload_n h0 dX6_log_50 rfl ?_
    refine z_getI h0 fI15 lk_41 dX6_log_51 (RF_m hR) ?_
    refine z_top hcode ?_
    refine z_if_le (tgt := 61) h0 dX6_log_54 (by decide) (fun h54 => absurd h54 (by decide)) (fun h54 => ?_)
    refine z_iconst (v := 0) h0 dX6_log_57 (by decide) ?_
    refine z_goto (tgt := 74) h0 dX6_log_58 (by decide) ?_
    exact z_iret h0 hr hlk dX6_log_74 (Nat.le_of_ble_eq_true rfl) (Nat.le_of_ble_eq_true rfl) (by first | exact (rP_no (c := 0) (by unfold oLog; rw [if_pos (ite_f hr3 h6)]) hX hcode) | exact (rP_no (c := 0) (by unfold oLog; rw [if_neg (fun z => z g1), e1, if_pos (ite_f hr23 h26)]) hX hcode) | exact (rP_no (c := 1) (by unfold oLog; rw [if_neg (fun z => z g1), e1, if_neg (fun z => z (ite_t hr23 h26)), if_pos (ite_f hr36 h39)]) hX hcode) | exact (rP_yes (by unfold oLog; rw [if_neg (fun z => z g1), e1, if_neg (fun z => z g2), if_neg (fun z => z gw), ix_of (x := nI w0) rfl (by omega), ix_of (x := nI b) rfl (by omega)]) (RX_trans hX hR.1) (hR.2.trans hcode)))

abbrev rm_X6_message : Room := { frames := 1, cells := 0, slots := 0, locals := 22 }
set_option maxRecDepth 100000 in
set_option maxHeartbeats 4000000 in
theorem c_X6_message {l : Launch} {D : va_G} {cI cZ cO : ClassId} {G : Nat → Nat} {S : PS} {m c : Nat} {A : Nat → Nat} {M : MS} (hR : RF S S m A M) (hI : MI c M) (hc : c < 512) {x w : Int32} : zMi l yX6_message wsX6_message rm_X6_message [.ref m, .int x, .int w] D cI cZ cO G S (fun r S' => rP S m A (oMessage M x w) r S') := by
  refine z_of (cc := cX6_message) (maxL := 3) (ret := (some .int)) (lo := [some (.ref m), some (.int x), some (.int w)]) (by decide) rfl rfl (Nat.le_of_ble_eq_true rfl) rfl ?_
  intro pp ee ss mi aa bl mh cd h0 hts hown hr hlk hnm
  have hown : ss.vm.findClass RX6 = some mi.cls := hown
  have inX6 : ∀ w ∈ u_ws RX6 TX6 14, w ∈ wsX6_message := by decide +kernel
  have lk_22 : zLk ss mi aa RX6 22 7 7 := ⟨RX6, TX6, 14, "PurseWorldModel", wsX6_message, rfl, by decide, hts, inX6, hown, hts (.fieldLink RX6 22 "PurseWorldModel" "kinds" "[I") (by decide +kernel), fun _ h => h⟩
  have lk_25 : zLk ss mi aa RX6 25 7 8 := ⟨RX6, TX6, 14, "PurseWorldModel", wsX6_message, rfl, by decide, hts, inX6, hown, hts (.fieldLink RX6 25 "PurseWorldModel" "targets" "[I") (by decide +kernel), fun _ h => h⟩
  have lk_41 : zLk ss mi aa RX6 41 7 0 := ⟨RX6, TX6, 14, "PurseWorldModel", wsX6_message, rfl, by decide, hts, inX6, hown, hts (.fieldLink RX6 41 "PurseWorldModel" "code" "I") (by decide +kernel), fun _ h => h⟩
  have lk_59 : zLk ss mi aa RX6 59 7 6 := ⟨RX6, TX6, 14, "PurseWorldModel", wsX6_message, rfl, by decide, hts, inX6, hown, hts (.fieldLink RX6 59 "PurseWorldModel" "messages" "I") (by decide +kernel), fun _ h => h⟩
  have lp_41 : zLp ss mi aa mh RX6 41 7 0 .int := ⟨RX6, TX6, 14, "PurseWorldModel", wsX6_message, tyX6, rfl, by decide, hts, inX6, hown, hts (.fieldLink RX6 41 "PurseWorldModel" "code" "I") (by decide +kernel), fun _ h => h, tyX6_ok, nmX6, by decide +kernel, Or.inl rfl⟩
  refine z_aload_n h0 dX6_message_0 rfl ?_
  refine z_iload_n h0 dX6_message_1 rfl ?_
  refine z_iconst (v := 0) h0 dX6_message_2 (by decide) ?_
  refine z_aload_n h0 dX6_message_3 rfl ?_
  refine z_getSM h0 hR fI17 lk_59 dX6_message_4 ?_
  refine z_iconst (v := 1) h0 dX6_message_7 (by decide) ?_
  refine z_isub h0 dX6_message_8 ?_
  refine z_cSi (n := 3) (As := [_, _, _]) h0 hts hown c_X6_in gX6_message_X6_in rfl (by decide +kernel) ⟨Nat.le_of_ble_eq_true rfl, Nat.le_of_ble_eq_true rfl⟩ dX6_message_9 rfl rfl (Nat.le_of_ble_eq_true rfl) ⟨Nat.le_of_ble_eq_true rfl, Nat.le_of_ble_eq_true rfl⟩ (fun r9 S9 hp9 => ?_)
  obtain ⟨rfl, hr9⟩ := hp9
  simp only [isP_iff (n := mM M) (by have := MI_p hI; have := MI_m hI; have := MI_e hI; omega)] at hr9
  refine z_if_ne (tgt := 19) h0 dX6_message_12 (by decide) (fun h12 => ?_) (fun h12 => ?_)
  · refine z_iload_n h0 dX6_message_19 rfl ?_
    refine z_iconst (v := 0) h0 dX6_message_20 (by decide) ?_
    refine z_bipush (v := 6) h0 dX6_message_21 (by decide) ?_
    refine z_cSi (n := 3) (As := [_, _, _]) h0 hts hown c_X6_in gX6_message_X6_in rfl (by decide +kernel) ⟨Nat.le_of_ble_eq_true rfl, Nat.le_of_ble_eq_true rfl⟩ dX6_message_23 rfl rfl (Nat.le_of_ble_eq_true rfl) ⟨Nat.le_of_ble_eq_true rfl, Nat.le_of_ble_eq_true rfl⟩ (fun r23 S23 hp23 => ?_)
    obtain ⟨rfl, hr23⟩ := hp23
    refine z_if_eq (tgt := 33) h0 dX6_message_26 (by decide) (fun h26 => ?_) (fun h26 => ?_)
    · refine z_iconst (v := 2) h0 dX6_message_33 (by decide) ?_
      refine z_putC h0 hR.1 fI15 lp_41 dX6_message_34 (fun S34 hX hR hcode => ?_)
      refine z_aload_n h0 dX6_message_37 rfl ?_
      refine z_getI h0 fI15 lk_41 dX6_message_38 (RF_m hR) ?_
      refine z_top hcode ?_
      refine z_if_le (tgt := 46) h0 dX6_message_41 (by decide) (fun h41 => absurd h41 (by decide)) (fun h41 => ?_)
      refine z_iconst (v := 0) h0 dX6_message_44 (by decide) ?_
      exact z_iret h0 hr hlk dX6_message_45 (Nat.le_of_ble_eq_true rfl) (Nat.le_of_ble_eq_true rfl) (by first | exact (rP_no (c := 0) (by unfold oMessage; rw [if_pos (ite_f hr9 h12)]) hX hcode) | exact (rP_no (c := 1) (by unfold oMessage; rw [if_neg (fun z => z (ite_t hr9 h12)), if_pos (ite_f hr23 h26)]) hX hcode))
    · refine z_iconst (v := 0) h0 dX6_message_29 (by decide) ?_
      refine z_goto (tgt := 34) h0 dX6_message_30 (by decide) ?_
      refine z_putC h0 hR.1 fI15 lp_41 dX6_message_34 (fun S34 hX hR hcode => ?_)
      refine z_aload_n h0 dX6_message_37 rfl ?_
      refine z_getI h0 fI15 lk_41 dX6_message_38 (RF_m hR) ?_
      refine z_top hcode ?_
      refine z_if_le (tgt := 46) h0 dX6_message_41 (by decide) (fun h41 => ?_) (fun h41 => absurd (by decide) h41)
      have := MI_p hI; have := MI_m hI; have := MI_e hI
      have g1 := ite_t hr9 h12
      have gw := ite_t hr23 h26
      obtain ⟨a, ha, rfl⟩ := inR_nI g1 (by omega)
      have e1 := ix_of (x := nI a) rfl (by omega)
      refine z_iload_n h0 dX6_message_46 rfl ?_
      refine z_iconst (v := 5) h0 dX6_message_47 (by decide) ?_
      refine z_icmp_ge (tgt := 63) h0 dX6_message_48 (by decide) (fun h48 => ?_) (fun h48 => ?_)
      · refine z_iload_n h0 dX6_message_63 rfl ?_
        refine z_iconst (v := 5) h0 dX6_message_64 (by decide) ?_
        refine z_icmp_ne (tgt := 77) h0 dX6_message_65 (by decide) (fun h65 => ?_) (fun h65 => ?_)
        · refine z_aload_n h0 dX6_message_77 rfl ?_
          refine z_getA h0 hR 5 (by decide) fO15 rfl lk_25 dX6_message_78 ?_
          refine z_iload_n h0 dX6_message_81 rfl ?_
          refine z_ialdR h0 hR 5 (by decide) rfl dX6_message_82 (nI_toInt (by first | omega | (dsimp only [sA, sT, mP, mM, mE] at *; omega))) (by simp only [rLen]; first | omega | (dsimp only [sA, sT, mP, mM, mE] at *; omega)) ?_
          exact z_iret h0 hr hlk dX6_message_83 (Nat.le_of_ble_eq_true rfl) (Nat.le_of_ble_eq_true rfl) (rP_yes (by unfold oMessage; rw [if_neg (fun z => z g1), if_neg (fun z => z gw), e1, if_neg (fun z => z h48), if_neg h65]) (RX_trans hX hR.1) (hR.2.trans hcode))
        · refine z_aload_n h0 dX6_message_68 rfl ?_
          refine z_getA h0 hR 4 (by decide) fO14 rfl lk_22 dX6_message_69 ?_
          refine z_iload_n h0 dX6_message_72 rfl ?_
          refine z_ialdR h0 hR 4 (by decide) rfl dX6_message_73 (nI_toInt (by first | omega | (dsimp only [sA, sT, mP, mM, mE] at *; omega))) (by simp only [rLen]; first | omega | (dsimp only [sA, sT, mP, mM, mE] at *; omega)) ?_
          refine z_goto (tgt := 83) h0 dX6_message_74 (by decide) ?_
          exact z_iret h0 hr hlk dX6_message_83 (Nat.le_of_ble_eq_true rfl) (Nat.le_of_ble_eq_true rfl) (rP_yes (by unfold oMessage; rw [if_neg (fun z => z g1), if_neg (fun z => z gw), e1, if_neg (fun z => z h48), if_pos h65]) (RX_trans hX hR.1) (hR.2.trans hcode))
      · obtain ⟨w0, hw0, rfl⟩ := nI_of2 (M := 6) (n := 6) (by decide) (k2_nlt gw.1) gw.2
        have hw5 : w0 < 5 := nI_ltof (b := 5) h48 (by omega)
        refine z_aload_n h0 dX6_message_51 rfl ?_
        refine z_bipush (v := 72) h0 dX6_message_52 (by decide) ?_
        refine z_iload_n h0 dX6_message_54 rfl ?_
        refine z_iadd h0 dX6_message_55 ?_
        refine z_top (y := nI (72 + a)) (by rw [zc72, nI_add]) ?_
        refine z_iload_n h0 dX6_message_56 rfl ?_
        refine z_cVi (n := 2) (As := [_, _]) h0 hts hown (c_X6_part (RF_refl hR) (p := 72 + a) (by omega) (k := w0) (by omega)) gX6_message_X6_part rfl (by decide +kernel) ⟨Nat.le_of_ble_eq_true rfl, Nat.le_of_ble_eq_true rfl⟩ kOk6 rfl (RF_m hR) dX6_message_57 rfl rfl (Nat.le_of_ble_eq_true rfl) ⟨Nat.le_of_ble_eq_true rfl, Nat.le_of_ble_eq_true rfl⟩ (fun r57 S57 hp57 => ?_)
        obtain ⟨rfl, hr57⟩ := hp57
        subst hr57
        refine z_goto (tgt := 83) h0 dX6_message_60 (by decide) ?_
        exact z_iret h0 hr hlk dX6_message_83 (Nat.le_of_ble_eq_true rfl) (Nat.le_of_ble_eq_true rfl) (rP_yes (by unfold oMessage; rw [if_neg (fun z => z g1), if_neg (fun z => z gw), e1, if_pos h48, ix_of (x := nI w0) rfl (by omega)]) (RX_trans hX hR.1) (hR.2.trans hcode))
  · refine z_iconst (v := 1) h0 dX6_message_15 (by decide) ?_
    refine z_goto (tgt := 34) h0 dX6_message_16 (by decide) ?_
    refine z_putC h0 hR.1 fI15 lp_41 dX6_message_34 (fun S34 hX hR hcode => ?_)
    refine z_aload_n h0 dX6_message_37 rfl ?_
    refine z_getI h0 fI15 lk_41 dX6_message_38 (RF_m hR) ?_
    refine z_top hcode ?_
    refine z_if_le (tgt := 46) h0 dX6_message_41 (by decide) (fun h41 => absurd h41 (by decide)) (fun h41 => ?_)
    refine z_iconst (v := 0) h0 dX6_message_44 (by decide) ?_
    exact z_iret h0 hr hlk dX6_message_45 (Nat.le_of_ble_eq_true rfl) (Nat.le_of_ble_eq_true rfl) (by first | exact (rP_no (c := 0) (by unfold oMessage; rw [if_pos (ite_f hr9 h12)]) hX hcode) | exact (rP_no (c := 1) (by unfold oMessage; rw [if_neg (fun z => z (ite_t hr9 h12)), if_pos (ite_f hr23 h26)]) hX hcode))

abbrev rm_X6_entry : Room := { frames := 2, cells := 0, slots := 0, locals := 47 }
set_option maxRecDepth 100000 in
set_option maxHeartbeats 4000000 in
theorem c_X6_entry {l : Launch} {D : va_G} {cI cZ cO : ClassId} {G : Nat → Nat} {S : PS} {m c : Nat} {A : Nat → Nat} {M : MS} (hR : RF S S m A M) (hI : MI c M) (hc : c < 512) {x w : Int32} : zMi l yX6_entry wsX6_entry rm_X6_entry [.ref m, .int x, .int w] D cI cZ cO G S (fun r S' => rP S m A (oEntry M x w) r S') := by
  refine z_of (cc := cX6_entry) (maxL := 3) (ret := (some .int)) (lo := [some (.ref m), some (.int x), some (.int w)]) (by decide) rfl rfl (Nat.le_of_ble_eq_true rfl) rfl ?_
  intro pp ee ss mi aa bl mh cd h0 hts hown hr hlk hnm
  have hown : ss.vm.findClass RX6 = some mi.cls := hown
  have inX6 : ∀ w ∈ u_ws RX6 TX6 14, w ∈ wsX6_entry := by decide +kernel
  have lk_31 : zLk ss mi aa RX6 31 7 11 := ⟨RX6, TX6, 14, "PurseWorldModel", wsX6_entry, rfl, by decide, hts, inX6, hown, hts (.fieldLink RX6 31 "PurseWorldModel" "tellers" "[I") (by decide +kernel), fun _ h => h⟩
  have lk_41 : zLk ss mi aa RX6 41 7 0 := ⟨RX6, TX6, 14, "PurseWorldModel", wsX6_entry, rfl, by decide, hts, inX6, hown, hts (.fieldLink RX6 41 "PurseWorldModel" "code" "I") (by decide +kernel), fun _ h => h⟩
  have lk_56 : zLk ss mi aa RX6 56 7 10 := ⟨RX6, TX6, 14, "PurseWorldModel", wsX6_entry, rfl, by decide, hts, inX6, hown, hts (.fieldLink RX6 56 "PurseWorldModel" "entries" "I") (by decide +kernel), fun _ h => h⟩
  have lp_41 : zLp ss mi aa mh RX6 41 7 0 .int := ⟨RX6, TX6, 14, "PurseWorldModel", wsX6_entry, tyX6, rfl, by decide, hts, inX6, hown, hts (.fieldLink RX6 41 "PurseWorldModel" "code" "I") (by decide +kernel), fun _ h => h, tyX6_ok, nmX6, by decide +kernel, Or.inl rfl⟩
  refine z_aload_n h0 dX6_entry_0 rfl ?_
  refine z_iload_n h0 dX6_entry_1 rfl ?_
  refine z_iconst (v := 0) h0 dX6_entry_2 (by decide) ?_
  refine z_aload_n h0 dX6_entry_3 rfl ?_
  refine z_getSE h0 hR fI18 lk_56 dX6_entry_4 ?_
  refine z_iconst (v := 1) h0 dX6_entry_7 (by decide) ?_
  refine z_isub h0 dX6_entry_8 ?_
  refine z_cSi (n := 3) (As := [_, _, _]) h0 hts hown c_X6_in gX6_entry_X6_in rfl (by decide +kernel) ⟨Nat.le_of_ble_eq_true rfl, Nat.le_of_ble_eq_true rfl⟩ dX6_entry_9 rfl rfl (Nat.le_of_ble_eq_true rfl) ⟨Nat.le_of_ble_eq_true rfl, Nat.le_of_ble_eq_true rfl⟩ (fun r9 S9 hp9 => ?_)
  obtain ⟨rfl, hr9⟩ := hp9
  simp only [isP_iff (n := mE M) (by have := MI_p hI; have := MI_m hI; have := MI_e hI; omega)] at hr9
  refine z_if_ne (tgt := 19) h0 dX6_entry_12 (by decide) (fun h12 => ?_) (fun h12 => ?_)
  · refine z_iload_n h0 dX6_entry_19 rfl ?_
    refine z_iconst (v := 0) h0 dX6_entry_20 (by decide) ?_
    refine z_bipush (v := 6) h0 dX6_entry_21 (by decide) ?_
    refine z_cSi (n := 3) (As := [_, _, _]) h0 hts hown c_X6_in gX6_entry_X6_in rfl (by decide +kernel) ⟨Nat.le_of_ble_eq_true rfl, Nat.le_of_ble_eq_true rfl⟩ dX6_entry_23 rfl rfl (Nat.le_of_ble_eq_true rfl) ⟨Nat.le_of_ble_eq_true rfl, Nat.le_of_ble_eq_true rfl⟩ (fun r23 S23 hp23 => ?_)
    obtain ⟨rfl, hr23⟩ := hp23
    refine z_if_eq (tgt := 33) h0 dX6_entry_26 (by decide) (fun h26 => ?_) (fun h26 => ?_)
    · refine z_iconst (v := 2) h0 dX6_entry_33 (by decide) ?_
      refine z_putC h0 hR.1 fI15 lp_41 dX6_entry_34 (fun S34 hX hR hcode => ?_)
      refine z_aload_n h0 dX6_entry_37 rfl ?_
      refine z_getI h0 fI15 lk_41 dX6_entry_38 (RF_m hR) ?_
      refine z_top hcode ?_
      refine z_if_le (tgt := 46) h0 dX6_entry_41 (by decide) (fun h41 => absurd h41 (by decide)) (fun h41 => ?_)
      refine z_iconst (v := 0) h0 dX6_entry_44 (by decide) ?_
      exact z_iret h0 hr hlk dX6_entry_45 (Nat.le_of_ble_eq_true rfl) (Nat.le_of_ble_eq_true rfl) (by first | exact (rP_no (c := 0) (by unfold oEntry; rw [if_pos (ite_f hr9 h12)]) hX hcode) | exact (rP_no (c := 1) (by unfold oEntry; rw [if_neg (fun z => z (ite_t hr9 h12)), if_pos (ite_f hr23 h26)]) hX hcode))
    · refine z_iconst (v := 0) h0 dX6_entry_29 (by decide) ?_
      refine z_goto (tgt := 34) h0 dX6_entry_30 (by decide) ?_
      refine z_putC h0 hR.1 fI15 lp_41 dX6_entry_34 (fun S34 hX hR hcode => ?_)
      refine z_aload_n h0 dX6_entry_37 rfl ?_
      refine z_getI h0 fI15 lk_41 dX6_entry_38 (RF_m hR) ?_
      refine z_top hcode ?_
      refine z_if_le (tgt := 46) h0 dX6_entry_41 (by decide) (fun h41 => ?_) (fun h41 => absurd (by decide) h41)
      have := MI_p hI; have := MI_m hI; have := MI_e hI
      have g1 := ite_t hr9 h12
      have gw := ite_t hr23 h26
      obtain ⟨a, ha, rfl⟩ := inR_nI g1 (by omega)
      have e1 := ix_of (x := nI a) rfl (by omega)
      refine z_iload_n h0 dX6_entry_46 rfl ?_
      refine z_iconst (v := 5) h0 dX6_entry_47 (by decide) ?_
      refine z_icmp_ge (tgt := 64) h0 dX6_entry_48 (by decide) (fun h48 => ?_) (fun h48 => ?_)
      · refine z_iload_n h0 dX6_entry_64 rfl ?_
        refine z_iconst (v := 5) h0 dX6_entry_65 (by decide) ?_
        refine z_icmp_ne (tgt := 78) h0 dX6_entry_66 (by decide) (fun h66 => ?_) (fun h66 => ?_)
        · refine z_aload_n h0 dX6_entry_78 rfl ?_
          refine z_sipush (v := 872) h0 dX6_entry_79 (by decide) ?_
          refine z_iload_n h0 dX6_entry_82 rfl ?_
          refine z_iadd h0 dX6_entry_83 ?_
          refine z_top (y := nI (872 + a)) (by rw [zc872, nI_add]) ?_
          refine z_cVi (n := 1) (As := [_]) h0 hts hown (c_X6_isRefunded (RF_refl hR) (q := 872 + a) (by omega) (by omega)) gX6_entry_X6_isRefunded rfl (by decide +kernel) ⟨Nat.le_of_ble_eq_true rfl, Nat.le_of_ble_eq_true rfl⟩ kOk6 rfl (RF_m hR) dX6_entry_84 rfl rfl (Nat.le_of_ble_eq_true rfl) ⟨Nat.le_of_ble_eq_true rfl, Nat.le_of_ble_eq_true rfl⟩ (fun r84 S84 hp84 => ?_)
          obtain ⟨rfl, hr84⟩ := hp84
          refine z_if_eq (tgt := 94) h0 dX6_entry_87 (by decide) (fun h87 => ?_) (fun h87 => ?_)
          · refine z_iconst (v := 0) h0 dX6_entry_94 (by decide) ?_
            exact z_iret h0 hr hlk dX6_entry_95 (Nat.le_of_ble_eq_true rfl) (Nat.le_of_ble_eq_true rfl) (rP_yes (by unfold oEntry; rw [if_neg (fun z => z g1), if_neg (fun z => z gw), e1, if_neg (fun z => z h48), if_neg h66]; unfold rfd; rw [bI_f hr84 h87]; rfl) (RX_trans hX hR.1) (hR.2.trans hcode))
          · refine z_iconst (v := 1) h0 dX6_entry_90 (by decide) ?_
            refine z_goto (tgt := 95) h0 dX6_entry_91 (by decide) ?_
            exact z_iret h0 hr hlk dX6_entry_95 (Nat.le_of_ble_eq_true rfl) (Nat.le_of_ble_eq_true rfl) (rP_yes (by unfold oEntry; rw [if_neg (fun z => z g1), if_neg (fun z => z gw), e1, if_neg (fun z => z h48), if_neg h66]; unfold rfd; rw [bI_t hr84 h87]; rfl) (RX_trans hX hR.1) (hR.2.trans hcode))
        · refine z_aload_n h0 dX6_entry_69 rfl ?_
          refine z_getA h0 hR 7 (by decide) fO17 rfl lk_31 dX6_entry_70 ?_
          refine z_iload_n h0 dX6_entry_73 rfl ?_
          refine z_ialdR h0 hR 7 (by decide) rfl dX6_entry_74 (nI_toInt (by first | omega | (dsimp only [sA, sT, mP, mM, mE] at *; omega))) (by simp only [rLen]; first | omega | (dsimp only [sA, sT, mP, mM, mE] at *; omega)) ?_
          refine z_goto (tgt := 95) h0 dX6_entry_75 (by decide) ?_
          exact z_iret h0 hr hlk dX6_entry_95 (Nat.le_of_ble_eq_true rfl) (Nat.le_of_ble_eq_true rfl) (rP_yes (by unfold oEntry; rw [if_neg (fun z => z g1), if_neg (fun z => z gw), e1, if_neg (fun z => z h48), if_pos h66]) (RX_trans hX hR.1) (hR.2.trans hcode))
      · obtain ⟨w0, hw0, rfl⟩ := nI_of2 (M := 6) (n := 6) (by decide) (k2_nlt gw.1) gw.2
        have hw5 : w0 < 5 := nI_ltof (b := 5) h48 (by omega)
        refine z_aload_n h0 dX6_entry_51 rfl ?_
        refine z_sipush (v := 872) h0 dX6_entry_52 (by decide) ?_
        refine z_iload_n h0 dX6_entry_55 rfl ?_
        refine z_iadd h0 dX6_entry_56 ?_
        refine z_top (y := nI (872 + a)) (by rw [zc872, nI_add]) ?_
        refine z_iload_n h0 dX6_entry_57 rfl ?_
        refine z_cVi (n := 2) (As := [_, _]) h0 hts hown (c_X6_part (RF_refl hR) (p := 872 + a) (by omega) (k := w0) (by omega)) gX6_entry_X6_part rfl (by decide +kernel) ⟨Nat.le_of_ble_eq_true rfl, Nat.le_of_ble_eq_true rfl⟩ kOk6 rfl (RF_m hR) dX6_entry_58 rfl rfl (Nat.le_of_ble_eq_true rfl) ⟨Nat.le_of_ble_eq_true rfl, Nat.le_of_ble_eq_true rfl⟩ (fun r58 S58 hp58 => ?_)
        obtain ⟨rfl, hr58⟩ := hp58
        subst hr58
        refine z_goto (tgt := 95) h0 dX6_entry_61 (by decide) ?_
        exact z_iret h0 hr hlk dX6_entry_95 (Nat.le_of_ble_eq_true rfl) (Nat.le_of_ble_eq_true rfl) (rP_yes (by unfold oEntry; rw [if_neg (fun z => z g1), if_neg (fun z => z gw), e1, if_pos h48, ix_of (x := nI w0) rfl (by omega)]) (RX_trans hX hR.1) (hR.2.trans hcode))
  · refine z_iconst (v := 1) h0 dX6_entry_15 (by decide) ?_
    refine z_goto (tgt := 34) h0 dX6_entry_16 (by decide) ?_
    refine z_putC h0 hR.1 fI15 lp_41 dX6_entry_34 (fun S34 hX hR hcode => ?_)
    refine z_aload_n h0 dX6_entry_37 rfl ?_
    refine z_getI h0 fI15 lk_41 dX6_entry_38 (RF_m hR) ?_
    refine z_top hcode ?_
    refine z_if_le (tgt := 46) h0 dX6_entry_41 (by decide) (fun h41 => absurd h41 (by decide)) (fun h41 => ?_)
    refine z_iconst (v := 0) h0 dX6_entry_44 (by decide) ?_
    exact z_iret h0 hr hlk dX6_entry_45 (Nat.le_of_ble_eq_true rfl) (Nat.le_of_ble_eq_true rfl) (by first | exact (rP_no (c := 0) (by unfold oEntry; rw [if_pos (ite_f hr9 h12)]) hX hcode) | exact (rP_no (c := 1) (by unfold oEntry; rw [if_neg (fun z => z (ite_t hr9 h12)), if_pos (ite_f hr23 h26)]) hX hcode))

abbrev rm_X6_messages : Room := { frames := 0, cells := 0, slots := 0, locals := 0 }
set_option maxRecDepth 100000 in
set_option maxHeartbeats 4000000 in
theorem c_X6_messages {l : Launch} {D : va_G} {cI cZ cO : ClassId} {G : Nat → Nat} {S : PS} {m c : Nat} {A : Nat → Nat} {M : MS} (hR : RF S S m A M) (hI : MI c M) (hc : c < 512) : zMi l yX6_messages wsX6_messages rm_X6_messages [.ref m] D cI cZ cO G S (fun r S' => RX S S' m A M ∧ r = nI (mM M)) := by
  refine z_of (cc := cX6_messages) (maxL := 1) (ret := (some .int)) (lo := [some (.ref m)]) (by decide) rfl rfl (Nat.le_of_ble_eq_true rfl) rfl ?_
  intro pp ee ss mi aa bl mh cd h0 hts hown hr hlk hnm
  have hown : ss.vm.findClass RX6 = some mi.cls := hown
  have inX6 : ∀ w ∈ u_ws RX6 TX6 14, w ∈ wsX6_messages := by decide +kernel
  have lk_59 : zLk ss mi aa RX6 59 7 6 := ⟨RX6, TX6, 14, "PurseWorldModel", wsX6_messages, rfl, by decide, hts, inX6, hown, hts (.fieldLink RX6 59 "PurseWorldModel" "messages" "I") (by decide +kernel), fun _ h => h⟩
  have lp_41 : zLp ss mi aa mh RX6 41 7 0 .int := ⟨RX6, TX6, 14, "PurseWorldModel", wsX6_messages, tyX6, rfl, by decide, hts, inX6, hown, hts (.fieldLink RX6 41 "PurseWorldModel" "code" "I") (by decide +kernel), fun _ h => h, tyX6_ok, nmX6, by decide +kernel, Or.inl rfl⟩
  refine z_aload_n h0 dX6_messages_0 rfl ?_
  refine z_iconst (v := 0) h0 dX6_messages_1 (by decide) ?_
  refine z_putC h0 hR.1 fI15 lp_41 dX6_messages_2 (fun S2 hX hR hcode => ?_)
  refine z_aload_n h0 dX6_messages_5 rfl ?_
  refine z_getSM h0 hR fI17 lk_59 dX6_messages_6 ?_
  exact z_iret h0 hr hlk dX6_messages_9 (Nat.le_of_ble_eq_true rfl) (Nat.le_of_ble_eq_true rfl) ⟨hX, rfl⟩

abbrev rm_X6_entries : Room := { frames := 0, cells := 0, slots := 0, locals := 0 }
set_option maxRecDepth 100000 in
set_option maxHeartbeats 4000000 in
theorem c_X6_entries {l : Launch} {D : va_G} {cI cZ cO : ClassId} {G : Nat → Nat} {S : PS} {m c : Nat} {A : Nat → Nat} {M : MS} (hR : RF S S m A M) (hI : MI c M) (hc : c < 512) : zMi l yX6_entries wsX6_entries rm_X6_entries [.ref m] D cI cZ cO G S (fun r S' => RX S S' m A M ∧ r = nI (mE M)) := by
  refine z_of (cc := cX6_entries) (maxL := 1) (ret := (some .int)) (lo := [some (.ref m)]) (by decide) rfl rfl (Nat.le_of_ble_eq_true rfl) rfl ?_
  intro pp ee ss mi aa bl mh cd h0 hts hown hr hlk hnm
  have hown : ss.vm.findClass RX6 = some mi.cls := hown
  have inX6 : ∀ w ∈ u_ws RX6 TX6 14, w ∈ wsX6_entries := by decide +kernel
  have lk_56 : zLk ss mi aa RX6 56 7 10 := ⟨RX6, TX6, 14, "PurseWorldModel", wsX6_entries, rfl, by decide, hts, inX6, hown, hts (.fieldLink RX6 56 "PurseWorldModel" "entries" "I") (by decide +kernel), fun _ h => h⟩
  have lp_41 : zLp ss mi aa mh RX6 41 7 0 .int := ⟨RX6, TX6, 14, "PurseWorldModel", wsX6_entries, tyX6, rfl, by decide, hts, inX6, hown, hts (.fieldLink RX6 41 "PurseWorldModel" "code" "I") (by decide +kernel), fun _ h => h, tyX6_ok, nmX6, by decide +kernel, Or.inl rfl⟩
  refine z_aload_n h0 dX6_entries_0 rfl ?_
  refine z_iconst (v := 0) h0 dX6_entries_1 (by decide) ?_
  refine z_putC h0 hR.1 fI15 lp_41 dX6_entries_2 (fun S2 hX hR hcode => ?_)
  refine z_aload_n h0 dX6_entries_5 rfl ?_
  refine z_getSE h0 hR fI18 lk_56 dX6_entries_6 ?_
  exact z_iret h0 hr hlk dX6_entries_9 (Nat.le_of_ble_eq_true rfl) (Nat.le_of_ble_eq_true rfl) ⟨hX, rfl⟩

abbrev rm_X6_purses : Room := { frames := 0, cells := 0, slots := 0, locals := 0 }
set_option maxRecDepth 100000 in
set_option maxHeartbeats 4000000 in
theorem c_X6_purses {l : Launch} {D : va_G} {cI cZ cO : ClassId} {G : Nat → Nat} {S : PS} {m c : Nat} {A : Nat → Nat} {M : MS} (hR : RF S S m A M) (hI : MI c M) (hc : c < 512) : zMi l yX6_purses wsX6_purses rm_X6_purses [.ref m] D cI cZ cO G S (fun r S' => RX S S' m A M ∧ r = nI (mP M)) := by
  refine z_of (cc := cX6_purses) (maxL := 1) (ret := (some .int)) (lo := [some (.ref m)]) (by decide) rfl rfl (Nat.le_of_ble_eq_true rfl) rfl ?_
  intro pp ee ss mi aa bl mh cd h0 hts hown hr hlk hnm
  have hown : ss.vm.findClass RX6 = some mi.cls := hown
  have inX6 : ∀ w ∈ u_ws RX6 TX6 14, w ∈ wsX6_purses := by decide +kernel
  have lk_45 : zLk ss mi aa RX6 45 7 1 := ⟨RX6, TX6, 14, "PurseWorldModel", wsX6_purses, rfl, by decide, hts, inX6, hown, hts (.fieldLink RX6 45 "PurseWorldModel" "purses" "I") (by decide +kernel), fun _ h => h⟩
  have lp_41 : zLp ss mi aa mh RX6 41 7 0 .int := ⟨RX6, TX6, 14, "PurseWorldModel", wsX6_purses, tyX6, rfl, by decide, hts, inX6, hown, hts (.fieldLink RX6 41 "PurseWorldModel" "code" "I") (by decide +kernel), fun _ h => h, tyX6_ok, nmX6, by decide +kernel, Or.inl rfl⟩
  refine z_aload_n h0 dX6_purses_0 rfl ?_
  refine z_iconst (v := 0) h0 dX6_purses_1 (by decide) ?_
  refine z_putC h0 hR.1 fI15 lp_41 dX6_purses_2 (fun S2 hX hR hcode => ?_)
  refine z_aload_n h0 dX6_purses_5 rfl ?_
  refine z_getSP h0 hR fI16 lk_45 dX6_purses_6 ?_
  exact z_iret h0 hr hlk dX6_purses_9 (Nat.le_of_ble_eq_true rfl) (Nat.le_of_ble_eq_true rfl) ⟨hX, rfl⟩

abbrev rm_X6_balances : Room := { frames := 0, cells := 0, slots := 0, locals := 0 }
set_option maxRecDepth 100000 in
set_option maxHeartbeats 4000000 in
theorem c_X6_balances {l : Launch} {D : va_G} {cI cZ cO : ClassId} {G : Nat → Nat} {S : PS} {m c : Nat} {A : Nat → Nat} {M : MS} (hR : RF S S m A M) (hI : MI c M) (hc : c < 512) : zMl l yX6_balances wsX6_balances rm_X6_balances [.ref m] D cI cZ cO G S (fun r S' => RX S S' m A M ∧ r = balO M) := by
  refine z_of (cc := cX6_balances) (maxL := 4) (ret := (some .long)) (lo := [some (.ref m), none, none, none]) (by decide) rfl rfl (Nat.le_of_ble_eq_true rfl) rfl ?_
  intro pp ee ss mi aa bl mh cd h0 hts hown hr hlk hnm
  have hown : ss.vm.findClass RX6 = some mi.cls := hown
  have inX6 : ∀ w ∈ u_ws RX6 TX6 14, w ∈ wsX6_balances := by decide +kernel
  have lk_7 : zLk ss mi aa RX6 7 7 2 := ⟨RX6, TX6, 14, "PurseWorldModel", wsX6_balances, rfl, by decide, hts, inX6, hown, hts (.fieldLink RX6 7 "PurseWorldModel" "balances" "[I") (by decide +kernel), fun _ h => h⟩
  have lk_45 : zLk ss mi aa RX6 45 7 1 := ⟨RX6, TX6, 14, "PurseWorldModel", wsX6_balances, rfl, by decide, hts, inX6, hown, hts (.fieldLink RX6 45 "PurseWorldModel" "purses" "I") (by decide +kernel), fun _ h => h⟩
  have lp_41 : zLp ss mi aa mh RX6 41 7 0 .int := ⟨RX6, TX6, 14, "PurseWorldModel", wsX6_balances, tyX6, rfl, by decide, hts, inX6, hown, hts (.fieldLink RX6 41 "PurseWorldModel" "code" "I") (by decide +kernel), fun _ h => h, tyX6_ok, nmX6, by decide +kernel, Or.inl rfl⟩
  have loop : ∀ (n i : Nat) (b : Int64) (S1 : PS), mP M - i < n → i ≤ mP M → b = sumTo (fun p => (mA M 0 p).toInt64) i → RX S S1 m A M → RF S1 S1 m A M → ZW pp l ee rm_X6_balances ss mi aa bl mh cd D cI cZ cO (zA cI cZ cO S ss.heap.size) (MQ bl (zQl D cI cZ cO S (fun r S' => RX S S' m A M ∧ r = balO M) ss.heap.size) aa ss rm_X6_balances.cells rm_X6_balances.slots (zA cI cZ cO S ss.heap.size)) [] 4 S1 0 0 9 [some (.ref m), some (.long b), none, some (.int (nI i))] [] := by
    intro n
    induction n with
    | zero => intro i b S1 h; exact absurd h (Nat.not_lt_zero _)
    | succ n ih =>
      intro i b S1 hm hi hb hX hR
      have := MI_p hI; have := MI_m hI; have := MI_e hI
      refine z_iload_n h0 dX6_balances_9 rfl ?_
      refine z_aload_n h0 dX6_balances_10 rfl ?_
      refine z_getSP h0 hR fI16 lk_45 dX6_balances_11 ?_
      refine z_icmp_ge (tgt := 33) h0 dX6_balances_14 (by decide) (fun h14 => ?_) (fun h14 => ?_)
      · refine z_lload_n h0 dX6_balances_33 rfl ?_
        exact z_lret h0 hr hlk dX6_balances_34 (Nat.le_of_ble_eq_true rfl) (Nat.le_of_ble_eq_true rfl) ⟨hX, by rw [hb, Nat.le_antisymm hi (nI_geof h14 (by omega) (by omega))]; rfl⟩
      · have hlt : i < mP M := nI_ltof h14 (by omega)
        refine z_lload_n h0 dX6_balances_17 rfl ?_
        refine z_aload_n h0 dX6_balances_18 rfl ?_
        refine z_getA h0 hR 0 (by decide) fO10 rfl lk_7 dX6_balances_19 ?_
        refine z_iload_n h0 dX6_balances_22 rfl ?_
        refine z_ialdR h0 hR 0 (by decide) rfl dX6_balances_23 (nI_toInt (by first | omega | (dsimp only [sA, sT, mP, mM, mE] at *; omega))) (by simp only [rLen]; first | omega | (dsimp only [sA, sT, mP, mM, mE] at *; omega)) ?_
        refine z_i2l h0 dX6_balances_24 ?_
        refine z_ladd h0 dX6_balances_25 ?_
        refine z_lstore_n (lo' := [_, _, _, _]) h0 dX6_balances_26 (by decide) rfl rfl ?_
        refine z_iinc (lo' := [_, _, _, _]) (v := nI (i + 1)) h0 dX6_balances_27 rfl (nI_1 i) (by decide) rfl rfl ?_
        refine z_goto (tgt := 9) h0 dX6_balances_30 (by decide) ?_
        exact ih (i + 1) _ _ (by omega) (by omega) (by rw [hb]; rfl) hX hR
  refine z_aload_n h0 dX6_balances_0 rfl ?_
  refine z_iconst (v := 0) h0 dX6_balances_1 (by decide) ?_
  refine z_putC h0 hR.1 fI15 lp_41 dX6_balances_2 (fun S2 hX hR hcode => ?_)
  refine z_lconst (v := 0) h0 dX6_balances_5 (by decide) ?_
  refine z_lstore_n (lo' := [_, _, _, _]) h0 dX6_balances_6 (by decide) rfl rfl ?_
  refine z_iconst (v := 0) h0 dX6_balances_7 (by decide) ?_
  refine z_istore_n (lo' := [_, _, _, _]) h0 dX6_balances_8 (by decide) rfl rfl ?_
  exact loop (mP M + 1) 0 0 _ (by omega) (Nat.zero_le _) rfl hX hR

end REFPUB2
