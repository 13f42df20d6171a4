/-! THE CLASS: abort, and what is delivered. -/
section CLS3
theorem st_cases {b c : Nat} {M : MS} {p : Nat} (hI : MIb b c M) (hp : p < mP M) : mA M 2 p = 0 ∨ mA M 2 p = 1 ∨ mA M 2 p = 2 ∨ mA M 2 p = 3 := by
  obtain ⟨s, n, v, es, hs3, -⟩ := hI.2.2.2.1 p hp
  rw [es]
  rcases (show s = 0 ∨ s = 1 ∨ s = 2 ∨ s = 3 by omega) with rfl | rfl | rfl | rfl
  · exact Or.inl rfl
  · exact Or.inr (Or.inl rfl)
  · exact Or.inr (Or.inr (Or.inl rfl))
  · exact Or.inr (Or.inr (Or.inr rfl))
theorem does_wts {S : PS} {M : MS} {p q cu t : Nat} {x s r : Int32} (hr : r = if s = x ∧ tr S cu = tr S t then 1 else 0) (hs : s = mA M 2 p) (hx : ¬ x = 0) (hcu : ¬ mA M 2 p = 0 → tr S cu = mT M p) (ht : tr S t = mT M q) : r = bI (wts M p x q) := by
  rw [hr, hs, ht]
  unfold wts
  by_cases h : mA M 2 p = x
  · rw [hcu (by rw [h]; exact hx), if_bI]
  · rw [if_neg (fun z => h z.1), decide_eq_false (fun z => h z.1)]; rfl
theorem p97 {S : PS} {a d : Nat} {v w : Int32} (f : Nat) (h9 : f ≠ 9) (h7 : f ≠ 7) : pI (sI (sI S 7 a v) 9 a w) f d = pI S f d := (pI_f (S := sI S 7 a v) (f := 9) (a := a) (v := w) h9).trans (pI_f h7)
theorem RC_ask {G : Nat → Nat} {S : PS} {x n0 ar : Nat} {L : Nat → Nat} {C : Nat → List Nat} {M : MS} {b c p a : Nat} {v : Int32} (h : RC G S x n0 ar L C M) (hI : MIb b c M) (hp : (C 0)[p]? = some a) (hs : ¬ mA M 2 p = 0) : RC G (sI (sI S 7 a v) 9 a 3) x n0 ar L C (sA (sA M 0 p v) 2 p 3) ∧ KF S (sI (sI S 7 a v) 9 a 3) := by
  obtain ⟨h1, -, -, -, -, -, -, -, ⟨cu, q1, q2, q3, q4⟩, -⟩ := h.2.2.2.2.2.1 p a hp
  have k3 : pK S a = 1 ∨ pK S a = 3 ∨ pK S a = 7 := Or.inr (Or.inl h1.2)
  have hF : KF S (sI (sI S 7 a v) 9 a 3) := KF_sI (KF_sI (KF_refl S) (Or.inr k3)) (Or.inr k3)
  refine ⟨RC_bs (s := 3) (cu := cu) h hI hp hF (LS_sI (LS_sI h.2.2.2.1 (by decide)) (by decide)) (fun d hd => ⟨fun f => (pI_a (S := sI S 7 a v) hd).trans (pI_a hd), fun f => rfl⟩) ?_ ?_ rfl rfl ?_ ?_ q1 q2 (fun z => absurd z (by decide)) (fun _ => q4 hs), hF⟩
  · exact p97 (S := S) (a := a) (v := v) (w := 3) 6 (by decide) (by decide)
  · exact p97 (S := S) (a := a) (v := v) (w := 3) 8 (by decide) (by decide)
  · exact (pI_f (S := sI S 7 a v) (f := 9) (a := a) (v := 3) (by decide)).trans pI_s
  · exact pI_s (S := sI S 7 a v)
theorem RC_rest {G : Nat → Nat} {S : PS} {x n0 ar : Nat} {L : Nat → Nat} {C : Nat → List Nat} {M : MS} {b c p a : Nat} {v : Int32} (h : RC G S x n0 ar L C M) (hI : MIb b c M) (hp : (C 0)[p]? = some a) : RC G (sO (sI (sI S 7 a v) 9 a 0) 5 a (some n0)) x n0 ar L C (sA (sA M 0 p v) 2 p 0) ∧ KF S (sO (sI (sI S 7 a v) 9 a 0) 5 a (some n0)) := by
  obtain ⟨h1, -⟩ := h.2.2.2.2.2.1 p a hp
  have k3 : pK S a = 1 ∨ pK S a = 3 ∨ pK S a = 7 := Or.inr (Or.inl h1.2)
  have hF : KF S (sO (sI (sI S 7 a v) 9 a 0) 5 a (some n0)) := KF_sO (KF_sI (KF_sI (KF_refl S) (Or.inr k3)) (Or.inr k3)) (Or.inr k3)
  refine ⟨RC_bs (s := 0) (cu := n0) h hI hp hF (LS_sO (LS_sI (LS_sI h.2.2.2.1 (by decide)) (by decide)) (by decide)) (fun d hd => ⟨fun f => (pI_a (S := sI S 7 a v) hd).trans (pI_a hd), fun f => pO_a hd⟩) ?_ ?_ (pO_f (by decide)) (pO_f (by decide)) ?_ ?_ pO_s h.2.1.1 (fun _ => rfl) (fun z => absurd rfl z), hF⟩
  · exact p97 (S := S) (a := a) (v := v) (w := 0) 6 (by decide) (by decide)
  · exact p97 (S := S) (a := a) (v := v) (w := 0) 8 (by decide) (by decide)
  · exact (pI_f (S := sI S 7 a v) (f := 9) (a := a) (v := 0) (by decide)).trans pI_s
  · exact pI_s (S := sI S 7 a v)
theorem RC_thk {G : Nat → Nat} {S : PS} {x n0 ar : Nat} {L : Nat → Nat} {C : Nat → List Nat} {M : MS} {b c p a : Nat} (h : RC G S x n0 ar L C M) (hI : MIb b c M) (hp : (C 0)[p]? = some a) : RC G (sO (sI S 9 a 0) 5 a (some n0)) x n0 ar L C (mThk M p) ∧ KF S (sO (sI S 9 a 0) 5 a (some n0)) := by
  obtain ⟨h1, -, -, -, h5, -⟩ := h.2.2.2.2.2.1 p a hp
  have k3 : pK S a = 1 ∨ pK S a = 3 ∨ pK S a = 7 := Or.inr (Or.inl h1.2)
  have hF : KF S (sO (sI S 9 a 0) 5 a (some n0)) := KF_sO (KF_sI (KF_refl S) (Or.inr k3)) (Or.inr k3)
  refine ⟨RC_bs (s := 0) (cu := n0) h hI hp hF (LS_sO (LS_sI h.2.2.2.1 (by decide)) (by decide)) (fun d hd => ⟨fun f => pI_a hd, fun f => pO_a hd⟩) (pI_f (S := S) (f := 9) (g := 6) (a := a) (v := 0) (by decide)) (pI_f (S := S) (f := 9) (g := 8) (a := a) (v := 0) (by decide)) (pO_f (by decide)) (pO_f (by decide)) ?_ pI_s pO_s h.2.1.1 (fun _ => rfl) (fun z => absurd rfl z), hF⟩
  rw [Int32.add_zero]; exact (pI_f (S := S) (f := 9) (g := 7) (a := a) (v := 0) (by decide)).trans h5
theorem len_5 {n : Nat} {r : Int32} (hr : r = if n < 5 then 0 else 1) (h : ¬ r = 0) (hn : n ≤ 5) : nI n = 5 := by
  by_cases g : n < 5
  · rw [if_pos g] at hr; exact absurd hr h
  · rw [show n = 5 by omega]; rfl
theorem len_n5 {n : Nat} {r : Int32} (hr : r = if n < 5 then 0 else 1) (h : r = 0) : ¬ nI n = 5 := by
  by_cases g : n < 5
  · intro z; have := (nI_eq (b := 5) (by omega) (by decide)).mp z; omega
  · rw [if_neg g] at hr; rw [hr] at h; exact absurd h (by decide)

abbrev rm_X5_abort : Room := { frames := 8, cells := 2, slots := 1506, locals := 211 }
set_option maxRecDepth 100000 in
set_option maxHeartbeats 4000000 in
theorem c_X5_abort {l : Launch} {D : va_G} {cI cZ cO : ClassId} {G : Nat → Nat} {S : PS} (hl : l.stackTraces = false) {x n0 ar : Nat} {L : Nat → Nat} {C : Nat → List Nat} {M : MS} (hC : RC G S x n0 ar L C M) {c : Nat} (hI : MI c M) (hc : c < 512) {y : Int32} : zXi l yX5_abort wsX5_abort rm_X5_abort [.ref x, .int y] D cI cZ cO G S (fun r S' => cP G S x (oAbort M y) r S') (fun E => (oAbort M y).1 = 1 ∧ E = eB) := by
  have hx5 := hC.1.1
  have hxn := hC.1.2.1
  have hxo := hC.1.2.2.1
  have hxs := hC.1.2.2.2.1
  have hxa := hC.1.2.2.2.2
  have har := hC.2.2.1.1
  have harr := hC.2.2.1.2
  have hA0 := hC.2.2.2.1.1 0 (by omega)
  have hA1 := hC.2.2.2.1.1 1 (by omega)
  have hA2 := hC.2.2.2.1.1 2 (by omega)
  have h70 := hA0.1
  have h71 := hA1.1
  have h72 := hA2.1
  have hl0 := hC.2.2.2.2.1.1
  have hl1 := hC.2.2.2.2.1.2.1
  have hl2 := hC.2.2.2.2.1.2.2
  have hs0 : pI S 20 (L 0) = nI (mP M) := by rw [← hl0]; exact hA0.2.1
  have hs1 : pI S 20 (L 1) = nI (mM M) := by rw [← hl1]; exact hA1.2.1
  have hs2 : pI S 20 (L 2) = nI (mE M) := by rw [← hl2]; exact hA2.2.1
  have := MI_p hI; have := MI_m hI; have := MI_e hI
  refine z_ofX (cc := cX5_abort) (maxL := 4) (ret := (some .int)) (lo := [some (.ref x), some (.int y), none, none]) (by decide) rfl rfl (Nat.le_of_ble_eq_true rfl) rfl ?_
  intro pp ee ss mi aa bl mh cd h0 hts hown hr hlk hnm htab
  have hown : ss.vm.findClass RX5 = some mi.cls := hown
  have inX3 : ∀ w ∈ u_ws RX3 TX3 7, w ∈ wsX5_abort := by decide +kernel
  have lk_123 : zLk ss mi aa RX5 123 4 5 := ⟨RX3, TX3, 7, "PurseWorld$Purse", wsX5_abort, rfl, by decide, hts, inX3, hown, hts (.fieldLink RX5 123 "PurseWorld$Purse" "state" "I") (by decide +kernel), fun _ h => h⟩
  refine z_aload_n h0 dX5_abort_0 rfl ?_
  refine z_iload_n h0 dX5_abort_1 rfl ?_
  refine z_xVr (n := 1) (As := [_]) h0 hts hown (c_X5_purseAt_x hl hC hI hc) gX5_abort_X5_purseAt rfl (by decide +kernel) ⟨Nat.le_of_ble_eq_true rfl, Nat.le_of_ble_eq_true rfl⟩ kOk5 rfl (by assumption) dX5_abort_2 rfl rfl (Nat.le_of_ble_eq_true rfl) ⟨Nat.le_of_ble_eq_true rfl, Nat.le_of_ble_eq_true rfl⟩ htab hlk (Nat.le_of_ble_eq_true rfl) (Nat.le_of_ble_eq_true rfl) (fun E hE => ⟨x1 (by unfold oAbort; rw [if_pos hE.2]), hE.1⟩) (fun r2 S2 hp2 => ?_)
  obtain ⟨rfl, a, ha, rfl, hpa⟩ := hp2
  have hin := inR_of ha (by omega)
  have e1 := ix_of (x := nI a) rfl (by omega)
  have hpr := hC.2.2.2.2.2.1 a _ hpa
  have k3 := hpr.1
  have pnum := hpr.2.1
  have pnot := hpr.2.2.1
  have pkept := hpr.2.2.2.1
  have pbal := hpr.2.2.2.2.1
  have pser := hpr.2.2.2.2.2.1
  have pst := hpr.2.2.2.2.2.2.1
  have pln := hpr.2.2.2.2.2.2.2.1
  obtain ⟨cu, pcu, cu4, cu0, cuT⟩ := hpr.2.2.2.2.2.2.2.2.1
  have plog := hpr.2.2.2.2.2.2.2.2.2
  have hAk := hC.2.2.2.1.1 (a + 3) (by omega)
  have h7k := hAk.1
  have hsk := hAk.2.1
  refine z_astore_n (lo' := [_, _, _, _]) h0 dX5_abort_5 (by decide) rfl rfl ?_
  refine z_aload_n h0 dX5_abort_6 rfl ?_
  refine z_getI h0 fI9 lk_123 dX5_abort_7 (by assumption) ?_
  refine z_top pst ?_
  refine z_istore_n (lo' := [_, _, _, _]) h0 dX5_abort_10 (by decide) rfl rfl ?_
  refine z_aload_n h0 dX5_abort_11 rfl ?_
  refine z_G0 h0 (fun hG => ?_)
  refine z_cVv (n := 0) (As := []) h0 hts hown (c_X3_end k3 pnot pkept pcu hAk (by have := (RC_len hC hI hpa).1; have := (RC_len hC hI hpa).2.1; omega) cu4 (by rw [pst]; exact st_cases hI ha)) gX5_abort_X3_end rfl (by decide +kernel) ⟨Nat.le_of_ble_eq_true rfl, Nat.le_of_ble_eq_true rfl⟩ kOk3 rfl (by assumption) dX5_abort_12 rfl rfl (Nat.le_of_ble_eq_true rfl) ⟨Nat.le_of_ble_eq_true rfl, Nat.le_of_ble_eq_true rfl⟩ (fun S12 hp12 => ?_)
  obtain ⟨C1, hC1, hF1, hCC⟩ := RC_end hC hI hpa pcu hp12 hG
  refine z_iload_n h0 dX5_abort_15 rfl ?_
  refine z_x ?_
  exact z_iret h0 hr hlk dX5_abort_16 (Nat.le_of_ble_eq_true rfl) (Nat.le_of_ble_eq_true rfl) (cP_y (by unfold oAbort; rw [if_neg (fun z => z hin), e1]) hC1 hF1)

abbrev rm_X5_mayBeAnswered : Room := { frames := 7, cells := 1, slots := 6, locals := 111 }
set_option maxRecDepth 100000 in
set_option maxHeartbeats 4000000 in
theorem c_X5_mayBeAnswered_0 {l : Launch} {D : va_G} {cI cZ cO : ClassId} {G : Nat → Nat} {S : PS} {x n0 ar : Nat} {L : Nat → Nat} {C : Nat → List Nat} {M : MS} (hC : RC G S x n0 ar L C M) {c : Nat} (hI : MI c M) (hc : c < 512) {i g p : Nat} (hi : i < mM M) (hg : (C 1)[i]? = some g) (hk : mA M 4 i = 0) (hp : p < mP M) (hto : mA M 5 i = nI p) : zMi l yX5_mayBeAnswered wsX5_mayBeAnswered rm_X5_mayBeAnswered [.ref x, .ref g] D cI cZ cO G S (fun r S' => S = S' ∧ r = bI (answers M i)) := by
  have hx5 := hC.1.1
  have hxn := hC.1.2.1
  have hxo := hC.1.2.2.1
  have hxs := hC.1.2.2.2.1
  have hxa := hC.1.2.2.2.2
  have har := hC.2.2.1.1
  have harr := hC.2.2.1.2
  have hA0 := hC.2.2.2.1.1 0 (by omega)
  have hA1 := hC.2.2.2.1.1 1 (by omega)
  have hA2 := hC.2.2.2.1.1 2 (by omega)
  have h70 := hA0.1
  have h71 := hA1.1
  have h72 := hA2.1
  have hl0 := hC.2.2.2.2.1.1
  have hl1 := hC.2.2.2.2.1.2.1
  have hl2 := hC.2.2.2.2.1.2.2
  have hs0 : pI S 20 (L 0) = nI (mP M) := by rw [← hl0]; exact hA0.2.1
  have hs1 : pI S 20 (L 1) = nI (mM M) := by rw [← hl1]; exact hA1.2.1
  have hs2 : pI S 20 (L 2) = nI (mE M) := by rw [← hl2]; exact hA2.2.1
  have := MI_p hI; have := MI_m hI; have := MI_e hI
  have hmr := hC.2.2.2.2.2.2.1 i g hg
  have k2 := hmr.1
  have mk := hmr.2.1
  have mto := hmr.2.2.1
  obtain ⟨t, mt, t4, mtr⟩ := hmr.2.2.2.1
  obtain ⟨a0, ha0⟩ := RC_at hC hp
  refine z_of (cc := cX5_mayBeAnswered) (maxL := 2) (ret := (some .boolean)) (lo := [some (.ref x), some (.ref g)]) (by decide) rfl rfl (Nat.le_of_ble_eq_true rfl) rfl ?_
  intro pp ee ss mi aa bl mh cd h0 hts hown hr hlk hnm
  have hown : ss.vm.findClass RX5 = some mi.cls := hown
  have inX2 : ∀ w ∈ u_ws RX2 TX2 5, w ∈ wsX5_mayBeAnswered := by decide +kernel
  have lk_90 : zLk ss mi aa RX5 90 3 0 := ⟨RX2, TX2, 5, "PurseWorld$Message", wsX5_mayBeAnswered, rfl, by decide, hts, inX2, hown, hts (.fieldLink RX5 90 "PurseWorld$Message" "kind" "I") (by decide +kernel), fun _ h => h⟩
  refine z_aload_n h0 dX5_mayBeAnswered_0 rfl ?_
  refine z_getI h0 fI2 lk_90 dX5_mayBeAnswered_1 (by assumption) ?_
  refine z_top (mk.trans hk) ?_
  refine z_tableOut (tgt := 68) h0 dX5_mayBeAnswered_4 (by decide) (by decide) ?_
  refine z_iconst (v := 0) h0 dX5_mayBeAnswered_68 (by decide) ?_
  exact z_zret h0 hr rfl hlk dX5_mayBeAnswered_69 (Nat.le_of_ble_eq_true rfl) (Nat.le_of_ble_eq_true rfl) ⟨rfl, by rw [answers_0 (by rw [hk]; decide) (by rw [hk]; decide) (by rw [hk]; decide)]; rfl⟩

set_option maxRecDepth 100000 in
set_option maxHeartbeats 4000000 in
theorem c_X5_mayBeAnswered_1 {l : Launch} {D : va_G} {cI cZ cO : ClassId} {G : Nat → Nat} {S : PS} {x n0 ar : Nat} {L : Nat → Nat} {C : Nat → List Nat} {M : MS} (hC : RC G S x n0 ar L C M) {c : Nat} (hI : MI c M) (hc : c < 512) {i g p : Nat} (hi : i < mM M) (hg : (C 1)[i]? = some g) (hk : mA M 4 i = 1) (hp : p < mP M) (hto : mA M 5 i = nI p) : zMi l yX5_mayBeAnswered wsX5_mayBeAnswered rm_X5_mayBeAnswered [.ref x, .ref g] D cI cZ cO G S (fun r S' => S = S' ∧ r = bI (answers M i)) := by
  have hx5 := hC.1.1
  have hxn := hC.1.2.1
  have hxo := hC.1.2.2.1
  have hxs := hC.1.2.2.2.1
  have hxa := hC.1.2.2.2.2
  have har := hC.2.2.1.1
  have harr := hC.2.2.1.2
  have hA0 := hC.2.2.2.1.1 0 (by omega)
  have hA1 := hC.2.2.2.1.1 1 (by omega)
  have hA2 := hC.2.2.2.1.1 2 (by omega)
  have h70 := hA0.1
  have h71 := hA1.1
  have h72 := hA2.1
  have hl0 := hC.2.2.2.2.1.1
  have hl1 := hC.2.2.2.2.1.2.1
  have hl2 := hC.2.2.2.2.1.2.2
  have hs0 : pI S 20 (L 0) = nI (mP M) := by rw [← hl0]; exact hA0.2.1
  have hs1 : pI S 20 (L 1) = nI (mM M) := by rw [← hl1]; exact hA1.2.1
  have hs2 : pI S 20 (L 2) = nI (mE M) := by rw [← hl2]; exact hA2.2.1
  have := MI_p hI; have := MI_m hI; have := MI_e hI
  have hmr := hC.2.2.2.2.2.2.1 i g hg
  have k2 := hmr.1
  have mk := hmr.2.1
  have mto := hmr.2.2.1
  obtain ⟨t, mt, t4, mtr⟩ := hmr.2.2.2.1
  obtain ⟨a0, ha0⟩ := RC_at hC hp
  refine z_of (cc := cX5_mayBeAnswered) (maxL := 2) (ret := (some .boolean)) (lo := [some (.ref x), some (.ref g)]) (by decide) rfl rfl (Nat.le_of_ble_eq_true rfl) rfl ?_
  intro pp ee ss mi aa bl mh cd h0 hts hown hr hlk hnm
  have hown : ss.vm.findClass RX5 = some mi.cls := hown
  have inX2 : ∀ w ∈ u_ws RX2 TX2 5, w ∈ wsX5_mayBeAnswered := by decide +kernel
  have lk_90 : zLk ss mi aa RX5 90 3 0 := ⟨RX2, TX2, 5, "PurseWorld$Message", wsX5_mayBeAnswered, rfl, by decide, hts, inX2, hown, hts (.fieldLink RX5 90 "PurseWorld$Message" "kind" "I") (by decide +kernel), fun _ h => h⟩
  refine z_aload_n h0 dX5_mayBeAnswered_0 rfl ?_
  refine z_getI h0 fI2 lk_90 dX5_mayBeAnswered_1 (by assumption) ?_
  refine z_top (mk.trans hk) ?_
  refine z_tableIn (off := 28) (tgt := 32) h0 dX5_mayBeAnswered_4 (by decide) (by decide) (by decide) (by decide) ?_
  refine z_iconst (v := 1) h0 dX5_mayBeAnswered_32 (by decide) ?_
  exact z_zret h0 hr rfl hlk dX5_mayBeAnswered_33 (Nat.le_of_ble_eq_true rfl) (Nat.le_of_ble_eq_true rfl) ⟨rfl, by rw [answers_1 hk]; rfl⟩

set_option maxRecDepth 100000 in
set_option maxHeartbeats 4000000 in
theorem c_X5_mayBeAnswered_2 {l : Launch} {D : va_G} {cI cZ cO : ClassId} {G : Nat → Nat} {S : PS} {x n0 ar : Nat} {L : Nat → Nat} {C : Nat → List Nat} {M : MS} (hC : RC G S x n0 ar L C M) {c : Nat} (hI : MI c M) (hc : c < 512) {i g p : Nat} (hi : i < mM M) (hg : (C 1)[i]? = some g) (hk : mA M 4 i = 2) (hp : p < mP M) (hto : mA M 5 i = nI p) : zMi l yX5_mayBeAnswered wsX5_mayBeAnswered rm_X5_mayBeAnswered [.ref x, .ref g] D cI cZ cO G S (fun r S' => S = S' ∧ r = bI (answers M i)) := by
  have hx5 := hC.1.1
  have hxn := hC.1.2.1
  have hxo := hC.1.2.2.1
  have hxs := hC.1.2.2.2.1
  have hxa := hC.1.2.2.2.2
  have har := hC.2.2.1.1
  have harr := hC.2.2.1.2
  have hA0 := hC.2.2.2.1.1 0 (by omega)
  have hA1 := hC.2.2.2.1.1 1 (by omega)
  have hA2 := hC.2.2.2.1.1 2 (by omega)
  have h70 := hA0.1
  have h71 := hA1.1
  have h72 := hA2.1
  have hl0 := hC.2.2.2.2.1.1
  have hl1 := hC.2.2.2.2.1.2.1
  have hl2 := hC.2.2.2.2.1.2.2
  have hs0 : pI S 20 (L 0) = nI (mP M) := by rw [← hl0]; exact hA0.2.1
  have hs1 : pI S 20 (L 1) = nI (mM M) := by rw [← hl1]; exact hA1.2.1
  have hs2 : pI S 20 (L 2) = nI (mE M) := by rw [← hl2]; exact hA2.2.1
  have := MI_p hI; have := MI_m hI; have := MI_e hI
  have hmr := hC.2.2.2.2.2.2.1 i g hg
  have k2 := hmr.1
  have mk := hmr.2.1
  have mto := hmr.2.2.1
  obtain ⟨t, mt, t4, mtr⟩ := hmr.2.2.2.1
  obtain ⟨a0, ha0⟩ := RC_at hC hp
  refine z_of (cc := cX5_mayBeAnswered) (maxL := 2) (ret := (some .boolean)) (lo := [some (.ref x), some (.ref g)]) (by decide) rfl rfl (Nat.le_of_ble_eq_true rfl) rfl ?_
  intro pp ee ss mi aa bl mh cd h0 hts hown hr hlk hnm
  have hown : ss.vm.findClass RX5 = some mi.cls := hown
  have inX2 : ∀ w ∈ u_ws RX2 TX2 5, w ∈ wsX5_mayBeAnswered := by decide +kernel
  have lk_90 : zLk ss mi aa RX5 90 3 0 := ⟨RX2, TX2, 5, "PurseWorld$Message", wsX5_mayBeAnswered, rfl, by decide, hts, inX2, hown, hts (.fieldLink RX5 90 "PurseWorld$Message" "kind" "I") (by decide +kernel), fun _ h => h⟩
  have lk_113 : zLk ss mi aa RX5 113 3 2 := ⟨RX2, TX2, 5, "PurseWorld$Message", wsX5_mayBeAnswered, rfl, by decide, hts, inX2, hown, hts (.fieldLink RX5 113 "PurseWorld$Message" "terms" "LPurseWorld$Transfer;") (by decide +kernel), fun _ h => h⟩
  have lk_199 : zLk ss mi aa RX5 199 3 1 := ⟨RX2, TX2, 5, "PurseWorld$Message", wsX5_mayBeAnswered, rfl, by decide, hts, inX2, hown, hts (.fieldLink RX5 199 "PurseWorld$Message" "to" "I") (by decide +kernel), fun _ h => h⟩
  refine z_aload_n h0 dX5_mayBeAnswered_0 rfl ?_
  refine z_getI h0 fI2 lk_90 dX5_mayBeAnswered_1 (by assumption) ?_
  refine z_top (mk.trans hk) ?_
  refine z_tableIn (off := 30) (tgt := 34) h0 dX5_mayBeAnswered_4 (by decide) (by decide) (by decide) (by decide) ?_
  refine z_aload_n h0 dX5_mayBeAnswered_34 rfl ?_
  refine z_aload_n h0 dX5_mayBeAnswered_35 rfl ?_
  refine z_getI h0 fI3 lk_199 dX5_mayBeAnswered_36 (by assumption) ?_
  refine z_top (mto.trans hto) ?_
  refine z_cVr (n := 1) (As := [_]) h0 hts hown (c_X5_purseAt_y hC hI hc hp ha0) gX5_mayBeAnswered_X5_purseAt rfl (by decide +kernel) ⟨Nat.le_of_ble_eq_true rfl, Nat.le_of_ble_eq_true rfl⟩ kOk5 rfl (by assumption) dX5_mayBeAnswered_39 rfl rfl (Nat.le_of_ble_eq_true rfl) ⟨Nat.le_of_ble_eq_true rfl, Nat.le_of_ble_eq_true rfl⟩ (fun r39 S39 hp39 => ?_)
  obtain ⟨rfl, hpa⟩ := hp39
  have hpr := hC.2.2.2.2.2.1 p _ hpa
  have k3 := hpr.1
  have pnum := hpr.2.1
  have pnot := hpr.2.2.1
  have pkept := hpr.2.2.2.1
  have pbal := hpr.2.2.2.2.1
  have pser := hpr.2.2.2.2.2.1
  have pst := hpr.2.2.2.2.2.2.1
  have pln := hpr.2.2.2.2.2.2.2.1
  obtain ⟨cu, pcu, cu4, cu0, cuT⟩ := hpr.2.2.2.2.2.2.2.2.1
  have plog := hpr.2.2.2.2.2.2.2.2.2
  have hAk := hC.2.2.2.1.1 (p + 3) (by omega)
  have h7k := hAk.1
  have hsk := hAk.2.1
  refine z_iconst (v := 1) h0 dX5_mayBeAnswered_42 (by decide) ?_
  refine z_aload_n h0 dX5_mayBeAnswered_43 rfl ?_
  refine z_getO h0 fO2 lk_113 dX5_mayBeAnswered_44 (by assumption) (by assumption) ?_
  refine z_cVi (n := 2) (As := [_, _]) h0 hts hown (c_X3_does k3 pcu cu4 t4) gX5_mayBeAnswered_X3_does rfl (by decide +kernel) ⟨Nat.le_of_ble_eq_true rfl, Nat.le_of_ble_eq_true rfl⟩ kOk3 rfl (by assumption) dX5_mayBeAnswered_47 rfl rfl (Nat.le_of_ble_eq_true rfl) ⟨Nat.le_of_ble_eq_true rfl, Nat.le_of_ble_eq_true rfl⟩ (fun r47 S47 hp47 => ?_)
  obtain ⟨rfl, hr47⟩ := hp47
  have hrw := does_wts hr47 pst (by decide) cuT mtr
  exact z_zret h0 hr (by rw [hrw]; exact bI_nar _) hlk dX5_mayBeAnswered_50 (Nat.le_of_ble_eq_true rfl) (Nat.le_of_ble_eq_true rfl) ⟨rfl, hrw.trans (congrArg bI (answers_2 hk (ix_of hto (by omega))).symm)⟩

set_option maxRecDepth 100000 in
set_option maxHeartbeats 4000000 in
theorem c_X5_mayBeAnswered_3 {l : Launch} {D : va_G} {cI cZ cO : ClassId} {G : Nat → Nat} {S : PS} {x n0 ar : Nat} {L : Nat → Nat} {C : Nat → List Nat} {M : MS} (hC : RC G S x n0 ar L C M) {c : Nat} (hI : MI c M) (hc : c < 512) {i g p : Nat} (hi : i < mM M) (hg : (C 1)[i]? = some g) (hk : mA M 4 i = 3) (hp : p < mP M) (hto : mA M 5 i = nI p) : zMi l yX5_mayBeAnswered wsX5_mayBeAnswered rm_X5_mayBeAnswered [.ref x, .ref g] D cI cZ cO G S (fun r S' => S = S' ∧ r = bI (answers M i)) := by
  have hx5 := hC.1.1
  have hxn := hC.1.2.1
  have hxo := hC.1.2.2.1
  have hxs := hC.1.2.2.2.1
  have hxa := hC.1.2.2.2.2
  have har := hC.2.2.1.1
  have harr := hC.2.2.1.2
  have hA0 := hC.2.2.2.1.1 0 (by omega)
  have hA1 := hC.2.2.2.1.1 1 (by omega)
  have hA2 := hC.2.2.2.1.1 2 (by omega)
  have h70 := hA0.1
  have h71 := hA1.1
  have h72 := hA2.1
  have hl0 := hC.2.2.2.2.1.1
  have hl1 := hC.2.2.2.2.1.2.1
  have hl2 := hC.2.2.2.2.1.2.2
  have hs0 : pI S 20 (L 0) = nI (mP M) := by rw [← hl0]; exact hA0.2.1
  have hs1 : pI S 20 (L 1) = nI (mM M) := by rw [← hl1]; exact hA1.2.1
  have hs2 : pI S 20 (L 2) = nI (mE M) := by rw [← hl2]; exact hA2.2.1
  have := MI_p hI; have := MI_m hI; have := MI_e hI
  have hmr := hC.2.2.2.2.2.2.1 i g hg
  have k2 := hmr.1
  have mk := hmr.2.1
  have mto := hmr.2.2.1
  obtain ⟨t, mt, t4, mtr⟩ := hmr.2.2.2.1
  obtain ⟨a0, ha0⟩ := RC_at hC hp
  refine z_of (cc := cX5_mayBeAnswered) (maxL := 2) (ret := (some .boolean)) (lo := [some (.ref x), some (.ref g)]) (by decide) rfl rfl (Nat.le_of_ble_eq_true rfl) rfl ?_
  intro pp ee ss mi aa bl mh cd h0 hts hown hr hlk hnm
  have hown : ss.vm.findClass RX5 = some mi.cls := hown
  have inX2 : ∀ w ∈ u_ws RX2 TX2 5, w ∈ wsX5_mayBeAnswered := by decide +kernel
  have lk_90 : zLk ss mi aa RX5 90 3 0 := ⟨RX2, TX2, 5, "PurseWorld$Message", wsX5_mayBeAnswered, rfl, by decide, hts, inX2, hown, hts (.fieldLink RX5 90 "PurseWorld$Message" "kind" "I") (by decide +kernel), fun _ h => h⟩
  have lk_113 : zLk ss mi aa RX5 113 3 2 := ⟨RX2, TX2, 5, "PurseWorld$Message", wsX5_mayBeAnswered, rfl, by decide, hts, inX2, hown, hts (.fieldLink RX5 113 "PurseWorld$Message" "terms" "LPurseWorld$Transfer;") (by decide +kernel), fun _ h => h⟩
  have lk_199 : zLk ss mi aa RX5 199 3 1 := ⟨RX2, TX2, 5, "PurseWorld$Message", wsX5_mayBeAnswered, rfl, by decide, hts, inX2, hown, hts (.fieldLink RX5 199 "PurseWorld$Message" "to" "I") (by decide +kernel), fun _ h => h⟩
  refine z_aload_n h0 dX5_mayBeAnswered_0 rfl ?_
  refine z_getI h0 fI2 lk_90 dX5_mayBeAnswered_1 (by assumption) ?_
  refine z_top (mk.trans hk) ?_
  refine z_tableIn (off := 47) (tgt := 51) h0 dX5_mayBeAnswered_4 (by decide) (by decide) (by decide) (by decide) ?_
  refine z_aload_n h0 dX5_mayBeAnswered_51 rfl ?_
  refine z_aload_n h0 dX5_mayBeAnswered_52 rfl ?_
  refine z_getI h0 fI3 lk_199 dX5_mayBeAnswered_53 (by assumption) ?_
  refine z_top (mto.trans hto) ?_
  refine z_cVr (n := 1) (As := [_]) h0 hts hown (c_X5_purseAt_y hC hI hc hp ha0) gX5_mayBeAnswered_X5_purseAt rfl (by decide +kernel) ⟨Nat.le_of_ble_eq_true rfl, Nat.le_of_ble_eq_true rfl⟩ kOk5 rfl (by assumption) dX5_mayBeAnswered_56 rfl rfl (Nat.le_of_ble_eq_true rfl) ⟨Nat.le_of_ble_eq_true rfl, Nat.le_of_ble_eq_true rfl⟩ (fun r56 S56 hp56 => ?_)
  obtain ⟨rfl, hpa⟩ := hp56
  have hpr := hC.2.2.2.2.2.1 p _ hpa
  have k3 := hpr.1
  have pnum := hpr.2.1
  have pnot := hpr.2.2.1
  have pkept := hpr.2.2.2.1
  have pbal := hpr.2.2.2.2.1
  have pser := hpr.2.2.2.2.2.1
  have pst := hpr.2.2.2.2.2.2.1
  have pln := hpr.2.2.2.2.2.2.2.1
  obtain ⟨cu, pcu, cu4, cu0, cuT⟩ := hpr.2.2.2.2.2.2.2.2.1
  have plog := hpr.2.2.2.2.2.2.2.2.2
  have hAk := hC.2.2.2.1.1 (p + 3) (by omega)
  have h7k := hAk.1
  have hsk := hAk.2.1
  refine z_iconst (v := 2) h0 dX5_mayBeAnswered_59 (by decide) ?_
  refine z_aload_n h0 dX5_mayBeAnswered_60 rfl ?_
  refine z_getO h0 fO2 lk_113 dX5_mayBeAnswered_61 (by assumption) (by assumption) ?_
  refine z_cVi (n := 2) (As := [_, _]) h0 hts hown (c_X3_does k3 pcu cu4 t4) gX5_mayBeAnswered_X3_does rfl (by decide +kernel) ⟨Nat.le_of_ble_eq_true rfl, Nat.le_of_ble_eq_true rfl⟩ kOk3 rfl (by assumption) dX5_mayBeAnswered_64 rfl rfl (Nat.le_of_ble_eq_true rfl) ⟨Nat.le_of_ble_eq_true rfl, Nat.le_of_ble_eq_true rfl⟩ (fun r64 S64 hp64 => ?_)
  obtain ⟨rfl, hr64⟩ := hp64
  have hrw := does_wts hr64 pst (by decide) cuT mtr
  exact z_zret h0 hr (by rw [hrw]; exact bI_nar _) hlk dX5_mayBeAnswered_67 (Nat.le_of_ble_eq_true rfl) (Nat.le_of_ble_eq_true rfl) ⟨rfl, hrw.trans (congrArg bI (answers_3 hk (ix_of hto (by omega))).symm)⟩

set_option maxRecDepth 100000 in
set_option maxHeartbeats 4000000 in
theorem c_X5_mayBeAnswered_4 {l : Launch} {D : va_G} {cI cZ cO : ClassId} {G : Nat → Nat} {S : PS} {x n0 ar : Nat} {L : Nat → Nat} {C : Nat → List Nat} {M : MS} (hC : RC G S x n0 ar L C M) {c : Nat} (hI : MI c M) (hc : c < 512) {i g p : Nat} (hi : i < mM M) (hg : (C 1)[i]? = some g) (hk : mA M 4 i = 4) (hp : p < mP M) (hto : mA M 5 i = nI p) : zMi l yX5_mayBeAnswered wsX5_mayBeAnswered rm_X5_mayBeAnswered [.ref x, .ref g] D cI cZ cO G S (fun r S' => S = S' ∧ r = bI (answers M i)) := by
  have hx5 := hC.1.1
  have hxn := hC.1.2.1
  have hxo := hC.1.2.2.1
  have hxs := hC.1.2.2.2.1
  have hxa := hC.1.2.2.2.2
  have har := hC.2.2.1.1
  have harr := hC.2.2.1.2
  have hA0 := hC.2.2.2.1.1 0 (by omega)
  have hA1 := hC.2.2.2.1.1 1 (by omega)
  have hA2 := hC.2.2.2.1.1 2 (by omega)
  have h70 := hA0.1
  have h71 := hA1.1
  have h72 := hA2.1
  have hl0 := hC.2.2.2.2.1.1
  have hl1 := hC.2.2.2.2.1.2.1
  have hl2 := hC.2.2.2.2.1.2.2
  have hs0 : pI S 20 (L 0) = nI (mP M) := by rw [← hl0]; exact hA0.2.1
  have hs1 : pI S 20 (L 1) = nI (mM M) := by rw [← hl1]; exact hA1.2.1
  have hs2 : pI S 20 (L 2) = nI (mE M) := by rw [← hl2]; exact hA2.2.1
  have := MI_p hI; have := MI_m hI; have := MI_e hI
  have hmr := hC.2.2.2.2.2.2.1 i g hg
  have k2 := hmr.1
  have mk := hmr.2.1
  have mto := hmr.2.2.1
  obtain ⟨t, mt, t4, mtr⟩ := hmr.2.2.2.1
  obtain ⟨a0, ha0⟩ := RC_at hC hp
  refine z_of (cc := cX5_mayBeAnswered) (maxL := 2) (ret := (some .boolean)) (lo := [some (.ref x), some (.ref g)]) (by decide) rfl rfl (Nat.le_of_ble_eq_true rfl) rfl ?_
  intro pp ee ss mi aa bl mh cd h0 hts hown hr hlk hnm
  have hown : ss.vm.findClass RX5 = some mi.cls := hown
  have inX2 : ∀ w ∈ u_ws RX2 TX2 5, w ∈ wsX5_mayBeAnswered := by decide +kernel
  have lk_90 : zLk ss mi aa RX5 90 3 0 := ⟨RX2, TX2, 5, "PurseWorld$Message", wsX5_mayBeAnswered, rfl, by decide, hts, inX2, hown, hts (.fieldLink RX5 90 "PurseWorld$Message" "kind" "I") (by decide +kernel), fun _ h => h⟩
  refine z_aload_n h0 dX5_mayBeAnswered_0 rfl ?_
  refine z_getI h0 fI2 lk_90 dX5_mayBeAnswered_1 (by assumption) ?_
  refine z_top (mk.trans hk) ?_
  refine z_tableOut (tgt := 68) h0 dX5_mayBeAnswered_4 (by decide) (by decide) ?_
  refine z_iconst (v := 0) h0 dX5_mayBeAnswered_68 (by decide) ?_
  exact z_zret h0 hr rfl hlk dX5_mayBeAnswered_69 (Nat.le_of_ble_eq_true rfl) (Nat.le_of_ble_eq_true rfl) ⟨rfl, by rw [answers_0 (by rw [hk]; decide) (by rw [hk]; decide) (by rw [hk]; decide)]; rfl⟩

set_option maxRecDepth 100000 in
set_option maxHeartbeats 4000000 in
theorem c_X5_mayBeAnswered_5 {l : Launch} {D : va_G} {cI cZ cO : ClassId} {G : Nat → Nat} {S : PS} {x n0 ar : Nat} {L : Nat → Nat} {C : Nat → List Nat} {M : MS} (hC : RC G S x n0 ar L C M) {c : Nat} (hI : MI c M) (hc : c < 512) {i g : Nat} (hi : i < mM M) (hg : (C 1)[i]? = some g) (hk : mA M 4 i = 5) : zMi l yX5_mayBeAnswered wsX5_mayBeAnswered rm_X5_mayBeAnswered [.ref x, .ref g] D cI cZ cO G S (fun r S' => S = S' ∧ r = bI (answers M i)) := by
  have hx5 := hC.1.1
  have hxn := hC.1.2.1
  have hxo := hC.1.2.2.1
  have hxs := hC.1.2.2.2.1
  have hxa := hC.1.2.2.2.2
  have har := hC.2.2.1.1
  have harr := hC.2.2.1.2
  have hA0 := hC.2.2.2.1.1 0 (by omega)
  have hA1 := hC.2.2.2.1.1 1 (by omega)
  have hA2 := hC.2.2.2.1.1 2 (by omega)
  have h70 := hA0.1
  have h71 := hA1.1
  have h72 := hA2.1
  have hl0 := hC.2.2.2.2.1.1
  have hl1 := hC.2.2.2.2.1.2.1
  have hl2 := hC.2.2.2.2.1.2.2
  have hs0 : pI S 20 (L 0) = nI (mP M) := by rw [← hl0]; exact hA0.2.1
  have hs1 : pI S 20 (L 1) = nI (mM M) := by rw [← hl1]; exact hA1.2.1
  have hs2 : pI S 20 (L 2) = nI (mE M) := by rw [← hl2]; exact hA2.2.1
  have := MI_p hI; have := MI_m hI; have := MI_e hI
  have hmr := hC.2.2.2.2.2.2.1 i g hg
  have k2 := hmr.1
  have mk := hmr.2.1
  have mto := hmr.2.2.1
  obtain ⟨t, mt, t4, mtr⟩ := hmr.2.2.2.1
  refine z_of (cc := cX5_mayBeAnswered) (maxL := 2) (ret := (some .boolean)) (lo := [some (.ref x), some (.ref g)]) (by decide) rfl rfl (Nat.le_of_ble_eq_true rfl) rfl ?_
  intro pp ee ss mi aa bl mh cd h0 hts hown hr hlk hnm
  have hown : ss.vm.findClass RX5 = some mi.cls := hown
  have inX2 : ∀ w ∈ u_ws RX2 TX2 5, w ∈ wsX5_mayBeAnswered := by decide +kernel
  have lk_90 : zLk ss mi aa RX5 90 3 0 := ⟨RX2, TX2, 5, "PurseWorld$Message", wsX5_mayBeAnswered, rfl, by decide, hts, inX2, hown, hts (.fieldLink RX5 90 "PurseWorld$Message" "kind" "I") (by decide +kernel), fun _ h => h⟩
  refine z_aload_n h0 dX5_mayBeAnswered_0 rfl ?_
  refine z_getI h0 fI2 lk_90 dX5_mayBeAnswered_1 (by assumption) ?_
  refine z_top (mk.trans hk) ?_
  refine z_tableOut (tgt := 68) h0 dX5_mayBeAnswered_4 (by decide) (by decide) ?_
  refine z_iconst (v := 0) h0 dX5_mayBeAnswered_68 (by decide) ?_
  exact z_zret h0 hr rfl hlk dX5_mayBeAnswered_69 (Nat.le_of_ble_eq_true rfl) (Nat.le_of_ble_eq_true rfl) ⟨rfl, by rw [answers_0 (by rw [hk]; decide) (by rw [hk]; decide) (by rw [hk]; decide)]; rfl⟩

set_option maxRecDepth 100000 in
set_option maxHeartbeats 4000000 in
theorem c_X5_mayBeAnswered_6 {l : Launch} {D : va_G} {cI cZ cO : ClassId} {G : Nat → Nat} {S : PS} {x n0 ar : Nat} {L : Nat → Nat} {C : Nat → List Nat} {M : MS} (hC : RC G S x n0 ar L C M) {c : Nat} (hI : MI c M) (hc : c < 512) {i g p : Nat} (hi : i < mM M) (hg : (C 1)[i]? = some g) (hk : mA M 4 i = 6) (hp : p < mP M) (hto : mA M 5 i = nI p) : zMi l yX5_mayBeAnswered wsX5_mayBeAnswered rm_X5_mayBeAnswered [.ref x, .ref g] D cI cZ cO G S (fun r S' => S = S' ∧ r = bI (answers M i)) := by
  have hx5 := hC.1.1
  have hxn := hC.1.2.1
  have hxo := hC.1.2.2.1
  have hxs := hC.1.2.2.2.1
  have hxa := hC.1.2.2.2.2
  have har := hC.2.2.1.1
  have harr := hC.2.2.1.2
  have hA0 := hC.2.2.2.1.1 0 (by omega)
  have hA1 := hC.2.2.2.1.1 1 (by omega)
  have hA2 := hC.2.2.2.1.1 2 (by omega)
  have h70 := hA0.1
  have h71 := hA1.1
  have h72 := hA2.1
  have hl0 := hC.2.2.2.2.1.1
  have hl1 := hC.2.2.2.2.1.2.1
  have hl2 := hC.2.2.2.2.1.2.2
  have hs0 : pI S 20 (L 0) = nI (mP M) := by rw [← hl0]; exact hA0.2.1
  have hs1 : pI S 20 (L 1) = nI (mM M) := by rw [← hl1]; exact hA1.2.1
  have hs2 : pI S 20 (L 2) = nI (mE M) := by rw [← hl2]; exact hA2.2.1
  have := MI_p hI; have := MI_m hI; have := MI_e hI
  have hmr := hC.2.2.2.2.2.2.1 i g hg
  have k2 := hmr.1
  have mk := hmr.2.1
  have mto := hmr.2.2.1
  obtain ⟨t, mt, t4, mtr⟩ := hmr.2.2.2.1
  obtain ⟨a0, ha0⟩ := RC_at hC hp
  refine z_of (cc := cX5_mayBeAnswered) (maxL := 2) (ret := (some .boolean)) (lo := [some (.ref x), some (.ref g)]) (by decide) rfl rfl (Nat.le_of_ble_eq_true rfl) rfl ?_
  intro pp ee ss mi aa bl mh cd h0 hts hown hr hlk hnm
  have hown : ss.vm.findClass RX5 = some mi.cls := hown
  have inX2 : ∀ w ∈ u_ws RX2 TX2 5, w ∈ wsX5_mayBeAnswered := by decide +kernel
  have lk_90 : zLk ss mi aa RX5 90 3 0 := ⟨RX2, TX2, 5, "PurseWorld$Message", wsX5_mayBeAnswered, rfl, by decide, hts, inX2, hown, hts (.fieldLink RX5 90 "PurseWorld$Message" "kind" "I") (by decide +kernel), fun _ h => h⟩
  refine z_aload_n h0 dX5_mayBeAnswered_0 rfl ?_
  refine z_getI h0 fI2 lk_90 dX5_mayBeAnswered_1 (by assumption) ?_
  refine z_top (mk.trans hk) ?_
  refine z_tableOut (tgt := 68) h0 dX5_mayBeAnswered_4 (by decide) (by decide) ?_
  refine z_iconst (v := 0) h0 dX5_mayBeAnswered_68 (by decide) ?_
  exact z_zret h0 hr rfl hlk dX5_mayBeAnswered_69 (Nat.le_of_ble_eq_true rfl) (Nat.le_of_ble_eq_true rfl) ⟨rfl, by rw [answers_0 (by rw [hk]; decide) (by rw [hk]; decide) (by rw [hk]; decide)]; rfl⟩

end CLS3
