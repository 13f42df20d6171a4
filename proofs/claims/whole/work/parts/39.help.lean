/-! THE LAW'S HELPERS. -/
section HELPERS
def hPo (G : Nat → Nat) (S : PS) (x : Nat) (o : OR) (r : Int32) (u : PS × (Nat → Int64)) : Prop := r = nI o.1 ∧ (o.1 = 0 → u.2 0 = o.2.1.toInt64) ∧ RepC G u.1 x o.2.2 ∧ KF S u.1
theorem hPo_no {G : Nat → Nat} {S : PS} {x n0 ar k : Nat} {L : Nat → Nat} {C : Nat → List Nat} {M : MS} {o : OR} {f : Nat → Int64} (h1 : o.1 = k + 1) (hM : ¬ o.1 = 0 → o.2.2 = M) (hC : RC G S x n0 ar L C M) : hPo G S x o (nI (k + 1)) (S, f) :=
  ⟨by rw [h1], fun h => by rw [h1] at h; exact absurd h (Nat.succ_ne_zero _), by rw [hM (by rw [h1]; exact Nat.succ_ne_zero _)]; exact ⟨n0, ar, L, C, hC⟩, KF_refl S⟩
theorem hPo_yes {G : Nat → Nat} {S S' : PS} {x : Nat} {o : OR} {r : Int32} {f : Nat → Int64} {v : Int64} (h : cP G S x o r S') (hv : v = r.toInt64) : hPo G S x o 0 (S', vp_updL f 0 v) := by
  obtain ⟨h1, h2, h3, h4⟩ := h
  exact ⟨by rw [h1]; rfl, fun _ => by rw [← h2]; exact (show vp_updL f 0 v 0 = v from pk_uLs).trans hv, h3, h4⟩

theorem no_oPurse {M : MS} {y : Int32} : ¬ (oPurse M y).1 = 0 → (oPurse M y).2.2 = M := by
  unfold oPurse
  repeat' split
  all_goals first | (intro _; rfl) | (intro h; exact absurd rfl h)
theorem no_oBegin {M : MS} {y1 y2 z : Int32} : ¬ (oBegin M y1 y2 z).1 = 0 → (oBegin M y1 y2 z).2.2 = M := by
  unfold oBegin
  repeat' split
  all_goals first | (intro _; rfl) | (intro h; exact absurd rfl h)
theorem no_oDeliver {M : MS} {y : Int32} : ¬ (oDeliver M y).1 = 0 → (oDeliver M y).2.2 = M := by
  unfold oDeliver
  repeat' split
  all_goals first | (intro _; rfl) | (intro h; exact absurd rfl h)
theorem no_oAbort {M : MS} {y : Int32} : ¬ (oAbort M y).1 = 0 → (oAbort M y).2.2 = M := by
  unfold oAbort
  repeat' split
  all_goals first | (intro _; rfl) | (intro h; exact absurd rfl h)
theorem no_oReadLog {M : MS} {y : Int32} : ¬ (oReadLog M y).1 = 0 → (oReadLog M y).2.2 = M := by
  unfold oReadLog
  repeat' split
  all_goals first | (intro _; rfl) | (intro h; exact absurd rfl h)
theorem no_oAuth {M : MS} {y : Int32} : ¬ (oAuth M y).1 = 0 → (oAuth M y).2.2 = M := by
  unfold oAuth
  repeat' split
  all_goals first | (intro _; rfl) | (intro h; exact absurd rfl h)
theorem no_oRefund {M : MS} {y : Int32} : ¬ (oRefund M y).1 = 0 → (oRefund M y).2.2 = M := by
  unfold oRefund
  repeat' split
  all_goals first | (intro _; rfl) | (intro h; exact absurd rfl h)
theorem no_oTold {M : MS} {y w : Int32} : ¬ (oTold M y w).1 = 0 → (oTold M y w).2.2 = M := by
  unfold oTold
  repeat' split
  all_goals first | (intro _; rfl) | (intro h; exact absurd rfl h)
theorem no_oTransfer {M : MS} {y w : Int32} : ¬ (oTransfer M y w).1 = 0 → (oTransfer M y w).2.2 = M := by
  unfold oTransfer
  repeat' split
  all_goals first | (intro _; rfl) | (intro h; exact absurd rfl h)
theorem no_oLog {M : MS} {y i w : Int32} : ¬ (oLog M y i w).1 = 0 → (oLog M y i w).2.2 = M := by
  unfold oLog
  repeat' split
  all_goals first | (intro _; rfl) | (intro h; exact absurd rfl h)
theorem no_oMessage {M : MS} {y w : Int32} : ¬ (oMessage M y w).1 = 0 → (oMessage M y w).2.2 = M := by
  unfold oMessage
  repeat' split
  all_goals first | (intro _; rfl) | (intro h; exact absurd rfl h)
theorem no_oEntry {M : MS} {y w : Int32} : ¬ (oEntry M y w).1 = 0 → (oEntry M y w).2.2 = M := by
  unfold oEntry
  repeat' split
  all_goals first | (intro _; rfl) | (intro h; exact absurd rfl h)
theorem del_b {G : Nat → Nat} {S S' : PS} {x : Nat} {M : MS} {y r : Int32} (h : cP G S x (oDeliver M y) r S') : ∃ b, r = bI b := by
  obtain ⟨h1, h2, -⟩ := h
  rw [h2]
  unfold oDeliver at h1 ⊢
  split
  · exact ⟨false, rfl⟩
  split
  · exact ⟨false, rfl⟩
  exact ⟨_, rfl⟩

abbrev rm_L_purse : Room := { frames := 8, cells := 4, slots := 1520, locals := 213 }
set_option maxRecDepth 100000 in
set_option maxHeartbeats 4000000 in
theorem c_L_purse {l : Launch} {D : va_G} {cI cZ cO cJ : ClassId} {G : Nat → Nat} {S : PS} {o : Nat} {f : Nat → Int64} (hl : l.stackTraces = false) {x n0 ar : Nat} {L : Nat → Nat} {C : Nat → List Nat} {M : MS} (hC : RC G S x n0 ar L C M) {c : Nat} (hI : MI c M) (hc : c < 512) {y : Int32} : zH l yL_purse wsL_purse rm_L_purse [.ref x, .int y, .ref o] D cI cZ cO cJ G S o f (fun r u => hPo G S x (oPurse M y) r u) := by
  refine z_ofH (cc := cL_purse) (maxL := 4) (ret := some .int) (hh := [(0, 9, 12, 13), (0, 9, 15, 15)]) (lo := [some (.ref x), some (.int y), some (.ref o), none]) (by decide) rfl rfl (Nat.le_of_ble_eq_true rfl) rfl ?_
  intro pp ee ss mi aa bl mh cd h0 hJ hts hown hr hlk htab
  have hown : ss.vm.findClass RL = some mi.cls := hown
  have kx : ∀ E, xAU (oPurse M y) E → ∃ h, zTk ss aa cd RL 4 E h ∧ ∀ q9 : Nat, ZW pp l ee rm_L_purse ss mi aa bl mh cd D cI cZ cO (zHA cI cZ cO cJ S o f ss.heap.size) (MQ bl (va_Qi (fun r u => hPo G S x (oPurse M y) r u) (zHB D cI cZ cO cJ (zHA cI cZ cO cJ S o f ss.heap.size) o) (zHA cI cZ cO cJ S o f ss.heap.size)) aa ss rm_L_purse.cells rm_L_purse.slots (zHA cI cZ cO cJ S o f ss.heap.size)) (oC cJ o f) 4 S (0 + rm_X5_purse.cells) (0 + rm_X5_purse.slots) h [some (.ref x), some (.int y), some (.ref o), none] [.ref q9] := by
    intro E hE
    rcases hE with ⟨h1, rfl⟩ | ⟨h1, rfl⟩
    · refine ⟨12, ⟨[], ⟨0, 9, 12, 13⟩, [⟨0, 9, 15, 15⟩], eA, htab.trans rfl, ?_, rfl, by decide, (hts (.classLink RL 13 "java/lang/IllegalArgumentException") (by decide +kernel)), (va_Nw.use rfl (h0.2.2.2.2.2.2.2.2.2.2.2.1 eA (by decide +kernel))), rfl⟩, fun q9 => ?_⟩
      · intro z9 hz
        exact absurd hz List.not_mem_nil
      · skip
        refine z_astore_n (lo' := [_, _, _, _]) h0 dL_purse_12 (by decide) rfl rfl ?_
        refine z_iconst (v := 1) h0 dL_purse_13 (by decide) ?_
        exact z_hret h0 hr hlk dL_purse_14 (Nat.le_of_ble_eq_true rfl) (Nat.le_of_ble_eq_true rfl) (hPo_no (k := 0) h1 no_oPurse hC)
    · refine ⟨15, ⟨[⟨0, 9, 12, 13⟩], ⟨0, 9, 15, 15⟩, [], eU, htab.trans rfl, ?_, rfl, by decide, (hts (.classLink RL 15 "java/lang/UnsupportedOperationException") (by decide +kernel)), (va_Nw.use rfl (h0.2.2.2.2.2.2.2.2.2.2.2.1 eU (by decide +kernel))), rfl⟩, fun q9 => ?_⟩
      · intro z9 hz
        rcases List.mem_cons.mp hz with rfl | hz
        · exact Or.inr ⟨by decide, eA, (hts (.classLink RL 13 "java/lang/IllegalArgumentException") (by decide +kernel)), h0.2.2.2.2.2.2.2.2.2.2.2.2.2.1 (eU, eA) (by decide +kernel)⟩
        exact absurd hz List.not_mem_nil
      · skip
        refine z_astore_n (lo' := [_, _, _, _]) h0 dL_purse_15 (by decide) rfl rfl ?_
        refine z_iconst (v := 2) h0 dL_purse_16 (by decide) ?_
        exact z_hret h0 hr hlk dL_purse_17 (Nat.le_of_ble_eq_true rfl) (Nat.le_of_ble_eq_true rfl) (hPo_no (k := 1) h1 no_oPurse hC)
  refine z_aload_n h0 dL_purse_0 rfl ?_
  refine z_iconst (v := 0) h0 dL_purse_1 (by decide) ?_
  refine z_aload_n h0 dL_purse_2 rfl ?_
  refine z_iload_n h0 dL_purse_3 rfl ?_
  refine z_hXi (n := 1) (As := [_]) h0 hts hown (c_X5_purse hl hC hI hc) gL_purse_X5_purse rfl (by decide +kernel) ⟨Nat.le_of_ble_eq_true rfl, Nat.le_of_ble_eq_true rfl⟩ kOk5 rfl hC.1.1 dL_purse_4 rfl rfl (Nat.le_of_ble_eq_true rfl) ⟨Nat.le_of_ble_eq_true rfl, Nat.le_of_ble_eq_true rfl⟩ kx (fun r S1 hp => ?_)
  refine z_i2l h0 dL_purse_7 ?_
  refine z_hast h0 hJ dL_purse_8 ?_
  refine z_goto (tgt := 18) h0 dL_purse_9 (by decide) ?_
  refine z_iconst (v := 0) h0 dL_purse_18 (by decide) ?_
  exact z_hret h0 hr hlk dL_purse_19 (Nat.le_of_ble_eq_true rfl) (Nat.le_of_ble_eq_true rfl) (hPo_yes hp rfl)

abbrev rm_L_begin : Room := { frames := 9, cells := 10, slots := 3080, locals := 241 }
set_option maxRecDepth 100000 in
set_option maxHeartbeats 4000000 in
theorem c_L_begin {l : Launch} {D : va_G} {cI cZ cO cJ : ClassId} {G : Nat → Nat} {S : PS} {o : Nat} {f : Nat → Int64} (hl : l.stackTraces = false) {x n0 ar : Nat} {L : Nat → Nat} {C : Nat → List Nat} {M : MS} (hC : RC G S x n0 ar L C M) {c : Nat} (hI : MI c M) (hc : c < 512) {y1 y2 z : Int32} : zH l yL_begin wsL_begin rm_L_begin [.ref x, .int y1, .int y2, .int z, .ref o] D cI cZ cO cJ G S o f (fun r u => hPo G S x (oBegin M y1 y2 z) r u) := by
  refine z_ofH (cc := cL_begin) (maxL := 6) (ret := some .int) (hh := [(0, 12, 15, 21), (0, 12, 19, 13), (0, 12, 23, 15)]) (lo := [some (.ref x), some (.int y1), some (.int y2), some (.int z), some (.ref o), none]) (by decide) rfl rfl (Nat.le_of_ble_eq_true rfl) rfl ?_
  intro pp ee ss mi aa bl mh cd h0 hJ hts hown hr hlk htab
  have hown : ss.vm.findClass RL = some mi.cls := hown
  have kx : ∀ E, xBAU (oBegin M y1 y2 z) E → ∃ h, zTk ss aa cd RL 7 E h ∧ ∀ q9 : Nat, ZW pp l ee rm_L_begin ss mi aa bl mh cd D cI cZ cO (zHA cI cZ cO cJ S o f ss.heap.size) (MQ bl (va_Qi (fun r u => hPo G S x (oBegin M y1 y2 z) r u) (zHB D cI cZ cO cJ (zHA cI cZ cO cJ S o f ss.heap.size) o) (zHA cI cZ cO cJ S o f ss.heap.size)) aa ss rm_L_begin.cells rm_L_begin.slots (zHA cI cZ cO cJ S o f ss.heap.size)) (oC cJ o f) 6 S (0 + rm_X5_begin.cells) (0 + rm_X5_begin.slots) h [some (.ref x), some (.int y1), some (.int y2), some (.int z), some (.ref o), none] [.ref q9] := by
    intro E hE
    rcases hE with ⟨h1, rfl⟩ | ⟨h1, rfl⟩ | ⟨h1, rfl⟩
    · refine ⟨15, ⟨[], ⟨0, 12, 15, 21⟩, [⟨0, 12, 19, 13⟩, ⟨0, 12, 23, 15⟩], eB, htab.trans rfl, ?_, rfl, by decide, (hts (.classLink RL 21 "java/lang/IndexOutOfBoundsException") (by decide +kernel)), (va_Nw.use rfl (h0.2.2.2.2.2.2.2.2.2.2.2.1 eB (by decide +kernel))), rfl⟩, fun q9 => ?_⟩
      · intro z9 hz
        exact absurd hz List.not_mem_nil
      · skip
        refine z_astore (lo' := [_, _, _, _, _, _]) h0 dL_begin_15 (by decide) rfl rfl ?_
        refine z_iconst (v := 1) h0 dL_begin_17 (by decide) ?_
        exact z_hret h0 hr hlk dL_begin_18 (Nat.le_of_ble_eq_true rfl) (Nat.le_of_ble_eq_true rfl) (hPo_no (k := 0) h1 no_oBegin hC)
    · refine ⟨19, ⟨[⟨0, 12, 15, 21⟩], ⟨0, 12, 19, 13⟩, [⟨0, 12, 23, 15⟩], eA, htab.trans rfl, ?_, rfl, by decide, (hts (.classLink RL 13 "java/lang/IllegalArgumentException") (by decide +kernel)), (va_Nw.use rfl (h0.2.2.2.2.2.2.2.2.2.2.2.1 eA (by decide +kernel))), rfl⟩, fun q9 => ?_⟩
      · intro z9 hz
        rcases List.mem_cons.mp hz with rfl | hz
        · exact Or.inr ⟨by decide, eB, (hts (.classLink RL 21 "java/lang/IndexOutOfBoundsException") (by decide +kernel)), h0.2.2.2.2.2.2.2.2.2.2.2.2.2.1 (eA, eB) (by decide +kernel)⟩
        exact absurd hz List.not_mem_nil
      · skip
        refine z_astore (lo' := [_, _, _, _, _, _]) h0 dL_begin_19 (by decide) rfl rfl ?_
        refine z_iconst (v := 2) h0 dL_begin_21 (by decide) ?_
        exact z_hret h0 hr hlk dL_begin_22 (Nat.le_of_ble_eq_true rfl) (Nat.le_of_ble_eq_true rfl) (hPo_no (k := 1) h1 no_oBegin hC)
    · refine ⟨23, ⟨[⟨0, 12, 15, 21⟩, ⟨0, 12, 19, 13⟩], ⟨0, 12, 23, 15⟩, [], eU, htab.trans rfl, ?_, rfl, by decide, (hts (.classLink RL 15 "java/lang/UnsupportedOperationException") (by decide +kernel)), (va_Nw.use rfl (h0.2.2.2.2.2.2.2.2.2.2.2.1 eU (by decide +kernel))), rfl⟩, fun q9 => ?_⟩
      · intro z9 hz
        rcases List.mem_cons.mp hz with rfl | hz
        · exact Or.inr ⟨by decide, eB, (hts (.classLink RL 21 "java/lang/IndexOutOfBoundsException") (by decide +kernel)), h0.2.2.2.2.2.2.2.2.2.2.2.2.2.1 (eU, eB) (by decide +kernel)⟩
        rcases List.mem_cons.mp hz with rfl | hz
        · exact Or.inr ⟨by decide, eA, (hts (.classLink RL 13 "java/lang/IllegalArgumentException") (by decide +kernel)), h0.2.2.2.2.2.2.2.2.2.2.2.2.2.1 (eU, eA) (by decide +kernel)⟩
        exact absurd hz List.not_mem_nil
      · skip
        refine z_astore (lo' := [_, _, _, _, _, _]) h0 dL_begin_23 (by decide) rfl rfl ?_
        refine z_iconst (v := 3) h0 dL_begin_25 (by decide) ?_
        exact z_hret h0 hr hlk dL_begin_26 (Nat.le_of_ble_eq_true rfl) (Nat.le_of_ble_eq_true rfl) (hPo_no (k := 2) h1 no_oBegin hC)
  refine z_aload h0 dL_begin_0 rfl ?_
  refine z_iconst (v := 0) h0 dL_begin_2 (by decide) ?_
  refine z_aload_n h0 dL_begin_3 rfl ?_
  refine z_iload_n h0 dL_begin_4 rfl ?_
  refine z_iload_n h0 dL_begin_5 rfl ?_
  refine z_iload_n h0 dL_begin_6 rfl ?_
  refine z_hXi (n := 3) (As := [_, _, _]) h0 hts hown (c_X5_begin hl hC hI hc) gL_begin_X5_begin rfl (by decide +kernel) ⟨Nat.le_of_ble_eq_true rfl, Nat.le_of_ble_eq_true rfl⟩ kOk5 rfl hC.1.1 dL_begin_7 rfl rfl (Nat.le_of_ble_eq_true rfl) ⟨Nat.le_of_ble_eq_true rfl, Nat.le_of_ble_eq_true rfl⟩ kx (fun r S1 hp => ?_)
  refine z_i2l h0 dL_begin_10 ?_
  refine z_hast h0 hJ dL_begin_11 ?_
  refine z_goto (tgt := 27) h0 dL_begin_12 (by decide) ?_
  refine z_iconst (v := 0) h0 dL_begin_27 (by decide) ?_
  exact z_hret h0 hr hlk dL_begin_28 (Nat.le_of_ble_eq_true rfl) (Nat.le_of_ble_eq_true rfl) (hPo_yes hp rfl)

abbrev rm_L_deliver : Room := { frames := 10, cells := 10, slots := 3060, locals := 260 }
set_option maxRecDepth 100000 in
set_option maxHeartbeats 4000000 in
theorem c_L_deliver {l : Launch} {D : va_G} {cI cZ cO cJ : ClassId} {G : Nat → Nat} {S : PS} {o : Nat} {f : Nat → Int64} (hl : l.stackTraces = false) {x n0 ar : Nat} {L : Nat → Nat} {C : Nat → List Nat} {M : MS} (hC : RC G S x n0 ar L C M) {c : Nat} (hI : MI c M) (hc : c < 512) {y : Int32} : zH l yL_deliver wsL_deliver rm_L_deliver [.ref x, .int y, .ref o] D cI cZ cO cJ G S o f (fun r u => hPo G S x (oDeliver M y) r u) := by
  refine z_ofH (cc := cL_deliver) (maxL := 4) (ret := some .int) (hh := [(0, 16, 19, 21), (0, 16, 22, 15)]) (lo := [some (.ref x), some (.int y), some (.ref o), none]) (by decide) rfl rfl (Nat.le_of_ble_eq_true rfl) rfl ?_
  intro pp ee ss mi aa bl mh cd h0 hJ hts hown hr hlk htab
  have hown : ss.vm.findClass RL = some mi.cls := hown
  have kx : ∀ E, xBU (oDeliver M y) E → ∃ h, zTk ss aa cd RL 4 E h ∧ ∀ q9 : Nat, ZW pp l ee rm_L_deliver ss mi aa bl mh cd D cI cZ cO (zHA cI cZ cO cJ S o f ss.heap.size) (MQ bl (va_Qi (fun r u => hPo G S x (oDeliver M y) r u) (zHB D cI cZ cO cJ (zHA cI cZ cO cJ S o f ss.heap.size) o) (zHA cI cZ cO cJ S o f ss.heap.size)) aa ss rm_L_deliver.cells rm_L_deliver.slots (zHA cI cZ cO cJ S o f ss.heap.size)) (oC cJ o f) 4 S (0 + rm_X5_deliver.cells) (0 + rm_X5_deliver.slots) h [some (.ref x), some (.int y), some (.ref o), none] [.ref q9] := by
    intro E hE
    rcases hE with ⟨h1, rfl⟩ | ⟨h1, rfl⟩
    · refine ⟨19, ⟨[], ⟨0, 16, 19, 21⟩, [⟨0, 16, 22, 15⟩], eB, htab.trans rfl, ?_, rfl, by decide, (hts (.classLink RL 21 "java/lang/IndexOutOfBoundsException") (by decide +kernel)), (va_Nw.use rfl (h0.2.2.2.2.2.2.2.2.2.2.2.1 eB (by decide +kernel))), rfl⟩, fun q9 => ?_⟩
      · intro z9 hz
        exact absurd hz List.not_mem_nil
      · skip
        refine z_astore_n (lo' := [_, _, _, _]) h0 dL_deliver_19 (by decide) rfl rfl ?_
        refine z_iconst (v := 1) h0 dL_deliver_20 (by decide) ?_
        exact z_hret h0 hr hlk dL_deliver_21 (Nat.le_of_ble_eq_true rfl) (Nat.le_of_ble_eq_true rfl) (hPo_no (k := 0) h1 no_oDeliver hC)
    · refine ⟨22, ⟨[⟨0, 16, 19, 21⟩], ⟨0, 16, 22, 15⟩, [], eU, htab.trans rfl, ?_, rfl, by decide, (hts (.classLink RL 15 "java/lang/UnsupportedOperationException") (by decide +kernel)), (va_Nw.use rfl (h0.2.2.2.2.2.2.2.2.2.2.2.1 eU (by decide +kernel))), rfl⟩, fun q9 => ?_⟩
      · intro z9 hz
        rcases List.mem_cons.mp hz with rfl | hz
        · exact Or.inr ⟨by decide, eB, (hts (.classLink RL 21 "java/lang/IndexOutOfBoundsException") (by decide +kernel)), h0.2.2.2.2.2.2.2.2.2.2.2.2.2.1 (eU, eB) (by decide +kernel)⟩
        exact absurd hz List.not_mem_nil
      · skip
        refine z_astore_n (lo' := [_, _, _, _]) h0 dL_deliver_22 (by decide) rfl rfl ?_
        refine z_iconst (v := 2) h0 dL_deliver_23 (by decide) ?_
        exact z_hret h0 hr hlk dL_deliver_24 (Nat.le_of_ble_eq_true rfl) (Nat.le_of_ble_eq_true rfl) (hPo_no (k := 1) h1 no_oDeliver hC)
  refine z_aload_n h0 dL_deliver_0 rfl ?_
  refine z_iconst (v := 0) h0 dL_deliver_1 (by decide) ?_
  refine z_aload_n h0 dL_deliver_2 rfl ?_
  refine z_iload_n h0 dL_deliver_3 rfl ?_
  refine z_hXi (n := 1) (As := [_]) h0 hts hown (c_X5_deliver hl hC hI hc) gL_deliver_X5_deliver rfl (by decide +kernel) ⟨Nat.le_of_ble_eq_true rfl, Nat.le_of_ble_eq_true rfl⟩ kOk5 rfl hC.1.1 dL_deliver_4 rfl rfl (Nat.le_of_ble_eq_true rfl) ⟨Nat.le_of_ble_eq_true rfl, Nat.le_of_ble_eq_true rfl⟩ kx (fun r S1 hp => ?_)
  refine z_if_eq (tgt := 14) h0 dL_deliver_7 (by decide) (fun h7 => ?_) (fun h7 => ?_)
  · refine z_lconst (v := 0) h0 dL_deliver_14 (by decide) ?_
    refine z_hast h0 hJ dL_deliver_15 ?_
    refine z_goto (tgt := 25) h0 dL_deliver_16 (by decide) ?_
    refine z_iconst (v := 0) h0 dL_deliver_25 (by decide) ?_
    exact z_hret h0 hr hlk dL_deliver_26 (Nat.le_of_ble_eq_true rfl) (Nat.le_of_ble_eq_true rfl) (hPo_yes hp (by rw [h7]; rfl))
  · refine z_lconst (v := 1) h0 dL_deliver_10 (by decide) ?_
    refine z_goto (tgt := 15) h0 dL_deliver_11 (by decide) ?_
    refine z_hast h0 hJ dL_deliver_15 ?_
    refine z_goto (tgt := 25) h0 dL_deliver_16 (by decide) ?_
    refine z_iconst (v := 0) h0 dL_deliver_25 (by decide) ?_
    exact z_hret h0 hr hlk dL_deliver_26 (Nat.le_of_ble_eq_true rfl) (Nat.le_of_ble_eq_true rfl) (hPo_yes hp (by obtain ⟨b9, hb9⟩ := del_b hp; rw [hb9] at h7 ⊢; rw [bI_tt h7]; rfl))

abbrev rm_L_abort : Room := { frames := 9, cells := 2, slots := 1506, locals := 234 }
set_option maxRecDepth 100000 in
set_option maxHeartbeats 4000000 in
theorem c_L_abort {l : Launch} {D : va_G} {cI cZ cO cJ : ClassId} {G : Nat → Nat} {S : PS} {o : Nat} {f : Nat → Int64} (hl : l.stackTraces = false) {x n0 ar : Nat} {L : Nat → Nat} {C : Nat → List Nat} {M : MS} (hC : RC G S x n0 ar L C M) {c : Nat} (hI : MI c M) (hc : c < 512) {y : Int32} : zH l yL_abort wsL_abort rm_L_abort [.ref x, .int y, .ref o] D cI cZ cO cJ G S o f (fun r u => hPo G S x (oAbort M y) r u) := by
  refine z_ofH (cc := cL_abort) (maxL := 4) (ret := some .int) (hh := [(0, 9, 12, 21)]) (lo := [some (.ref x), some (.int y), some (.ref o), none]) (by decide) rfl rfl (Nat.le_of_ble_eq_true rfl) rfl ?_
  intro pp ee ss mi aa bl mh cd h0 hJ hts hown hr hlk htab
  have hown : ss.vm.findClass RL = some mi.cls := hown
  have kx : ∀ E, (fun E => (oAbort M y).1 = 1 ∧ E = eB) E → ∃ h, zTk ss aa cd RL 4 E h ∧ ∀ q9 : Nat, ZW pp l ee rm_L_abort ss mi aa bl mh cd D cI cZ cO (zHA cI cZ cO cJ S o f ss.heap.size) (MQ bl (va_Qi (fun r u => hPo G S x (oAbort M y) r u) (zHB D cI cZ cO cJ (zHA cI cZ cO cJ S o f ss.heap.size) o) (zHA cI cZ cO cJ S o f ss.heap.size)) aa ss rm_L_abort.cells rm_L_abort.slots (zHA cI cZ cO cJ S o f ss.heap.size)) (oC cJ o f) 4 S (0 + rm_X5_abort.cells) (0 + rm_X5_abort.slots) h [some (.ref x), some (.int y), some (.ref o), none] [.ref q9] := by
    intro E hE
    obtain ⟨h1, rfl⟩ := hE
    refine ⟨12, ⟨[], ⟨0, 9, 12, 21⟩, [], eB, htab.trans rfl, ?_, rfl, by decide, (hts (.classLink RL 21 "java/lang/IndexOutOfBoundsException") (by decide +kernel)), (va_Nw.use rfl (h0.2.2.2.2.2.2.2.2.2.2.2.1 eB (by decide +kernel))), rfl⟩, fun q9 => ?_⟩
    · intro z9 hz
      exact absurd hz List.not_mem_nil
    · skip
      refine z_astore_n (lo' := [_, _, _, _]) h0 dL_abort_12 (by decide) rfl rfl ?_
      refine z_iconst (v := 1) h0 dL_abort_13 (by decide) ?_
      exact z_hret h0 hr hlk dL_abort_14 (Nat.le_of_ble_eq_true rfl) (Nat.le_of_ble_eq_true rfl) (hPo_no (k := 0) h1 no_oAbort hC)
  refine z_aload_n h0 dL_abort_0 rfl ?_
  refine z_iconst (v := 0) h0 dL_abort_1 (by decide) ?_
  refine z_aload_n h0 dL_abort_2 rfl ?_
  refine z_iload_n h0 dL_abort_3 rfl ?_
  refine z_hXi (n := 1) (As := [_]) h0 hts hown (c_X5_abort hl hC hI hc) gL_abort_X5_abort rfl (by decide +kernel) ⟨Nat.le_of_ble_eq_true rfl, Nat.le_of_ble_eq_true rfl⟩ kOk5 rfl hC.1.1 dL_abort_4 rfl rfl (Nat.le_of_ble_eq_true rfl) ⟨Nat.le_of_ble_eq_true rfl, Nat.le_of_ble_eq_true rfl⟩ kx (fun r S1 hp => ?_)
  refine z_i2l h0 dL_abort_7 ?_
  refine z_hast h0 hJ dL_abort_8 ?_
  refine z_goto (tgt := 15) h0 dL_abort_9 (by decide) ?_
  refine z_iconst (v := 0) h0 dL_abort_15 (by decide) ?_
  exact z_hret h0 hr hlk dL_abort_16 (Nat.le_of_ble_eq_true rfl) (Nat.le_of_ble_eq_true rfl) (hPo_yes hp rfl)

abbrev rm_L_readLog : Room := { frames := 8, cells := 20, slots := 9000, locals := 215 }
set_option maxRecDepth 100000 in
set_option maxHeartbeats 4000000 in
theorem c_L_readLog {l : Launch} {D : va_G} {cI cZ cO cJ : ClassId} {G : Nat → Nat} {S : PS} {o : Nat} {f : Nat → Int64} (hl : l.stackTraces = false) {x n0 ar : Nat} {L : Nat → Nat} {C : Nat → List Nat} {M : MS} (hC : RC G S x n0 ar L C M) {c : Nat} (hI : MI c M) (hc : c < 512) {y : Int32} : zH l yL_readLog wsL_readLog rm_L_readLog [.ref x, .int y, .ref o] D cI cZ cO cJ G S o f (fun r u => hPo G S x (oReadLog M y) r u) := by
  refine z_ofH (cc := cL_readLog) (maxL := 4) (ret := some .int) (hh := [(0, 9, 12, 21), (0, 9, 15, 33), (0, 9, 18, 15)]) (lo := [some (.ref x), some (.int y), some (.ref o), none]) (by decide) rfl rfl (Nat.le_of_ble_eq_true rfl) rfl ?_
  intro pp ee ss mi aa bl mh cd h0 hJ hts hown hr hlk htab
  have hown : ss.vm.findClass RL = some mi.cls := hown
  have kx : ∀ E, xBSU (oReadLog M y) E → ∃ h, zTk ss aa cd RL 4 E h ∧ ∀ q9 : Nat, ZW pp l ee rm_L_readLog ss mi aa bl mh cd D cI cZ cO (zHA cI cZ cO cJ S o f ss.heap.size) (MQ bl (va_Qi (fun r u => hPo G S x (oReadLog M y) r u) (zHB D cI cZ cO cJ (zHA cI cZ cO cJ S o f ss.heap.size) o) (zHA cI cZ cO cJ S o f ss.heap.size)) aa ss rm_L_readLog.cells rm_L_readLog.slots (zHA cI cZ cO cJ S o f ss.heap.size)) (oC cJ o f) 4 S (0 + rm_X5_readLog.cells) (0 + rm_X5_readLog.slots) h [some (.ref x), some (.int y), some (.ref o), none] [.ref q9] := by
    intro E hE
    rcases hE with ⟨h1, rfl⟩ | ⟨h1, rfl⟩ | ⟨h1, rfl⟩
    · refine ⟨12, ⟨[], ⟨0, 9, 12, 21⟩, [⟨0, 9, 15, 33⟩, ⟨0, 9, 18, 15⟩], eB, htab.trans rfl, ?_, rfl, by decide, (hts (.classLink RL 21 "java/lang/IndexOutOfBoundsException") (by decide +kernel)), (va_Nw.use rfl (h0.2.2.2.2.2.2.2.2.2.2.2.1 eB (by decide +kernel))), rfl⟩, fun q9 => ?_⟩
      · intro z9 hz
        exact absurd hz List.not_mem_nil
      · skip
        refine z_astore_n (lo' := [_, _, _, _]) h0 dL_readLog_12 (by decide) rfl rfl ?_
        refine z_iconst (v := 1) h0 dL_readLog_13 (by decide) ?_
        exact z_hret h0 hr hlk dL_readLog_14 (Nat.le_of_ble_eq_true rfl) (Nat.le_of_ble_eq_true rfl) (hPo_no (k := 0) h1 no_oReadLog hC)
    · refine ⟨15, ⟨[⟨0, 9, 12, 21⟩], ⟨0, 9, 15, 33⟩, [⟨0, 9, 18, 15⟩], eS, htab.trans rfl, ?_, rfl, by decide, (hts (.classLink RL 33 "java/lang/IllegalStateException") (by decide +kernel)), (va_Nw.use rfl (h0.2.2.2.2.2.2.2.2.2.2.2.1 eS (by decide +kernel))), rfl⟩, fun q9 => ?_⟩
      · intro z9 hz
        rcases List.mem_cons.mp hz with rfl | hz
        · exact Or.inr ⟨by decide, eB, (hts (.classLink RL 21 "java/lang/IndexOutOfBoundsException") (by decide +kernel)), h0.2.2.2.2.2.2.2.2.2.2.2.2.2.1 (eS, eB) (by decide +kernel)⟩
        exact absurd hz List.not_mem_nil
      · skip
        refine z_astore_n (lo' := [_, _, _, _]) h0 dL_readLog_15 (by decide) rfl rfl ?_
        refine z_iconst (v := 2) h0 dL_readLog_16 (by decide) ?_
        exact z_hret h0 hr hlk dL_readLog_17 (Nat.le_of_ble_eq_true rfl) (Nat.le_of_ble_eq_true rfl) (hPo_no (k := 1) h1 no_oReadLog hC)
    · refine ⟨18, ⟨[⟨0, 9, 12, 21⟩, ⟨0, 9, 15, 33⟩], ⟨0, 9, 18, 15⟩, [], eU, htab.trans rfl, ?_, rfl, by decide, (hts (.classLink RL 15 "java/lang/UnsupportedOperationException") (by decide +kernel)), (va_Nw.use rfl (h0.2.2.2.2.2.2.2.2.2.2.2.1 eU (by decide +kernel))), rfl⟩, fun q9 => ?_⟩
      · intro z9 hz
        rcases List.mem_cons.mp hz with rfl | hz
        · exact Or.inr ⟨by decide, eB, (hts (.classLink RL 21 "java/lang/IndexOutOfBoundsException") (by decide +kernel)), h0.2.2.2.2.2.2.2.2.2.2.2.2.2.1 (eU, eB) (by decide +kernel)⟩
        rcases List.mem_cons.mp hz with rfl | hz
        · exact Or.inr ⟨by decide, eS, (hts (.classLink RL 33 "java/lang/IllegalStateException") (by decide +kernel)), h0.2.2.2.2.2.2.2.2.2.2.2.2.2.1 (eU, eS) (by decide +kernel)⟩
        exact absurd hz List.not_mem_nil
      · skip
        refine z_astore_n (lo' := [_, _, _, _]) h0 dL_readLog_18 (by decide) rfl rfl ?_
        refine z_iconst (v := 3) h0 dL_readLog_19 (by decide) ?_
        exact z_hret h0 hr hlk dL_readLog_20 (Nat.le_of_ble_eq_true rfl) (Nat.le_of_ble_eq_true rfl) (hPo_no (k := 2) h1 no_oReadLog hC)
  refine z_aload_n h0 dL_readLog_0 rfl ?_
  refine z_iconst (v := 0) h0 dL_readLog_1 (by decide) ?_
  refine z_aload_n h0 dL_readLog_2 rfl ?_
  refine z_iload_n h0 dL_readLog_3 rfl ?_
  refine z_hXi (n := 1) (As := [_]) h0 hts hown (c_X5_readLog hl hC hI hc) gL_readLog_X5_readLog rfl (by decide +kernel) ⟨Nat.le_of_ble_eq_true rfl, Nat.le_of_ble_eq_true rfl⟩ kOk5 rfl hC.1.1 dL_readLog_4 rfl rfl (Nat.le_of_ble_eq_true rfl) ⟨Nat.le_of_ble_eq_true rfl, Nat.le_of_ble_eq_true rfl⟩ kx (fun r S1 hp => ?_)
  refine z_i2l h0 dL_readLog_7 ?_
  refine z_hast h0 hJ dL_readLog_8 ?_
  refine z_goto (tgt := 21) h0 dL_readLog_9 (by decide) ?_
  refine z_iconst (v := 0) h0 dL_readLog_21 (by decide) ?_
  exact z_hret h0 hr hlk dL_readLog_22 (Nat.le_of_ble_eq_true rfl) (Nat.le_of_ble_eq_true rfl) (hPo_yes hp rfl)

abbrev rm_L_authorise : Room := { frames := 8, cells := 6, slots := 1540, locals := 213 }
set_option maxRecDepth 100000 in
set_option maxHeartbeats 4000000 in
theorem c_L_authorise {l : Launch} {D : va_G} {cI cZ cO cJ : ClassId} {G : Nat → Nat} {S : PS} {o : Nat} {f : Nat → Int64} (hl : l.stackTraces = false) {x n0 ar : Nat} {L : Nat → Nat} {C : Nat → List Nat} {M : MS} (hC : RC G S x n0 ar L C M) {c : Nat} (hI : MI c M) (hc : c < 512) {y : Int32} : zH l yL_authorise wsL_authorise rm_L_authorise [.ref x, .int y, .ref o] D cI cZ cO cJ G S o f (fun r u => hPo G S x (oAuth M y) r u) := by
  refine z_ofH (cc := cL_authorise) (maxL := 4) (ret := some .int) (hh := [(0, 9, 12, 21), (0, 9, 15, 33), (0, 9, 18, 15)]) (lo := [some (.ref x), some (.int y), some (.ref o), none]) (by decide) rfl rfl (Nat.le_of_ble_eq_true rfl) rfl ?_
  intro pp ee ss mi aa bl mh cd h0 hJ hts hown hr hlk htab
  have hown : ss.vm.findClass RL = some mi.cls := hown
  have kx : ∀ E, xBSU (oAuth M y) E → ∃ h, zTk ss aa cd RL 4 E h ∧ ∀ q9 : Nat, ZW pp l ee rm_L_authorise ss mi aa bl mh cd D cI cZ cO (zHA cI cZ cO cJ S o f ss.heap.size) (MQ bl (va_Qi (fun r u => hPo G S x (oAuth M y) r u) (zHB D cI cZ cO cJ (zHA cI cZ cO cJ S o f ss.heap.size) o) (zHA cI cZ cO cJ S o f ss.heap.size)) aa ss rm_L_authorise.cells rm_L_authorise.slots (zHA cI cZ cO cJ S o f ss.heap.size)) (oC cJ o f) 4 S (0 + rm_X5_authorise.cells) (0 + rm_X5_authorise.slots) h [some (.ref x), some (.int y), some (.ref o), none] [.ref q9] := by
    intro E hE
    rcases hE with ⟨h1, rfl⟩ | ⟨h1, rfl⟩ | ⟨h1, rfl⟩
    · refine ⟨12, ⟨[], ⟨0, 9, 12, 21⟩, [⟨0, 9, 15, 33⟩, ⟨0, 9, 18, 15⟩], eB, htab.trans rfl, ?_, rfl, by decide, (hts (.classLink RL 21 "java/lang/IndexOutOfBoundsException") (by decide +kernel)), (va_Nw.use rfl (h0.2.2.2.2.2.2.2.2.2.2.2.1 eB (by decide +kernel))), rfl⟩, fun q9 => ?_⟩
      · intro z9 hz
        exact absurd hz List.not_mem_nil
      · skip
        refine z_astore_n (lo' := [_, _, _, _]) h0 dL_authorise_12 (by decide) rfl rfl ?_
        refine z_iconst (v := 1) h0 dL_authorise_13 (by decide) ?_
        exact z_hret h0 hr hlk dL_authorise_14 (Nat.le_of_ble_eq_true rfl) (Nat.le_of_ble_eq_true rfl) (hPo_no (k := 0) h1 no_oAuth hC)
    · refine ⟨15, ⟨[⟨0, 9, 12, 21⟩], ⟨0, 9, 15, 33⟩, [⟨0, 9, 18, 15⟩], eS, htab.trans rfl, ?_, rfl, by decide, (hts (.classLink RL 33 "java/lang/IllegalStateException") (by decide +kernel)), (va_Nw.use rfl (h0.2.2.2.2.2.2.2.2.2.2.2.1 eS (by decide +kernel))), rfl⟩, fun q9 => ?_⟩
      · intro z9 hz
        rcases List.mem_cons.mp hz with rfl | hz
        · exact Or.inr ⟨by decide, eB, (hts (.classLink RL 21 "java/lang/IndexOutOfBoundsException") (by decide +kernel)), h0.2.2.2.2.2.2.2.2.2.2.2.2.2.1 (eS, eB) (by decide +kernel)⟩
        exact absurd hz List.not_mem_nil
      · skip
        refine z_astore_n (lo' := [_, _, _, _]) h0 dL_authorise_15 (by decide) rfl rfl ?_
        refine z_iconst (v := 2) h0 dL_authorise_16 (by decide) ?_
        exact z_hret h0 hr hlk dL_authorise_17 (Nat.le_of_ble_eq_true rfl) (Nat.le_of_ble_eq_true rfl) (hPo_no (k := 1) h1 no_oAuth hC)
    · refine ⟨18, ⟨[⟨0, 9, 12, 21⟩, ⟨0, 9, 15, 33⟩], ⟨0, 9, 18, 15⟩, [], eU, htab.trans rfl, ?_, rfl, by decide, (hts (.classLink RL 15 "java/lang/UnsupportedOperationException") (by decide +kernel)), (va_Nw.use rfl (h0.2.2.2.2.2.2.2.2.2.2.2.1 eU (by decide +kernel))), rfl⟩, fun q9 => ?_⟩
      · intro z9 hz
        rcases List.mem_cons.mp hz with rfl | hz
        · exact Or.inr ⟨by decide, eB, (hts (.classLink RL 21 "java/lang/IndexOutOfBoundsException") (by decide +kernel)), h0.2.2.2.2.2.2.2.2.2.2.2.2.2.1 (eU, eB) (by decide +kernel)⟩
        rcases List.mem_cons.mp hz with rfl | hz
        · exact Or.inr ⟨by decide, eS, (hts (.classLink RL 33 "java/lang/IllegalStateException") (by decide +kernel)), h0.2.2.2.2.2.2.2.2.2.2.2.2.2.1 (eU, eS) (by decide +kernel)⟩
        exact absurd hz List.not_mem_nil
      · skip
        refine z_astore_n (lo' := [_, _, _, _]) h0 dL_authorise_18 (by decide) rfl rfl ?_
        refine z_iconst (v := 3) h0 dL_authorise_19 (by decide) ?_
        exact z_hret h0 hr hlk dL_authorise_20 (Nat.le_of_ble_eq_true rfl) (Nat.le_of_ble_eq_true rfl) (hPo_no (k := 2) h1 no_oAuth hC)
  refine z_aload_n h0 dL_authorise_0 rfl ?_
  refine z_iconst (v := 0) h0 dL_authorise_1 (by decide) ?_
  refine z_aload_n h0 dL_authorise_2 rfl ?_
  refine z_iload_n h0 dL_authorise_3 rfl ?_
  refine z_hXi (n := 1) (As := [_]) h0 hts hown (c_X5_authorise hl hC hI hc) gL_authorise_X5_authorise rfl (by decide +kernel) ⟨Nat.le_of_ble_eq_true rfl, Nat.le_of_ble_eq_true rfl⟩ kOk5 rfl hC.1.1 dL_authorise_4 rfl rfl (Nat.le_of_ble_eq_true rfl) ⟨Nat.le_of_ble_eq_true rfl, Nat.le_of_ble_eq_true rfl⟩ kx (fun r S1 hp => ?_)
  refine z_i2l h0 dL_authorise_7 ?_
  refine z_hast h0 hJ dL_authorise_8 ?_
  refine z_goto (tgt := 21) h0 dL_authorise_9 (by decide) ?_
  refine z_iconst (v := 0) h0 dL_authorise_21 (by decide) ?_
  exact z_hret h0 hr hlk dL_authorise_22 (Nat.le_of_ble_eq_true rfl) (Nat.le_of_ble_eq_true rfl) (hPo_yes hp rfl)

abbrev rm_L_refund : Room := { frames := 8, cells := 4, slots := 24, locals := 134 }
set_option maxRecDepth 100000 in
set_option maxHeartbeats 4000000 in
theorem c_L_refund {l : Launch} {D : va_G} {cI cZ cO cJ : ClassId} {G : Nat → Nat} {S : PS} {o : Nat} {f : Nat → Int64} (hl : l.stackTraces = false) {x n0 ar : Nat} {L : Nat → Nat} {C : Nat → List Nat} {M : MS} (hC : RC G S x n0 ar L C M) {c : Nat} (hI : MI c M) (hc : c < 512) {y : Int32} : zH l yL_refund wsL_refund rm_L_refund [.ref x, .int y, .ref o] D cI cZ cO cJ G S o f (fun r u => hPo G S x (oRefund M y) r u) := by
  refine z_ofH (cc := cL_refund) (maxL := 4) (ret := some .int) (hh := [(0, 9, 12, 21), (0, 9, 15, 33)]) (lo := [some (.ref x), some (.int y), some (.ref o), none]) (by decide) rfl rfl (Nat.le_of_ble_eq_true rfl) rfl ?_
  intro pp ee ss mi aa bl mh cd h0 hJ hts hown hr hlk htab
  have hown : ss.vm.findClass RL = some mi.cls := hown
  have kx : ∀ E, xBS (oRefund M y) E → ∃ h, zTk ss aa cd RL 4 E h ∧ ∀ q9 : Nat, ZW pp l ee rm_L_refund ss mi aa bl mh cd D cI cZ cO (zHA cI cZ cO cJ S o f ss.heap.size) (MQ bl (va_Qi (fun r u => hPo G S x (oRefund M y) r u) (zHB D cI cZ cO cJ (zHA cI cZ cO cJ S o f ss.heap.size) o) (zHA cI cZ cO cJ S o f ss.heap.size)) aa ss rm_L_refund.cells rm_L_refund.slots (zHA cI cZ cO cJ S o f ss.heap.size)) (oC cJ o f) 4 S (0 + rm_X5_refund.cells) (0 + rm_X5_refund.slots) h [some (.ref x), some (.int y), some (.ref o), none] [.ref q9] := by
    intro E hE
    rcases hE with ⟨h1, rfl⟩ | ⟨h1, rfl⟩
    · refine ⟨12, ⟨[], ⟨0, 9, 12, 21⟩, [⟨0, 9, 15, 33⟩], eB, htab.trans rfl, ?_, rfl, by decide, (hts (.classLink RL 21 "java/lang/IndexOutOfBoundsException") (by decide +kernel)), (va_Nw.use rfl (h0.2.2.2.2.2.2.2.2.2.2.2.1 eB (by decide +kernel))), rfl⟩, fun q9 => ?_⟩
      · intro z9 hz
        exact absurd hz List.not_mem_nil
      · skip
        refine z_astore_n (lo' := [_, _, _, _]) h0 dL_refund_12 (by decide) rfl rfl ?_
        refine z_iconst (v := 1) h0 dL_refund_13 (by decide) ?_
        exact z_hret h0 hr hlk dL_refund_14 (Nat.le_of_ble_eq_true rfl) (Nat.le_of_ble_eq_true rfl) (hPo_no (k := 0) h1 no_oRefund hC)
    · refine ⟨15, ⟨[⟨0, 9, 12, 21⟩], ⟨0, 9, 15, 33⟩, [], eS, htab.trans rfl, ?_, rfl, by decide, (hts (.classLink RL 33 "java/lang/IllegalStateException") (by decide +kernel)), (va_Nw.use rfl (h0.2.2.2.2.2.2.2.2.2.2.2.1 eS (by decide +kernel))), rfl⟩, fun q9 => ?_⟩
      · intro z9 hz
        rcases List.mem_cons.mp hz with rfl | hz
        · exact Or.inr ⟨by decide, eB, (hts (.classLink RL 21 "java/lang/IndexOutOfBoundsException") (by decide +kernel)), h0.2.2.2.2.2.2.2.2.2.2.2.2.2.1 (eS, eB) (by decide +kernel)⟩
        exact absurd hz List.not_mem_nil
      · skip
        refine z_astore_n (lo' := [_, _, _, _]) h0 dL_refund_15 (by decide) rfl rfl ?_
        refine z_iconst (v := 2) h0 dL_refund_16 (by decide) ?_
        exact z_hret h0 hr hlk dL_refund_17 (Nat.le_of_ble_eq_true rfl) (Nat.le_of_ble_eq_true rfl) (hPo_no (k := 1) h1 no_oRefund hC)
  refine z_aload_n h0 dL_refund_0 rfl ?_
  refine z_iconst (v := 0) h0 dL_refund_1 (by decide) ?_
  refine z_aload_n h0 dL_refund_2 rfl ?_
  refine z_iload_n h0 dL_refund_3 rfl ?_
  refine z_hXi (n := 1) (As := [_]) h0 hts hown (c_X5_refund hl hC hI hc) gL_refund_X5_refund rfl (by decide +kernel) ⟨Nat.le_of_ble_eq_true rfl, Nat.le_of_ble_eq_true rfl⟩ kOk5 rfl hC.1.1 dL_refund_4 rfl rfl (Nat.le_of_ble_eq_true rfl) ⟨Nat.le_of_ble_eq_true rfl, Nat.le_of_ble_eq_true rfl⟩ kx (fun r S1 hp => ?_)
  refine z_i2l h0 dL_refund_7 ?_
  refine z_hast h0 hJ dL_refund_8 ?_
  refine z_goto (tgt := 18) h0 dL_refund_9 (by decide) ?_
  refine z_iconst (v := 0) h0 dL_refund_18 (by decide) ?_
  exact z_hret h0 hr hlk dL_refund_19 (Nat.le_of_ble_eq_true rfl) (Nat.le_of_ble_eq_true rfl) (hPo_yes hp rfl)

abbrev rm_L_told : Room := { frames := 8, cells := 2, slots := 12, locals := 134 }
set_option maxRecDepth 100000 in
set_option maxHeartbeats 4000000 in
theorem c_L_told {l : Launch} {D : va_G} {cI cZ cO cJ : ClassId} {G : Nat → Nat} {S : PS} {o : Nat} {f : Nat → Int64} (hl : l.stackTraces = false) {x n0 ar : Nat} {L : Nat → Nat} {C : Nat → List Nat} {M : MS} (hC : RC G S x n0 ar L C M) {c : Nat} (hI : MI c M) (hc : c < 512) {y w : Int32} : zH l yL_told wsL_told rm_L_told [.ref x, .int y, .int w, .ref o] D cI cZ cO cJ G S o f (fun r u => hPo G S x (oTold M y w) r u) := by
  refine z_ofH (cc := cL_told) (maxL := 5) (ret := some .int) (hh := [(0, 10, 13, 21), (0, 10, 17, 13)]) (lo := [some (.ref x), some (.int y), some (.int w), some (.ref o), none]) (by decide) rfl rfl (Nat.le_of_ble_eq_true rfl) rfl ?_
  intro pp ee ss mi aa bl mh cd h0 hJ hts hown hr hlk htab
  have hown : ss.vm.findClass RL = some mi.cls := hown
  have kx : ∀ E, xBA (oTold M y w) E → ∃ h, zTk ss aa cd RL 5 E h ∧ ∀ q9 : Nat, ZW pp l ee rm_L_told ss mi aa bl mh cd D cI cZ cO (zHA cI cZ cO cJ S o f ss.heap.size) (MQ bl (va_Qi (fun r u => hPo G S x (oTold M y w) r u) (zHB D cI cZ cO cJ (zHA cI cZ cO cJ S o f ss.heap.size) o) (zHA cI cZ cO cJ S o f ss.heap.size)) aa ss rm_L_told.cells rm_L_told.slots (zHA cI cZ cO cJ S o f ss.heap.size)) (oC cJ o f) 5 S (0 + rm_X5_told.cells) (0 + rm_X5_told.slots) h [some (.ref x), some (.int y), some (.int w), some (.ref o), none] [.ref q9] := by
    intro E hE
    rcases hE with ⟨h1, rfl⟩ | ⟨h1, rfl⟩
    · refine ⟨13, ⟨[], ⟨0, 10, 13, 21⟩, [⟨0, 10, 17, 13⟩], eB, htab.trans rfl, ?_, rfl, by decide, (hts (.classLink RL 21 "java/lang/IndexOutOfBoundsException") (by decide +kernel)), (va_Nw.use rfl (h0.2.2.2.2.2.2.2.2.2.2.2.1 eB (by decide +kernel))), rfl⟩, fun q9 => ?_⟩
      · intro z9 hz
        exact absurd hz List.not_mem_nil
      · skip
        refine z_astore (lo' := [_, _, _, _, _]) h0 dL_told_13 (by decide) rfl rfl ?_
        refine z_iconst (v := 1) h0 dL_told_15 (by decide) ?_
        exact z_hret h0 hr hlk dL_told_16 (Nat.le_of_ble_eq_true rfl) (Nat.le_of_ble_eq_true rfl) (hPo_no (k := 0) h1 no_oTold hC)
    · refine ⟨17, ⟨[⟨0, 10, 13, 21⟩], ⟨0, 10, 17, 13⟩, [], eA, htab.trans rfl, ?_, rfl, by decide, (hts (.classLink RL 13 "java/lang/IllegalArgumentException") (by decide +kernel)), (va_Nw.use rfl (h0.2.2.2.2.2.2.2.2.2.2.2.1 eA (by decide +kernel))), rfl⟩, fun q9 => ?_⟩
      · intro z9 hz
        rcases List.mem_cons.mp hz with rfl | hz
        · exact Or.inr ⟨by decide, eB, (hts (.classLink RL 21 "java/lang/IndexOutOfBoundsException") (by decide +kernel)), h0.2.2.2.2.2.2.2.2.2.2.2.2.2.1 (eA, eB) (by decide +kernel)⟩
        exact absurd hz List.not_mem_nil
      · skip
        refine z_astore (lo' := [_, _, _, _, _]) h0 dL_told_17 (by decide) rfl rfl ?_
        refine z_iconst (v := 2) h0 dL_told_19 (by decide) ?_
        exact z_hret h0 hr hlk dL_told_20 (Nat.le_of_ble_eq_true rfl) (Nat.le_of_ble_eq_true rfl) (hPo_no (k := 1) h1 no_oTold hC)
  refine z_aload_n h0 dL_told_0 rfl ?_
  refine z_iconst (v := 0) h0 dL_told_1 (by decide) ?_
  refine z_aload_n h0 dL_told_2 rfl ?_
  refine z_iload_n h0 dL_told_3 rfl ?_
  refine z_iload_n h0 dL_told_4 rfl ?_
  refine z_hXi (n := 2) (As := [_, _]) h0 hts hown (c_X5_told hl hC hI hc) gL_told_X5_told rfl (by decide +kernel) ⟨Nat.le_of_ble_eq_true rfl, Nat.le_of_ble_eq_true rfl⟩ kOk5 rfl hC.1.1 dL_told_5 rfl rfl (Nat.le_of_ble_eq_true rfl) ⟨Nat.le_of_ble_eq_true rfl, Nat.le_of_ble_eq_true rfl⟩ kx (fun r S1 hp => ?_)
  refine z_i2l h0 dL_told_8 ?_
  refine z_hast h0 hJ dL_told_9 ?_
  refine z_goto (tgt := 21) h0 dL_told_10 (by decide) ?_
  refine z_iconst (v := 0) h0 dL_told_21 (by decide) ?_
  exact z_hret h0 hr hlk dL_told_22 (Nat.le_of_ble_eq_true rfl) (Nat.le_of_ble_eq_true rfl) (hPo_yes hp rfl)

abbrev rm_L_transfer : Room := { frames := 8, cells := 2, slots := 12, locals := 133 }
set_option maxRecDepth 100000 in
set_option maxHeartbeats 4000000 in
theorem c_L_transfer {l : Launch} {D : va_G} {cI cZ cO cJ : ClassId} {G : Nat → Nat} {S : PS} {o : Nat} {f : Nat → Int64} (hl : l.stackTraces = false) {x n0 ar : Nat} {L : Nat → Nat} {C : Nat → List Nat} {M : MS} (hC : RC G S x n0 ar L C M) {c : Nat} (hI : MI c M) (hc : c < 512) {y w : Int32} : zH l yL_transfer wsL_transfer rm_L_transfer [.ref x, .int y, .int w, .ref o] D cI cZ cO cJ G S o f (fun r u => hPo G S x (oTransfer M y w) r u) := by
  refine z_ofH (cc := cL_transfer) (maxL := 5) (ret := some .int) (hh := [(0, 10, 13, 21), (0, 10, 17, 13)]) (lo := [some (.ref x), some (.int y), some (.int w), some (.ref o), none]) (by decide) rfl rfl (Nat.le_of_ble_eq_true rfl) rfl ?_
  intro pp ee ss mi aa bl mh cd h0 hJ hts hown hr hlk htab
  have hown : ss.vm.findClass RL = some mi.cls := hown
  have kx : ∀ E, xBA (oTransfer M y w) E → ∃ h, zTk ss aa cd RL 5 E h ∧ ∀ q9 : Nat, ZW pp l ee rm_L_transfer ss mi aa bl mh cd D cI cZ cO (zHA cI cZ cO cJ S o f ss.heap.size) (MQ bl (va_Qi (fun r u => hPo G S x (oTransfer M y w) r u) (zHB D cI cZ cO cJ (zHA cI cZ cO cJ S o f ss.heap.size) o) (zHA cI cZ cO cJ S o f ss.heap.size)) aa ss rm_L_transfer.cells rm_L_transfer.slots (zHA cI cZ cO cJ S o f ss.heap.size)) (oC cJ o f) 5 S (0 + rm_X5_transfer.cells) (0 + rm_X5_transfer.slots) h [some (.ref x), some (.int y), some (.int w), some (.ref o), none] [.ref q9] := by
    intro E hE
    rcases hE with ⟨h1, rfl⟩ | ⟨h1, rfl⟩
    · refine ⟨13, ⟨[], ⟨0, 10, 13, 21⟩, [⟨0, 10, 17, 13⟩], eB, htab.trans rfl, ?_, rfl, by decide, (hts (.classLink RL 21 "java/lang/IndexOutOfBoundsException") (by decide +kernel)), (va_Nw.use rfl (h0.2.2.2.2.2.2.2.2.2.2.2.1 eB (by decide +kernel))), rfl⟩, fun q9 => ?_⟩
      · intro z9 hz
        exact absurd hz List.not_mem_nil
      · skip
        refine z_astore (lo' := [_, _, _, _, _]) h0 dL_transfer_13 (by decide) rfl rfl ?_
        refine z_iconst (v := 1) h0 dL_transfer_15 (by decide) ?_
        exact z_hret h0 hr hlk dL_transfer_16 (Nat.le_of_ble_eq_true rfl) (Nat.le_of_ble_eq_true rfl) (hPo_no (k := 0) h1 no_oTransfer hC)
    · refine ⟨17, ⟨[⟨0, 10, 13, 21⟩], ⟨0, 10, 17, 13⟩, [], eA, htab.trans rfl, ?_, rfl, by decide, (hts (.classLink RL 13 "java/lang/IllegalArgumentException") (by decide +kernel)), (va_Nw.use rfl (h0.2.2.2.2.2.2.2.2.2.2.2.1 eA (by decide +kernel))), rfl⟩, fun q9 => ?_⟩
      · intro z9 hz
        rcases List.mem_cons.mp hz with rfl | hz
        · exact Or.inr ⟨by decide, eB, (hts (.classLink RL 21 "java/lang/IndexOutOfBoundsException") (by decide +kernel)), h0.2.2.2.2.2.2.2.2.2.2.2.2.2.1 (eA, eB) (by decide +kernel)⟩
        exact absurd hz List.not_mem_nil
      · skip
        refine z_astore (lo' := [_, _, _, _, _]) h0 dL_transfer_17 (by decide) rfl rfl ?_
        refine z_iconst (v := 2) h0 dL_transfer_19 (by decide) ?_
        exact z_hret h0 hr hlk dL_transfer_20 (Nat.le_of_ble_eq_true rfl) (Nat.le_of_ble_eq_true rfl) (hPo_no (k := 1) h1 no_oTransfer hC)
  refine z_aload_n h0 dL_transfer_0 rfl ?_
  refine z_iconst (v := 0) h0 dL_transfer_1 (by decide) ?_
  refine z_aload_n h0 dL_transfer_2 rfl ?_
  refine z_iload_n h0 dL_transfer_3 rfl ?_
  refine z_iload_n h0 dL_transfer_4 rfl ?_
  refine z_hXi (n := 2) (As := [_, _]) h0 hts hown (c_X5_transfer hl hC hI hc) gL_transfer_X5_transfer rfl (by decide +kernel) ⟨Nat.le_of_ble_eq_true rfl, Nat.le_of_ble_eq_true rfl⟩ kOk5 rfl hC.1.1 dL_transfer_5 rfl rfl (Nat.le_of_ble_eq_true rfl) ⟨Nat.le_of_ble_eq_true rfl, Nat.le_of_ble_eq_true rfl⟩ kx (fun r S1 hp => ?_)
  refine z_i2l h0 dL_transfer_8 ?_
  refine z_hast h0 hJ dL_transfer_9 ?_
  refine z_goto (tgt := 21) h0 dL_transfer_10 (by decide) ?_
  refine z_iconst (v := 0) h0 dL_transfer_21 (by decide) ?_
  exact z_hret h0 hr hlk dL_transfer_22 (Nat.le_of_ble_eq_true rfl) (Nat.le_of_ble_eq_true rfl) (hPo_yes hp rfl)

abbrev rm_L_log : Room := { frames := 8, cells := 2, slots := 12, locals := 135 }
set_option maxRecDepth 100000 in
set_option maxHeartbeats 4000000 in
theorem c_L_log {l : Launch} {D : va_G} {cI cZ cO cJ : ClassId} {G : Nat → Nat} {S : PS} {o : Nat} {f : Nat → Int64} (hl : l.stackTraces = false) {x n0 ar : Nat} {L : Nat → Nat} {C : Nat → List Nat} {M : MS} (hC : RC G S x n0 ar L C M) {c : Nat} (hI : MI c M) (hc : c < 512) {y i w : Int32} : zH l yL_log wsL_log rm_L_log [.ref x, .int y, .int i, .int w, .ref o] D cI cZ cO cJ G S o f (fun r u => hPo G S x (oLog M y i w) r u) := by
  refine z_ofH (cc := cL_log) (maxL := 6) (ret := some .int) (hh := [(0, 12, 15, 21), (0, 12, 19, 13)]) (lo := [some (.ref x), some (.int y), some (.int i), some (.int w), some (.ref o), none]) (by decide) rfl rfl (Nat.le_of_ble_eq_true rfl) rfl ?_
  intro pp ee ss mi aa bl mh cd h0 hJ hts hown hr hlk htab
  have hown : ss.vm.findClass RL = some mi.cls := hown
  have kx : ∀ E, xBA (oLog M y i w) E → ∃ h, zTk ss aa cd RL 7 E h ∧ ∀ q9 : Nat, ZW pp l ee rm_L_log ss mi aa bl mh cd D cI cZ cO (zHA cI cZ cO cJ S o f ss.heap.size) (MQ bl (va_Qi (fun r u => hPo G S x (oLog M y i w) r u) (zHB D cI cZ cO cJ (zHA cI cZ cO cJ S o f ss.heap.size) o) (zHA cI cZ cO cJ S o f ss.heap.size)) aa ss rm_L_log.cells rm_L_log.slots (zHA cI cZ cO cJ S o f ss.heap.size)) (oC cJ o f) 6 S (0 + rm_X5_log.cells) (0 + rm_X5_log.slots) h [some (.ref x), some (.int y), some (.int i), some (.int w), some (.ref o), none] [.ref q9] := by
    intro E hE
    rcases hE with ⟨h1, rfl⟩ | ⟨h1, rfl⟩
    · refine ⟨15, ⟨[], ⟨0, 12, 15, 21⟩, [⟨0, 12, 19, 13⟩], eB, htab.trans rfl, ?_, rfl, by decide, (hts (.classLink RL 21 "java/lang/IndexOutOfBoundsException") (by decide +kernel)), (va_Nw.use rfl (h0.2.2.2.2.2.2.2.2.2.2.2.1 eB (by decide +kernel))), rfl⟩, fun q9 => ?_⟩
      · intro z9 hz
        exact absurd hz List.not_mem_nil
      · skip
        refine z_astore (lo' := [_, _, _, _, _, _]) h0 dL_log_15 (by decide) rfl rfl ?_
        refine z_iconst (v := 1) h0 dL_log_17 (by decide) ?_
        exact z_hret h0 hr hlk dL_log_18 (Nat.le_of_ble_eq_true rfl) (Nat.le_of_ble_eq_true rfl) (hPo_no (k := 0) h1 no_oLog hC)
    · refine ⟨19, ⟨[⟨0, 12, 15, 21⟩], ⟨0, 12, 19, 13⟩, [], eA, htab.trans rfl, ?_, rfl, by decide, (hts (.classLink RL 13 "java/lang/IllegalArgumentException") (by decide +kernel)), (va_Nw.use rfl (h0.2.2.2.2.2.2.2.2.2.2.2.1 eA (by decide +kernel))), rfl⟩, fun q9 => ?_⟩
      · intro z9 hz
        rcases List.mem_cons.mp hz with rfl | hz
        · exact Or.inr ⟨by decide, eB, (hts (.classLink RL 21 "java/lang/IndexOutOfBoundsException") (by decide +kernel)), h0.2.2.2.2.2.2.2.2.2.2.2.2.2.1 (eA, eB) (by decide +kernel)⟩
        exact absurd hz List.not_mem_nil
      · skip
        refine z_astore (lo' := [_, _, _, _, _, _]) h0 dL_log_19 (by decide) rfl rfl ?_
        refine z_iconst (v := 2) h0 dL_log_21 (by decide) ?_
        exact z_hret h0 hr hlk dL_log_22 (Nat.le_of_ble_eq_true rfl) (Nat.le_of_ble_eq_true rfl) (hPo_no (k := 1) h1 no_oLog hC)
  refine z_aload h0 dL_log_0 rfl ?_
  refine z_iconst (v := 0) h0 dL_log_2 (by decide) ?_
  refine z_aload_n h0 dL_log_3 rfl ?_
  refine z_iload_n h0 dL_log_4 rfl ?_
  refine z_iload_n h0 dL_log_5 rfl ?_
  refine z_iload_n h0 dL_log_6 rfl ?_
  refine z_hXi (n := 3) (As := [_, _, _]) h0 hts hown (c_X5_log hl hC hI hc) gL_log_X5_log rfl (by decide +kernel) ⟨Nat.le_of_ble_eq_true rfl, Nat.le_of_ble_eq_true rfl⟩ kOk5 rfl hC.1.1 dL_log_7 rfl rfl (Nat.le_of_ble_eq_true rfl) ⟨Nat.le_of_ble_eq_true rfl, Nat.le_of_ble_eq_true rfl⟩ kx (fun r S1 hp => ?_)
  refine z_i2l h0 dL_log_10 ?_
  refine z_hast h0 hJ dL_log_11 ?_
  refine z_goto (tgt := 23) h0 dL_log_12 (by decide) ?_
  refine z_iconst (v := 0) h0 dL_log_23 (by decide) ?_
  exact z_hret h0 hr hlk dL_log_24 (Nat.le_of_ble_eq_true rfl) (Nat.le_of_ble_eq_true rfl) (hPo_yes hp rfl)

abbrev rm_L_message : Room := { frames := 8, cells := 2, slots := 12, locals := 134 }
set_option maxRecDepth 100000 in
set_option maxHeartbeats 4000000 in
theorem c_L_message {l : Launch} {D : va_G} {cI cZ cO cJ : ClassId} {G : Nat → Nat} {S : PS} {o : Nat} {f : Nat → Int64} (hl : l.stackTraces = false) {x n0 ar : Nat} {L : Nat → Nat} {C : Nat → List Nat} {M : MS} (hC : RC G S x n0 ar L C M) {c : Nat} (hI : MI c M) (hc : c < 512) {y w : Int32} : zH l yL_message wsL_message rm_L_message [.ref x, .int y, .int w, .ref o] D cI cZ cO cJ G S o f (fun r u => hPo G S x (oMessage M y w) r u) := by
  refine z_ofH (cc := cL_message) (maxL := 5) (ret := some .int) (hh := [(0, 10, 13, 21), (0, 10, 17, 13)]) (lo := [some (.ref x), some (.int y), some (.int w), some (.ref o), none]) (by decide) rfl rfl (Nat.le_of_ble_eq_true rfl) rfl ?_
  intro pp ee ss mi aa bl mh cd h0 hJ hts hown hr hlk htab
  have hown : ss.vm.findClass RL = some mi.cls := hown
  have kx : ∀ E, xBA (oMessage M y w) E → ∃ h, zTk ss aa cd RL 5 E h ∧ ∀ q9 : Nat, ZW pp l ee rm_L_message ss mi aa bl mh cd D cI cZ cO (zHA cI cZ cO cJ S o f ss.heap.size) (MQ bl (va_Qi (fun r u => hPo G S x (oMessage M y w) r u) (zHB D cI cZ cO cJ (zHA cI cZ cO cJ S o f ss.heap.size) o) (zHA cI cZ cO cJ S o f ss.heap.size)) aa ss rm_L_message.cells rm_L_message.slots (zHA cI cZ cO cJ S o f ss.heap.size)) (oC cJ o f) 5 S (0 + rm_X5_message.cells) (0 + rm_X5_message.slots) h [some (.ref x), some (.int y), some (.int w), some (.ref o), none] [.ref q9] := by
    intro E hE
    rcases hE with ⟨h1, rfl⟩ | ⟨h1, rfl⟩
    · refine ⟨13, ⟨[], ⟨0, 10, 13, 21⟩, [⟨0, 10, 17, 13⟩], eB, htab.trans rfl, ?_, rfl, by decide, (hts (.classLink RL 21 "java/lang/IndexOutOfBoundsException") (by decide +kernel)), (va_Nw.use rfl (h0.2.2.2.2.2.2.2.2.2.2.2.1 eB (by decide +kernel))), rfl⟩, fun q9 => ?_⟩
      · intro z9 hz
        exact absurd hz List.not_mem_nil
      · skip
        refine z_astore (lo' := [_, _, _, _, _]) h0 dL_message_13 (by decide) rfl rfl ?_
        refine z_iconst (v := 1) h0 dL_message_15 (by decide) ?_
        exact z_hret h0 hr hlk dL_message_16 (Nat.le_of_ble_eq_true rfl) (Nat.le_of_ble_eq_true rfl) (hPo_no (k := 0) h1 no_oMessage hC)
    · refine ⟨17, ⟨[⟨0, 10, 13, 21⟩], ⟨0, 10, 17, 13⟩, [], eA, htab.trans rfl, ?_, rfl, by decide, (hts (.classLink RL 13 "java/lang/IllegalArgumentException") (by decide +kernel)), (va_Nw.use rfl (h0.2.2.2.2.2.2.2.2.2.2.2.1 eA (by decide +kernel))), rfl⟩, fun q9 => ?_⟩
      · intro z9 hz
        rcases List.mem_cons.mp hz with rfl | hz
        · exact Or.inr ⟨by decide, eB, (hts (.classLink RL 21 "java/lang/IndexOutOfBoundsException") (by decide +kernel)), h0.2.2.2.2.2.2.2.2.2.2.2.2.2.1 (eA, eB) (by decide +kernel)⟩
        exact absurd hz List.not_mem_nil
      · skip
        refine z_astore (lo' := [_, _, _, _, _]) h0 dL_message_17 (by decide) rfl rfl ?_
        refine z_iconst (v := 2) h0 dL_message_19 (by decide) ?_
        exact z_hret h0 hr hlk dL_message_20 (Nat.le_of_ble_eq_true rfl) (Nat.le_of_ble_eq_true rfl) (hPo_no (k := 1) h1 no_oMessage hC)
  refine z_aload_n h0 dL_message_0 rfl ?_
  refine z_iconst (v := 0) h0 dL_message_1 (by decide) ?_
  refine z_aload_n h0 dL_message_2 rfl ?_
  refine z_iload_n h0 dL_message_3 rfl ?_
  refine z_iload_n h0 dL_message_4 rfl ?_
  refine z_hXi (n := 2) (As := [_, _]) h0 hts hown (c_X5_message hl hC hI hc) gL_message_X5_message rfl (by decide +kernel) ⟨Nat.le_of_ble_eq_true rfl, Nat.le_of_ble_eq_true rfl⟩ kOk5 rfl hC.1.1 dL_message_5 rfl rfl (Nat.le_of_ble_eq_true rfl) ⟨Nat.le_of_ble_eq_true rfl, Nat.le_of_ble_eq_true rfl⟩ kx (fun r S1 hp => ?_)
  refine z_i2l h0 dL_message_8 ?_
  refine z_hast h0 hJ dL_message_9 ?_
  refine z_goto (tgt := 21) h0 dL_message_10 (by decide) ?_
  refine z_iconst (v := 0) h0 dL_message_21 (by decide) ?_
  exact z_hret h0 hr hlk dL_message_22 (Nat.le_of_ble_eq_true rfl) (Nat.le_of_ble_eq_true rfl) (hPo_yes hp rfl)

abbrev rm_L_entry : Room := { frames := 8, cells := 2, slots := 12, locals := 134 }
set_option maxRecDepth 100000 in
set_option maxHeartbeats 4000000 in
theorem c_L_entry {l : Launch} {D : va_G} {cI cZ cO cJ : ClassId} {G : Nat → Nat} {S : PS} {o : Nat} {f : Nat → Int64} (hl : l.stackTraces = false) {x n0 ar : Nat} {L : Nat → Nat} {C : Nat → List Nat} {M : MS} (hC : RC G S x n0 ar L C M) {c : Nat} (hI : MI c M) (hc : c < 512) {y w : Int32} : zH l yL_entry wsL_entry rm_L_entry [.ref x, .int y, .int w, .ref o] D cI cZ cO cJ G S o f (fun r u => hPo G S x (oEntry M y w) r u) := by
  refine z_ofH (cc := cL_entry) (maxL := 5) (ret := some .int) (hh := [(0, 10, 13, 21), (0, 10, 17, 13)]) (lo := [some (.ref x), some (.int y), some (.int w), some (.ref o), none]) (by decide) rfl rfl (Nat.le_of_ble_eq_true rfl) rfl ?_
  intro pp ee ss mi aa bl mh cd h0 hJ hts hown hr hlk htab
  have hown : ss.vm.findClass RL = some mi.cls := hown
  have kx : ∀ E, xBA (oEntry M y w) E → ∃ h, zTk ss aa cd RL 5 E h ∧ ∀ q9 : Nat, ZW pp l ee rm_L_entry ss mi aa bl mh cd D cI cZ cO (zHA cI cZ cO cJ S o f ss.heap.size) (MQ bl (va_Qi (fun r u => hPo G S x (oEntry M y w) r u) (zHB D cI cZ cO cJ (zHA cI cZ cO cJ S o f ss.heap.size) o) (zHA cI cZ cO cJ S o f ss.heap.size)) aa ss rm_L_entry.cells rm_L_entry.slots (zHA cI cZ cO cJ S o f ss.heap.size)) (oC cJ o f) 5 S (0 + rm_X5_entry.cells) (0 + rm_X5_entry.slots) h [some (.ref x), some (.int y), some (.int w), some (.ref o), none] [.ref q9] := by
    intro E hE
    rcases hE with ⟨h1, rfl⟩ | ⟨h1, rfl⟩
    · refine ⟨13, ⟨[], ⟨0, 10, 13, 21⟩, [⟨0, 10, 17, 13⟩], eB, htab.trans rfl, ?_, rfl, by decide, (hts (.classLink RL 21 "java/lang/IndexOutOfBoundsException") (by decide +kernel)), (va_Nw.use rfl (h0.2.2.2.2.2.2.2.2.2.2.2.1 eB (by decide +kernel))), rfl⟩, fun q9 => ?_⟩
      · intro z9 hz
        exact absurd hz List.not_mem_nil
      · skip
        refine z_astore (lo' := [_, _, _, _, _]) h0 dL_entry_13 (by decide) rfl rfl ?_
        refine z_iconst (v := 1) h0 dL_entry_15 (by decide) ?_
        exact z_hret h0 hr hlk dL_entry_16 (Nat.le_of_ble_eq_true rfl) (Nat.le_of_ble_eq_true rfl) (hPo_no (k := 0) h1 no_oEntry hC)
    · refine ⟨17, ⟨[⟨0, 10, 13, 21⟩], ⟨0, 10, 17, 13⟩, [], eA, htab.trans rfl, ?_, rfl, by decide, (hts (.classLink RL 13 "java/lang/IllegalArgumentException") (by decide +kernel)), (va_Nw.use rfl (h0.2.2.2.2.2.2.2.2.2.2.2.1 eA (by decide +kernel))), rfl⟩, fun q9 => ?_⟩
      · intro z9 hz
        rcases List.mem_cons.mp hz with rfl | hz
        · exact Or.inr ⟨by decide, eB, (hts (.classLink RL 21 "java/lang/IndexOutOfBoundsException") (by decide +kernel)), h0.2.2.2.2.2.2.2.2.2.2.2.2.2.1 (eA, eB) (by decide +kernel)⟩
        exact absurd hz List.not_mem_nil
      · skip
        refine z_astore (lo' := [_, _, _, _, _]) h0 dL_entry_17 (by decide) rfl rfl ?_
        refine z_iconst (v := 2) h0 dL_entry_19 (by decide) ?_
        exact z_hret h0 hr hlk dL_entry_20 (Nat.le_of_ble_eq_true rfl) (Nat.le_of_ble_eq_true rfl) (hPo_no (k := 1) h1 no_oEntry hC)
  refine z_aload_n h0 dL_entry_0 rfl ?_
  refine z_iconst (v := 0) h0 dL_entry_1 (by decide) ?_
  refine z_aload_n h0 dL_entry_2 rfl ?_
  refine z_iload_n h0 dL_entry_3 rfl ?_
  refine z_iload_n h0 dL_entry_4 rfl ?_
  refine z_hXi (n := 2) (As := [_, _]) h0 hts hown (c_X5_entry hl hC hI hc) gL_entry_X5_entry rfl (by decide +kernel) ⟨Nat.le_of_ble_eq_true rfl, Nat.le_of_ble_eq_true rfl⟩ kOk5 rfl hC.1.1 dL_entry_5 rfl rfl (Nat.le_of_ble_eq_true rfl) ⟨Nat.le_of_ble_eq_true rfl, Nat.le_of_ble_eq_true rfl⟩ kx (fun r S1 hp => ?_)
  refine z_i2l h0 dL_entry_8 ?_
  refine z_hast h0 hJ dL_entry_9 ?_
  refine z_goto (tgt := 21) h0 dL_entry_10 (by decide) ?_
  refine z_iconst (v := 0) h0 dL_entry_21 (by decide) ?_
  exact z_hret h0 hr hlk dL_entry_22 (Nat.le_of_ble_eq_true rfl) (Nat.le_of_ble_eq_true rfl) (hPo_yes hp rfl)

end HELPERS
