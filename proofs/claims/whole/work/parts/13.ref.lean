/-! THE REFERENCE: its state M, and what its object holds of it. -/
section REFER
/-- purses, messages, entries; arrays by number (0 balances 1 serials 2 states 3 logSize 4 kinds 5 targets 6 of 7 tellers 8 refunded); transfers by place -/
abbrev MS : Type := Nat × Nat × Nat × (Nat → Nat → Int32) × (Nat → T5)
abbrev mP (M : MS) : Nat := M.1
abbrev mM (M : MS) : Nat := M.2.1
abbrev mE (M : MS) : Nat := M.2.2.1
abbrev mA (M : MS) : Nat → Nat → Int32 := M.2.2.2.1
abbrev mT (M : MS) : Nat → T5 := M.2.2.2.2
abbrev sA (M : MS) (k j : Nat) (v : Int32) : MS := (mP M, mM M, mE M, up2 (mA M) k j v, mT M)
abbrev sT (M : MS) (p : Nat) (t : T5) : MS := (mP M, mM M, mE M, mA M, va_up (mT M) p t)
theorem mA_f {M : MS} {k i j b : Nat} {v : Int32} (h : i ≠ k) : mA (sA M k j v) i b = mA M i b := up2_f _ _ _ _ h
theorem mA_s {M : MS} {k j : Nat} {v : Int32} : mA (sA M k j v) k j = v := up2_s _ _ _ _
theorem mA_a {M : MS} {k i j b : Nat} {v : Int32} (h : b ≠ j) : mA (sA M k j v) i b = mA M i b := up2_a _ _ _ _ h
theorem mT_s {M : MS} {p : Nat} {t : T5} : mT (sT M p t) p = t := va_up_self _ _ _
theorem mT_a {M : MS} {p q : Nat} {t : T5} (h : q ≠ p) : mT (sT M p t) q = mT M q := va_up_ne _ _ h
def part (k : Nat) (t : T5) : Int32 := match k with
  | 0 => t.1
  | 1 => t.2.1
  | 2 => t.2.2.1
  | 3 => t.2.2.2.1
  | _ => t.2.2.2.2
theorem part_eq {t u : T5} (h : ∀ k, k < 5 → part k t = part k u) : t = u := by
  have h0 := h 0 (by decide)
  have h1 := h 1 (by decide)
  have h2 := h 2 (by decide)
  have h3 := h 3 (by decide)
  have h4 := h 4 (by decide)
  simp only [part] at h0 h1 h2 h3 h4
  exact Prod.ext h0 (Prod.ext h1 (Prod.ext h2 (Prod.ext h3 h4)))
def rLen (k : Nat) : Nat := match k with
  | 0 => 12 | 1 => 12 | 2 => 12 | 3 => 12 | 9 => 8360 | _ => 800
def rKd (k : Nat) : Nat := match k with
  | 8 => 9 | _ => 8
/-- the reference's object m, its arrays at A 0 .. A 9, its state M; since S0 nothing else has changed -/
def RX (S0 S : PS) (m : Nat) (A : Nat → Nat) (M : MS) : Prop :=
  isK S 6 m ∧ (∀ k, k < 10 → pO S (10 + k) m = some (A k)) ∧ (∀ k, k < 10 → isK S (rKd k) (A k)) ∧ (∀ k, k < 10 → pN S (A k) = rLen k) ∧ (∀ j k, j < 10 → k < 10 → A j = A k → j = k) ∧
  (pI S 16 m = nI (mP M) ∧ pI S 17 m = nI (mM M) ∧ pI S 18 m = nI (mE M)) ∧ (∀ k j, k < 9 → pR S (A k) j = mA M k j) ∧ (∀ p k, k < 5 → pR S (A 9) (5 * p + k) = part k (mT M p)) ∧
  (pL S = pL S0 ∧ pK S = pK S0 ∧ pN S = pN S0 ∧ pO S = pO S0 ∧ pQ S = pQ S0 ∧ ∀ f b, b ≠ m → pI S f b = pI S0 f b)
/-- .. nor its code -/
def RF (S0 S : PS) (m : Nat) (A : Nat → Nat) (M : MS) : Prop := RX S0 S m A M ∧ pI S 15 m = pI S0 15 m
variable {S0 S : PS} {m : Nat} {A : Nat → Nat} {M : MS}
theorem RF_m (h : RF S0 S m A M) : isK S 6 m := h.1.1
theorem RF_o (h : RF S0 S m A M) {k : Nat} (hk : k < 10) : pO S (10 + k) m = some (A k) := h.1.2.1 k hk
theorem RF_k (h : RF S0 S m A M) {k : Nat} (hk : k < 10) : isK S (rKd k) (A k) := h.1.2.2.1 k hk
theorem RF_n (h : RF S0 S m A M) {k j : Nat} (hk : k < 10) (hj : j < rLen k) : j < pN S (A k) := by rw [h.1.2.2.2.1 k hk]; exact hj
theorem RF_r (h : RF S0 S m A M) {k j : Nat} (hk : k < 9) : pR S (A k) j = mA M k j := h.1.2.2.2.2.2.2.1 k j hk
theorem RF_t (h : RF S0 S m A M) {p k : Nat} (hk : k < 5) : pR S (A 9) (5 * p + k) = part k (mT M p) := h.1.2.2.2.2.2.2.2.1 p k hk
theorem RF_p (h : RF S0 S m A M) : pI S 16 m = nI (mP M) := h.1.2.2.2.2.2.1.1
theorem RF_mm (h : RF S0 S m A M) : pI S 17 m = nI (mM M) := h.1.2.2.2.2.2.1.2.1
theorem RF_e (h : RF S0 S m A M) : pI S 18 m = nI (mE M) := h.1.2.2.2.2.2.1.2.2
theorem RX_base (h : RX S0 S m A M) : RF S S m A M := ⟨⟨h.1, h.2.1, h.2.2.1, h.2.2.2.1, h.2.2.2.2.1, h.2.2.2.2.2.1, h.2.2.2.2.2.2.1, h.2.2.2.2.2.2.2.1, rfl, rfl, rfl, rfl, rfl, fun _ _ _ => rfl⟩, rfl⟩
theorem RF_refl (h : RF S0 S m A M) : RF S S m A M := RX_base h.1
theorem RX_trans {S1 : PS} {M' : MS} (h : RX S0 S m A M) (h2 : RX S S1 m A M') : RX S0 S1 m A M' := by
  obtain ⟨a1, a2, a3, a4, a5, a6, a7, a8, b1, b2, b3, b4, b5, b6⟩ := h2
  obtain ⟨c1, c2, c3, c4, c5, c6⟩ := h.2.2.2.2.2.2.2.2
  exact ⟨a1, a2, a3, a4, a5, a6, a7, a8, b1.trans c1, b2.trans c2, b3.trans c3, b4.trans c4, b5.trans c5, fun f b hb => (b6 f b hb).trans (c6 f b hb)⟩
theorem RF_trans {S1 : PS} {M' : MS} (h : RF S0 S m A M) (h2 : RF S S1 m A M') : RF S0 S1 m A M' := ⟨RX_trans h.1 h2.1, h2.2.trans h.2⟩
/-- a place of an array -/
theorem RF_sR (h : RF S0 S m A M) {k j : Nat} {v : Int32} (hk : k < 9) : RF S0 (sR S (A k) j v) m A (sA M k j v) := by
  obtain ⟨⟨a1, a2, a3, a4, a5, a6, a7, a8, a9⟩, hc⟩ := h
  refine ⟨⟨a1, a2, a3, a4, a5, a6, fun i b hi => ?_, fun p i hi => ?_, a9⟩, hc⟩
  · show up2 (pR S) (A k) j v (A i) b = up2 (mA M) k j v i b
    by_cases hik : i = k
    · subst hik
      by_cases hb : b = j
      · subst hb; rw [up2_s, up2_s]
      · rw [up2_a _ _ _ _ hb, up2_a _ _ _ _ hb]; exact a7 i b hi
    · rw [up2_f _ _ _ _ (fun z => hik (a5 i k (by omega) (by omega) z)), up2_f _ _ _ _ hik]; exact a7 i b hi
  · show up2 (pR S) (A k) j v (A 9) (5 * p + i) = _
    rw [up2_f _ _ _ _ (fun z => by have := a5 9 k (by omega) (by omega) z; omega)]
    exact a8 p i hi
theorem RX_sI (h : RX S0 S m A M) {v : Int32} : RX S0 (sI S 15 m v) m A M := by
  obtain ⟨a1, a2, a3, a4, a5, a6, a7, a8, b1, b2, b3, b4, b5, b6⟩ := h
  exact ⟨a1, a2, a3, a4, a5, ⟨(pI_f (by decide)).trans a6.1, (pI_f (by decide)).trans a6.2.1, (pI_f (by decide)).trans a6.2.2⟩, a7, a8, b1, b2, b3, b4, b5, fun f b hb => (pI_a hb).trans (b6 f b hb)⟩
theorem RF_sP (h : RF S0 S m A M) {v : Nat} {x : Int32} (hx : x = nI v) : RF S0 (sI S 16 m x) m A (v, mM M, mE M, mA M, mT M) := by
  obtain ⟨⟨a1, a2, a3, a4, a5, a6, a7, a8, b1, b2, b3, b4, b5, b6⟩, hc⟩ := h
  exact ⟨⟨a1, a2, a3, a4, a5, ⟨(pI_s).trans hx, (pI_f (by decide)).trans a6.2.1, (pI_f (by decide)).trans a6.2.2⟩, a7, a8, b1, b2, b3, b4, b5, fun f b hb => (pI_a hb).trans (b6 f b hb)⟩, (pI_f (by decide)).trans hc⟩
theorem RF_sM (h : RF S0 S m A M) {v : Nat} {x : Int32} (hx : x = nI v) : RF S0 (sI S 17 m x) m A (mP M, v, mE M, mA M, mT M) := by
  obtain ⟨⟨a1, a2, a3, a4, a5, a6, a7, a8, b1, b2, b3, b4, b5, b6⟩, hc⟩ := h
  exact ⟨⟨a1, a2, a3, a4, a5, ⟨(pI_f (by decide)).trans a6.1, (pI_s).trans hx, (pI_f (by decide)).trans a6.2.2⟩, a7, a8, b1, b2, b3, b4, b5, fun f b hb => (pI_a hb).trans (b6 f b hb)⟩, (pI_f (by decide)).trans hc⟩
theorem RF_sE (h : RF S0 S m A M) {v : Nat} {x : Int32} (hx : x = nI v) : RF S0 (sI S 18 m x) m A (mP M, mM M, v, mA M, mT M) := by
  obtain ⟨⟨a1, a2, a3, a4, a5, a6, a7, a8, b1, b2, b3, b4, b5, b6⟩, hc⟩ := h
  exact ⟨⟨a1, a2, a3, a4, a5, ⟨(pI_f (by decide)).trans a6.1, (pI_f (by decide)).trans a6.2.1, (pI_s).trans hx⟩, a7, a8, b1, b2, b3, b4, b5, fun f b hb => (pI_a hb).trans (b6 f b hb)⟩, (pI_f (by decide)).trans hc⟩
/-- the part k of the transfer at p is x now -/
def setP (t : T5) (k : Nat) (x : Int32) : T5 := match k with
  | 0 => (x, t.2)
  | 1 => (t.1, x, t.2.2)
  | 2 => (t.1, t.2.1, x, t.2.2.2)
  | 3 => (t.1, t.2.1, t.2.2.1, x, t.2.2.2.2)
  | _ => (t.1, t.2.1, t.2.2.1, t.2.2.2.1, x)
theorem part_set {t : T5} {k i : Nat} {x : Int32} (hk : k < 5) (hi : i < 5) : part i (setP t k x) = if i = k then x else part i t := by
  rcases (show k = 0 ∨ k = 1 ∨ k = 2 ∨ k = 3 ∨ k = 4 by omega) with rfl | rfl | rfl | rfl | rfl <;> rcases (show i = 0 ∨ i = 1 ∨ i = 2 ∨ i = 3 ∨ i = 4 by omega) with rfl | rfl | rfl | rfl | rfl <;> rfl
theorem RF_sT (h : RF S0 S m A M) {p k : Nat} {v : Int32} (hk : k < 5) : RF S0 (sR S (A 9) (5 * p + k) v) m A (sT M p (setP (mT M p) k v)) := by
  obtain ⟨⟨a1, a2, a3, a4, a5, a6, a7, a8, a9⟩, hc⟩ := h
  refine ⟨⟨a1, a2, a3, a4, a5, a6, fun i b hi => ?_, fun q i hi => ?_, a9⟩, hc⟩
  · show up2 (pR S) (A 9) (5 * p + k) v (A i) b = _
    rw [up2_f _ _ _ _ (fun z => by have := a5 i 9 (by omega) (by omega) z; omega)]
    exact a7 i b hi
  · show up2 (pR S) (A 9) (5 * p + k) v (A 9) (5 * q + i) = part i (va_up (mT M) p (setP (mT M p) k v) q)
    by_cases hq : q = p
    · subst hq
      rw [va_up_self, part_set hk hi]
      by_cases hik : i = k
      · subst hik; rw [up2_s, if_pos rfl]
      · rw [up2_a _ _ _ _ (by omega), if_neg hik]; exact a8 q i hi
    · rw [va_up_ne _ _ hq, up2_a _ _ _ _ (by omega)]; exact a8 q i hi
theorem zc0 : (0 : Int32) = nI 0 := by decide
theorem zc1 : (1 : Int32) = nI 1 := by decide
theorem zc2 : (2 : Int32) = nI 2 := by decide
theorem zc3 : (3 : Int32) = nI 3 := by decide
theorem zc4 : (4 : Int32) = nI 4 := by decide
theorem zc5 : (5 : Int32) = nI 5 := by decide
theorem zc12 : (12 : Int32) = nI 12 := by decide
theorem zc72 : (72 : Int32) = nI 72 := by decide
theorem zc872 : (872 : Int32) = nI 872 := by decide
theorem zc800 : (800 : Int32) = nI 800 := by decide

abbrev rm_X6_thrown : Room := { frames := 0, cells := 0, slots := 0, locals := 0 }
set_option maxRecDepth 100000 in
set_option maxHeartbeats 4000000 in
theorem c_X6_thrown {l : Launch} {D : va_G} {cI cZ cO : ClassId} {G : Nat → Nat} {S : PS} {m : Nat} (hm : isK S 6 m) : zMi l yX6_thrown wsX6_thrown rm_X6_thrown [.ref m] D cI cZ cO G S (fun r S' => S = S' ∧ r = pI S 15 m) := by
  refine z_of (cc := cX6_thrown) (maxL := 1) (ret := (some .int)) (lo := [some (.ref m)]) (by decide) rfl rfl (Nat.le_of_ble_eq_true rfl) rfl ?_
  intro pp ee ss mi aa bl mh cd h0 hts hown hr hlk hnm
  have hown : ss.vm.findClass RX6 = some mi.cls := hown
  have inX6 : ∀ w ∈ u_ws RX6 TX6 14, w ∈ wsX6_thrown := by decide +kernel
  have lk_41 : zLk ss mi aa RX6 41 7 0 := ⟨RX6, TX6, 14, "PurseWorldModel", wsX6_thrown, rfl, by decide, hts, inX6, hown, hts (.fieldLink RX6 41 "PurseWorldModel" "code" "I") (by decide +kernel), fun _ h => h⟩
  refine z_aload_n h0 dX6_thrown_0 rfl ?_
  refine z_getI h0 fI15 lk_41 dX6_thrown_1 (by assumption) ?_
  exact z_iret h0 hr hlk dX6_thrown_4 (Nat.le_of_ble_eq_true rfl) (Nat.le_of_ble_eq_true rfl) ⟨rfl, rfl⟩

abbrev rm_X6_in : Room := { frames := 0, cells := 0, slots := 0, locals := 0 }
set_option maxRecDepth 100000 in
set_option maxHeartbeats 4000000 in
theorem c_X6_in {l : Launch} {D : va_G} {cI cZ cO : ClassId} {G : Nat → Nat} {S : PS} {x y z : Int32} : zMi l yX6_in wsX6_in rm_X6_in [.int x, .int y, .int z] D cI cZ cO G S (fun r S' => S = S' ∧ r = if y ≤ x ∧ x ≤ z then 1 else 0) := by
  refine z_of (cc := cX6_in) (maxL := 3) (ret := (some .boolean)) (lo := [some (.int x), some (.int y), some (.int z)]) (by decide) rfl rfl (Nat.le_of_ble_eq_true rfl) rfl ?_
  intro pp ee ss mi aa bl mh cd h0 hts hown hr hlk hnm
  have hown : ss.vm.findClass RX6 = some mi.cls := hown
  refine z_iload_n h0 dX6_in_0 rfl ?_
  refine z_iload_n h0 dX6_in_1 rfl ?_
  refine z_icmp_lt (tgt := 14) h0 dX6_in_2 (by decide) (fun h2 => ?_) (fun h2 => ?_)
  · refine z_iconst (v := 0) h0 dX6_in_14 (by decide) ?_
    exact z_zret h0 hr rfl hlk dX6_in_15 (Nat.le_of_ble_eq_true rfl) (Nat.le_of_ble_eq_true rfl) ⟨rfl, by rw [if_neg (fun q => k2_nlt q.1 h2)]⟩
  · refine z_iload_n h0 dX6_in_5 rfl ?_
    refine z_iload_n h0 dX6_in_6 rfl ?_
    refine z_icmp_gt (tgt := 14) h0 dX6_in_7 (by decide) (fun h7 => ?_) (fun h7 => ?_)
    · refine z_iconst (v := 0) h0 dX6_in_14 (by decide) ?_
      exact z_zret h0 hr rfl hlk dX6_in_15 (Nat.le_of_ble_eq_true rfl) (Nat.le_of_ble_eq_true rfl) ⟨rfl, by rw [if_neg (fun q => k2_nlt q.2 h7)]⟩
    · refine z_iconst (v := 1) h0 dX6_in_10 (by decide) ?_
      refine z_goto (tgt := 15) h0 dX6_in_11 (by decide) ?_
      exact z_zret h0 hr rfl hlk dX6_in_15 (Nat.le_of_ble_eq_true rfl) (Nat.le_of_ble_eq_true rfl) ⟨rfl, by rw [if_pos ⟨k2_le h2, k2_le h7⟩]⟩

theorem isP_iff {p : Int32} {n : Nat} (hn : n < 2 ^ 31) : (0 ≤ p ∧ p ≤ nI n - 1) ↔ (0 ≤ p.toInt ∧ p.toInt < n) := by
  rw [Int32.le_iff_toInt_le, Int32.le_iff_toInt_le, Int32.toInt_zero]
  have : (nI n - 1).toInt = (n : Int) - 1 := by
    rcases Nat.eq_zero_or_pos n with h | h
    · subst h; decide
    · obtain ⟨k, rfl⟩ : ∃ k, n = k + 1 := ⟨n - 1, by omega⟩
      rw [nI_pred, nI_toInt (by omega)]; omega
  rw [this]
  omega

abbrev rm_X6_isPurse : Room := { frames := 1, cells := 0, slots := 0, locals := 22 }
set_option maxRecDepth 100000 in
set_option maxHeartbeats 4000000 in
theorem c_X6_isPurse {l : Launch} {D : va_G} {cI cZ cO : ClassId} {G : Nat → Nat} {S : PS} {m : Nat} {A : Nat → Nat} {M : MS} (hR : RF S S m A M) {p : Int32} (hn : mP M < 2 ^ 31) : zMi l yX6_isPurse wsX6_isPurse rm_X6_isPurse [.ref m, .int p] D cI cZ cO G S (fun r S' => S = S' ∧ r = if 0 ≤ p.toInt ∧ p.toInt < mP M then 1 else 0) := by
  refine z_of (cc := cX6_isPurse) (maxL := 2) (ret := (some .boolean)) (lo := [some (.ref m), some (.int p)]) (by decide) rfl rfl (Nat.le_of_ble_eq_true rfl) rfl ?_
  intro pp ee ss mi aa bl mh cd h0 hts hown hr hlk hnm
  have hown : ss.vm.findClass RX6 = some mi.cls := hown
  have inX6 : ∀ w ∈ u_ws RX6 TX6 14, w ∈ wsX6_isPurse := by decide +kernel
  have lk_45 : zLk ss mi aa RX6 45 7 1 := ⟨RX6, TX6, 14, "PurseWorldModel", wsX6_isPurse, rfl, by decide, hts, inX6, hown, hts (.fieldLink RX6 45 "PurseWorldModel" "purses" "I") (by decide +kernel), fun _ h => h⟩
  refine z_iload_n h0 dX6_isPurse_0 rfl ?_
  refine z_iconst (v := 0) h0 dX6_isPurse_1 (by decide) ?_
  refine z_aload_n h0 dX6_isPurse_2 rfl ?_
  refine z_getI h0 fI16 lk_45 dX6_isPurse_3 (RF_m hR) ?_
  refine z_top (RF_p hR) ?_
  refine z_iconst (v := 1) h0 dX6_isPurse_6 (by decide) ?_
  refine z_isub h0 dX6_isPurse_7 ?_
  refine z_cSi (n := 3) (As := [_, _, _]) h0 hts hown c_X6_in gX6_isPurse_X6_in rfl (by decide +kernel) ⟨Nat.le_of_ble_eq_true rfl, Nat.le_of_ble_eq_true rfl⟩ dX6_isPurse_8 rfl rfl (Nat.le_of_ble_eq_true rfl) ⟨Nat.le_of_ble_eq_true rfl, Nat.le_of_ble_eq_true rfl⟩ (fun r8 S8 hp8 => ?_)
  simp only [isP_iff hn] at hp8
  exact z_zret h0 hr (by rw [hp8.2]; split <;> rfl) hlk dX6_isPurse_11 (Nat.le_of_ble_eq_true rfl) (Nat.le_of_ble_eq_true rfl) hp8

abbrev rm_X6_part : Room := { frames := 0, cells := 0, slots := 0, locals := 0 }
set_option maxRecDepth 100000 in
set_option maxHeartbeats 4000000 in
theorem c_X6_part {l : Launch} {D : va_G} {cI cZ cO : ClassId} {G : Nat → Nat} {S : PS} {m : Nat} {A : Nat → Nat} {M : MS} (hR : RF S S m A M) {p k : Nat} (hp : p < 1672) (hk : k < 5) : zMi l yX6_part wsX6_part rm_X6_part [.ref m, .int (nI p), .int (nI k)] D cI cZ cO G S (fun r S' => S = S' ∧ r = part k (mT M p)) := by
  refine z_of (cc := cX6_part) (maxL := 3) (ret := (some .int)) (lo := [some (.ref m), some (.int (nI p)), some (.int (nI k))]) (by decide) rfl rfl (Nat.le_of_ble_eq_true rfl) rfl ?_
  intro pp ee ss mi aa bl mh cd h0 hts hown hr hlk hnm
  have hown : ss.vm.findClass RX6 = some mi.cls := hown
  have inX6 : ∀ w ∈ u_ws RX6 TX6 14, w ∈ wsX6_part := by decide +kernel
  have lk_38 : zLk ss mi aa RX6 38 7 13 := ⟨RX6, TX6, 14, "PurseWorldModel", wsX6_part, rfl, by decide, hts, inX6, hown, hts (.fieldLink RX6 38 "PurseWorldModel" "transfers" "[I") (by decide +kernel), fun _ h => h⟩
  refine z_aload_n h0 dX6_part_0 rfl ?_
  refine z_getO h0 fO19 lk_38 dX6_part_1 (RF_m hR) (RF_o hR (k := 9) (by decide)) ?_
  refine z_iconst (v := 5) h0 dX6_part_4 (by decide) ?_
  refine z_iload_n h0 dX6_part_5 rfl ?_
  refine z_imul h0 dX6_part_6 ?_
  refine z_iload_n h0 dX6_part_7 rfl ?_
  refine z_iadd h0 dX6_part_8 ?_
  refine z_top (y := nI (5 * p + k)) (by rw [zc5, pk_mul, nI_add]) ?_
  refine z_iald h0 dX6_part_9 (RF_k hR (k := 9) (by decide)) (nI_toInt (by omega)) (RF_n hR (k := 9) (by decide) (by show _ < _; simp only [rLen]; omega))  ?_
  refine z_top (RF_t hR hk) ?_
  exact z_iret h0 hr hlk dX6_part_10 (Nat.le_of_ble_eq_true rfl) (Nat.le_of_ble_eq_true rfl) ⟨rfl, rfl⟩

theorem sT_2 {M : MS} {q : Nat} {t u : T5} : sT (sT M q t) q u = sT M q u := by simp only [sT, mT, mP, mM, mE, mA, bx_uu]
theorem copy_step {M : MS} {p q i : Nat} {t : T5} (hi : i < 5) (ht : ∀ j, j < 5 → part j t = if j < i then part j (mT M p) else part j (mT M q)) : ∃ u : T5, sT (sT M q t) q (setP (mT (sT M q t) q) i (part i (mT (sT M q t) p))) = sT M q u ∧ ∀ j, j < 5 → part j u = if j < i + 1 then part j (mT M p) else part j (mT M q) := by
  refine ⟨_, sT_2, fun j hj => ?_⟩
  rw [part_set hi hj, show mT (sT M q t) q = t from va_up_self _ _ _, ht j hj]
  have hpi : part i (mT (sT M q t) p) = part i (mT M p) := by
    by_cases hpq : p = q
    · subst hpq
      rw [show mT (sT M p t) p = t from va_up_self _ _ _, ht i hi]
      split <;> rfl
    · rw [show mT (sT M q t) p = mT M p from va_up_ne _ _ hpq]
  rw [hpi]
  by_cases h : j = i
  · subst h; rw [if_pos rfl, if_pos (Nat.lt_succ_self _)]
  · rw [if_neg h]
    by_cases g : j < i
    · rw [if_pos g, if_pos (by omega)]
    · rw [if_neg g, if_neg (by omega)]
theorem copy_done {M : MS} {p q : Nat} {t : T5} (ht : ∀ j, j < 5 → part j t = if j < 5 then part j (mT M p) else part j (mT M q)) : t = mT M p := part_eq (fun k hk => by rw [ht k hk, if_pos hk])

abbrev rm_X6_copy : Room := { frames := 0, cells := 0, slots := 0, locals := 0 }
set_option maxRecDepth 100000 in
set_option maxHeartbeats 4000000 in
theorem c_X6_copy {l : Launch} {D : va_G} {cI cZ cO : ClassId} {G : Nat → Nat} {S : PS} {m : Nat} {A : Nat → Nat} {M : MS} (hR : RF S S m A M) {p q : Nat} (hp : p < 1672) (hq : q < 1672) : zMv l yX6_copy wsX6_copy rm_X6_copy [.ref m, .int (nI p), .int (nI q)] D cI cZ cO G S (fun S' => RF S S' m A (sT M q (mT M p))) := by
  refine z_of (cc := cX6_copy) (maxL := 4) (ret := none) (lo := [some (.ref m), some (.int (nI p)), some (.int (nI q)), none]) (by decide) rfl rfl (Nat.le_of_ble_eq_true rfl) rfl ?_
  intro pp ee ss mi aa bl mh cd h0 hts hown hr hlk hnm
  have hown : ss.vm.findClass RX6 = some mi.cls := hown
  have inX6 : ∀ w ∈ u_ws RX6 TX6 14, w ∈ wsX6_copy := by decide +kernel
  have lk_38 : zLk ss mi aa RX6 38 7 13 := ⟨RX6, TX6, 14, "PurseWorldModel", wsX6_copy, rfl, by decide, hts, inX6, hown, hts (.fieldLink RX6 38 "PurseWorldModel" "transfers" "[I") (by decide +kernel), fun _ h => h⟩
  have loop : ∀ (n i : Nat) (S1 : PS) (M1 : MS), 5 - i < n → i ≤ 5 → RF S S1 m A M1 → (∃ t : T5, M1 = sT M q t ∧ ∀ j, j < 5 → part j t = if j < i then part j (mT M p) else part j (mT M q)) → ZW pp l ee rm_X6_copy ss mi aa bl mh cd D cI cZ cO (zA cI cZ cO S ss.heap.size) (MQ bl (zQv D cI cZ cO S (fun S' => RF S S' m A (sT M q (mT M p))) ss.heap.size) aa ss rm_X6_copy.cells rm_X6_copy.slots (zA cI cZ cO S ss.heap.size)) [] 4 S1 0 0 2 [some (.ref m), some (.int (nI p)), some (.int (nI q)), some (.int (nI i))] [] := by
    intro n
    induction n with
    | zero => intro i S1 M1 h; exact absurd h (Nat.not_lt_zero _)
    | succ n ih =>
      intro i S1 M1 hm hi hR ht
      obtain ⟨t, rfl, ht⟩ := ht
      refine z_iload_n h0 dX6_copy_2 rfl ?_
      refine z_iconst (v := 5) h0 dX6_copy_3 (by decide) ?_
      refine z_icmp_ge (tgt := 33) h0 dX6_copy_4 (by decide) (fun h4 => ?_) (fun h4 => ?_)
      · exact z_vret h0 hr hlk dX6_copy_33 (Nat.le_of_ble_eq_true rfl) (Nat.le_of_ble_eq_true rfl) (by have h5 : i = 5 := Nat.le_antisymm hi (nI_geof (b := 5) h4 (by omega) (by omega)); subst h5; rw [← copy_done ht]; exact hR)
      · have hlt : i < 5 := nI_ltof (b := 5) h4 (by omega)
        refine z_aload_n h0 dX6_copy_7 rfl ?_
        refine z_getO h0 fO19 lk_38 dX6_copy_8 (RF_m hR) (RF_o hR (k := 9) (by decide)) ?_
        refine z_iconst (v := 5) h0 dX6_copy_11 (by decide) ?_
        refine z_iload_n h0 dX6_copy_12 rfl ?_
        refine z_imul h0 dX6_copy_13 ?_
        refine z_iload_n h0 dX6_copy_14 rfl ?_
        refine z_iadd h0 dX6_copy_15 ?_
        refine z_top (y := nI (5 * q + i)) (by rw [zc5, pk_mul, nI_add]) ?_
        refine z_aload_n h0 dX6_copy_16 rfl ?_
        refine z_getO h0 fO19 lk_38 dX6_copy_17 (RF_m hR) (RF_o hR (k := 9) (by decide)) ?_
        refine z_iconst (v := 5) h0 dX6_copy_20 (by decide) ?_
        refine z_iload_n h0 dX6_copy_21 rfl ?_
        refine z_imul h0 dX6_copy_22 ?_
        refine z_iload_n h0 dX6_copy_23 rfl ?_
        refine z_iadd h0 dX6_copy_24 ?_
        refine z_top (y := nI (5 * p + i)) (by rw [zc5, pk_mul, nI_add]) ?_
        refine z_iald h0 dX6_copy_25 (RF_k hR (k := 9) (by decide)) (nI_toInt (by omega)) (RF_n hR (k := 9) (by decide) (by show _ < _; simp only [rLen]; omega))  ?_
        refine z_top (RF_t hR hlt) ?_
        refine z_iast h0 dX6_copy_26 (RF_k hR (k := 9) (by decide)) (nI_toInt (by omega)) (RF_n hR (k := 9) (by decide) (by show _ < _; simp only [rLen]; omega))  ?_
        refine z_iinc (lo' := [_, _, _, _]) (v := nI (i + 1)) h0 dX6_copy_27 rfl (nI_1 i) (by decide) rfl rfl ?_
        refine z_goto (tgt := 2) h0 dX6_copy_30 (by decide) ?_
        exact ih (i + 1) _ _ (by omega) (by omega) (RF_sT hR hlt) (copy_step hlt ht)
  refine z_iconst (v := 0) h0 dX6_copy_0 (by decide) ?_
  refine z_istore_n (lo' := [_, _, _, _]) h0 dX6_copy_1 (by decide) rfl rfl ?_
  refine loop 6 0 S M (by omega) (Nat.zero_le _) hR ⟨mT M q, ?_, fun j hj => by rw [if_neg (Nat.not_lt_zero _)]⟩
  have : va_up (mT M) q (mT M q) = mT M := by funext b; by_cases h : b = q <;> simp [va_up, h]
  simp only [sT, this]

theorem lay_eq {M : MS} {q : Nat} {x1 x2 x3 x4 x5 : Int32} : sT (sT (sT (sT (sT M q (setP (mT M q) 0 x1)) q (setP (mT (sT M q (setP (mT M q) 0 x1)) q) 1 x2)) q (setP (setP (setP (mT M q) 0 x1) 1 x2) 2 x3)) q (setP (setP (setP (setP (mT M q) 0 x1) 1 x2) 2 x3) 3 x4)) q (setP (setP (setP (setP (setP (mT M q) 0 x1) 1 x2) 2 x3) 3 x4) 4 x5) = sT M q (x1, x2, x3, x4, x5) := by
  simp only [sT_2, setP]
theorem sT_at {M : MS} {q : Nat} {t : T5} : mT (sT M q t) q = t := va_up_self _ _ _

abbrev rm_X6_lay : Room := { frames := 0, cells := 0, slots := 0, locals := 0 }
set_option maxRecDepth 100000 in
set_option maxHeartbeats 4000000 in
theorem c_X6_lay {l : Launch} {D : va_G} {cI cZ cO : ClassId} {G : Nat → Nat} {S : PS} {m : Nat} {A : Nat → Nat} {M : MS} (hR : RF S S m A M) {q : Nat} {x1 x2 x3 x4 x5 : Int32} (hq : q < 1672) : zMv l yX6_lay wsX6_lay rm_X6_lay [.ref m, .int (nI q), .int x1, .int x2, .int x3, .int x4, .int x5] D cI cZ cO G S (fun S' => RF S S' m A (sT M q (x1, x2, x3, x4, x5))) := by
  refine z_of (cc := cX6_lay) (maxL := 7) (ret := none) (lo := [some (.ref m), some (.int (nI q)), some (.int x1), some (.int x2), some (.int x3), some (.int x4), some (.int x5)]) (by decide) rfl rfl (Nat.le_of_ble_eq_true rfl) rfl ?_
  intro pp ee ss mi aa bl mh cd h0 hts hown hr hlk hnm
  have hown : ss.vm.findClass RX6 = some mi.cls := hown
  have inX6 : ∀ w ∈ u_ws RX6 TX6 14, w ∈ wsX6_lay := by decide +kernel
  have lk_38 : zLk ss mi aa RX6 38 7 13 := ⟨RX6, TX6, 14, "PurseWorldModel", wsX6_lay, rfl, by decide, hts, inX6, hown, hts (.fieldLink RX6 38 "PurseWorldModel" "transfers" "[I") (by decide +kernel), fun _ h => h⟩
  refine z_aload_n h0 dX6_lay_0 rfl ?_
  refine z_getO h0 fO19 lk_38 dX6_lay_1 (RF_m hR) (RF_o hR (k := 9) (by decide)) ?_
  refine z_iconst (v := 5) h0 dX6_lay_4 (by decide) ?_
  refine z_iload_n h0 dX6_lay_5 rfl ?_
  refine z_imul h0 dX6_lay_6 ?_
  refine z_top (y := nI (5 * q + 0)) (by rw [zc5, pk_mul]; rfl) ?_
  refine z_iload_n h0 dX6_lay_7 rfl ?_
  refine z_iast h0 dX6_lay_8 (RF_k hR (k := 9) (by decide)) (j := 5 * q + 0) (nI_toInt (by omega)) (RF_n hR (k := 9) (by decide) (by show _ < _; simp only [rLen]; omega))  ?_
  have hR := RF_sT (p := q) (k := 0) (v := x1) hR (by decide)
  refine z_aload_n h0 dX6_lay_9 rfl ?_
  refine z_getO h0 fO19 lk_38 dX6_lay_10 (RF_m hR) (RF_o hR (k := 9) (by decide)) ?_
  refine z_iconst (v := 5) h0 dX6_lay_13 (by decide) ?_
  refine z_iload_n h0 dX6_lay_14 rfl ?_
  refine z_imul h0 dX6_lay_15 ?_
  refine z_iconst (v := 1) h0 dX6_lay_16 (by decide) ?_
  refine z_iadd h0 dX6_lay_17 ?_
  refine z_top (y := nI (5 * q + 1)) (by rw [zc5, zc1, pk_mul, nI_add]) ?_
  refine z_iload_n h0 dX6_lay_18 rfl ?_
  refine z_iast h0 dX6_lay_19 (RF_k hR (k := 9) (by decide)) (j := 5 * q + 1) (nI_toInt (by omega)) (RF_n hR (k := 9) (by decide) (by show _ < _; simp only [rLen]; omega))  ?_
  have hR := RF_sT (p := q) (k := 1) (v := x2) hR (by decide)
  refine z_aload_n h0 dX6_lay_20 rfl ?_
  refine z_getO h0 fO19 lk_38 dX6_lay_21 (RF_m hR) (RF_o hR (k := 9) (by decide)) ?_
  refine z_iconst (v := 5) h0 dX6_lay_24 (by decide) ?_
  refine z_iload_n h0 dX6_lay_25 rfl ?_
  refine z_imul h0 dX6_lay_26 ?_
  refine z_iconst (v := 2) h0 dX6_lay_27 (by decide) ?_
  refine z_iadd h0 dX6_lay_28 ?_
  refine z_top (y := nI (5 * q + 2)) (by rw [zc5, zc2, pk_mul, nI_add]) ?_
  refine z_iload h0 dX6_lay_29 rfl ?_
  refine z_iast h0 dX6_lay_31 (RF_k hR (k := 9) (by decide)) (j := 5 * q + 2) (nI_toInt (by omega)) (RF_n hR (k := 9) (by decide) (by show _ < _; simp only [rLen]; omega))  ?_
  have hR := RF_sT (p := q) (k := 2) (v := x3) hR (by decide)
  refine z_aload_n h0 dX6_lay_32 rfl ?_
  refine z_getO h0 fO19 lk_38 dX6_lay_33 (RF_m hR) (RF_o hR (k := 9) (by decide)) ?_
  refine z_iconst (v := 5) h0 dX6_lay_36 (by decide) ?_
  refine z_iload_n h0 dX6_lay_37 rfl ?_
  refine z_imul h0 dX6_lay_38 ?_
  refine z_iconst (v := 3) h0 dX6_lay_39 (by decide) ?_
  refine z_iadd h0 dX6_lay_40 ?_
  refine z_top (y := nI (5 * q + 3)) (by rw [zc5, zc3, pk_mul, nI_add]) ?_
  refine z_iload h0 dX6_lay_41 rfl ?_
  refine z_iast h0 dX6_lay_43 (RF_k hR (k := 9) (by decide)) (j := 5 * q + 3) (nI_toInt (by omega)) (RF_n hR (k := 9) (by decide) (by show _ < _; simp only [rLen]; omega))  ?_
  have hR := RF_sT (p := q) (k := 3) (v := x4) hR (by decide)
  refine z_aload_n h0 dX6_lay_44 rfl ?_
  refine z_getO h0 fO19 lk_38 dX6_lay_45 (RF_m hR) (RF_o hR (k := 9) (by decide)) ?_
  refine z_iconst (v := 5) h0 dX6_lay_48 (by decide) ?_
  refine z_iload_n h0 dX6_lay_49 rfl ?_
  refine z_imul h0 dX6_lay_50 ?_
  refine z_iconst (v := 4) h0 dX6_lay_51 (by decide) ?_
  refine z_iadd h0 dX6_lay_52 ?_
  refine z_top (y := nI (5 * q + 4)) (by rw [zc5, zc4, pk_mul, nI_add]) ?_
  refine z_iload h0 dX6_lay_53 rfl ?_
  refine z_iast h0 dX6_lay_55 (RF_k hR (k := 9) (by decide)) (j := 5 * q + 4) (nI_toInt (by omega)) (RF_n hR (k := 9) (by decide) (by show _ < _; simp only [rLen]; omega))  ?_
  have hR := RF_sT (p := q) (k := 4) (v := x5) hR (by decide)
  simp only [sT_at, sT_2, setP] at hR
  exact z_vret h0 hr hlk dX6_lay_56 (Nat.le_of_ble_eq_true rfl) (Nat.le_of_ble_eq_true rfl) hR

theorem same_fin {t u : T5} {i : Nat} (h : 5 ≤ i) (hi : i ≤ 5) : (if ∀ j, j < i → part j t = part j u then (1 : Int32) else 0) = if t = u then 1 else 0 := by
  have h5 : i = 5 := by omega
  subst h5
  by_cases g : t = u
  · subst g; simp
  · rw [if_neg g, if_neg (fun z => g (part_eq z))]
theorem same_step {t u : T5} {i : Nat} {b : Int32} (hb : b = (if ∀ j, j < i → part j t = part j u then 1 else 0)) : (¬ b = 0 → part i t = part i u → (1 : Int32) = if ∀ j, j < i + 1 → part j t = part j u then 1 else 0) ∧ (b = 0 ∨ ¬ part i t = part i u → (0 : Int32) = if ∀ j, j < i + 1 → part j t = part j u then 1 else 0) := by
  constructor
  · intro h1 h2
    have h3 : ∀ j, j < i → part j t = part j u := by
      by_cases g : ∀ j, j < i → part j t = part j u
      · exact g
      · rw [if_neg g] at hb; exact absurd hb h1
    rw [if_pos]
    intro j hj
    rcases Nat.lt_or_eq_of_le (Nat.le_of_lt_succ hj) with g | g
    · exact h3 j g
    · subst g; exact h2
  · intro h
    rw [if_neg]
    intro z
    rcases h with h | h
    · rw [if_pos (fun j hj => z j (by omega))] at hb
      rw [hb] at h
      exact absurd h (by decide)
    · exact h (z i (by omega))

abbrev rm_X6_same : Room := { frames := 0, cells := 0, slots := 0, locals := 0 }
set_option maxRecDepth 100000 in
set_option maxHeartbeats 4000000 in
theorem c_X6_same {l : Launch} {D : va_G} {cI cZ cO : ClassId} {G : Nat → Nat} {S : PS} {m : Nat} {A : Nat → Nat} {M : MS} (hR : RF S S m A M) {p q : Nat} (hp : p < 1672) (hq : q < 1672) : zMi l yX6_same wsX6_same rm_X6_same [.ref m, .int (nI p), .int (nI q)] D cI cZ cO G S (fun r S' => S = S' ∧ r = if mT M p = mT M q then 1 else 0) := by
  refine z_of (cc := cX6_same) (maxL := 5) (ret := (some .boolean)) (lo := [some (.ref m), some (.int (nI p)), some (.int (nI q)), none, none]) (by decide) rfl rfl (Nat.le_of_ble_eq_true rfl) rfl ?_
  intro pp ee ss mi aa bl mh cd h0 hts hown hr hlk hnm
  have hown : ss.vm.findClass RX6 = some mi.cls := hown
  have inX6 : ∀ w ∈ u_ws RX6 TX6 14, w ∈ wsX6_same := by decide +kernel
  have lk_38 : zLk ss mi aa RX6 38 7 13 := ⟨RX6, TX6, 14, "PurseWorldModel", wsX6_same, rfl, by decide, hts, inX6, hown, hts (.fieldLink RX6 38 "PurseWorldModel" "transfers" "[I") (by decide +kernel), fun _ h => h⟩
  have loop : ∀ (n i : Nat) (b : Int32), 5 - i < n → i ≤ 5 → b = (if ∀ j, j < i → part j (mT M p) = part j (mT M q) then 1 else 0) → ZW pp l ee rm_X6_same ss mi aa bl mh cd D cI cZ cO (zA cI cZ cO S ss.heap.size) (MQ bl (zQi D cI cZ cO S (fun r S' => S = S' ∧ r = if mT M p = mT M q then 1 else 0) ss.heap.size) aa ss rm_X6_same.cells rm_X6_same.slots (zA cI cZ cO S ss.heap.size)) [] 5 S 0 0 5 [some (.ref m), some (.int (nI p)), some (.int (nI q)), some (.int b), some (.int (nI i))] [] := by
    intro n
    induction n with
    | zero => intro i b h; exact absurd h (Nat.not_lt_zero _)
    | succ n ih =>
      intro i b hm hi hb
      refine z_iload h0 dX6_same_5 rfl ?_
      refine z_iconst (v := 5) h0 dX6_same_7 (by decide) ?_
      refine z_icmp_ge (tgt := 52) h0 dX6_same_8 (by decide) (fun h8 => ?_) (fun h8 => ?_)
      · refine z_iload_n h0 dX6_same_52 rfl ?_
        exact z_zret h0 hr (by rw [hb]; split <;> rfl) hlk dX6_same_53 (Nat.le_of_ble_eq_true rfl) (Nat.le_of_ble_eq_true rfl) ⟨rfl, hb.trans (same_fin (nI_geof (b := 5) h8 (by omega) (by omega)) hi)⟩
      · have hlt : i < 5 := nI_ltof (b := 5) h8 (by omega)
        refine z_iload_n h0 dX6_same_11 rfl ?_
        refine z_if_eq (tgt := 44) h0 dX6_same_12 (by decide) (fun h12 => ?_) (fun h12 => ?_)
        · refine z_iconst (v := 0) h0 dX6_same_44 (by decide) ?_
          refine z_istore_n (lo' := [_, _, _, _, _]) h0 dX6_same_45 (by decide) rfl rfl ?_
          refine z_iinc (lo' := [_, _, _, _, _]) (v := nI (i + 1)) h0 dX6_same_46 rfl (nI_1 i) (by decide) rfl rfl ?_
          refine z_goto (tgt := 5) h0 dX6_same_49 (by decide) ?_
          exact ih (i + 1) 0 (by omega) (by omega) ((same_step hb).2 (Or.inl h12))
        · refine z_aload_n h0 dX6_same_15 rfl ?_
          refine z_getO h0 fO19 lk_38 dX6_same_16 (RF_m hR) (RF_o hR (k := 9) (by decide)) ?_
          refine z_iconst (v := 5) h0 dX6_same_19 (by decide) ?_
          refine z_iload_n h0 dX6_same_20 rfl ?_
          refine z_imul h0 dX6_same_21 ?_
          refine z_iload h0 dX6_same_22 rfl ?_
          refine z_iadd h0 dX6_same_24 ?_
          refine z_top (y := nI (5 * p + i)) (by rw [zc5, pk_mul, nI_add]) ?_
          refine z_iald h0 dX6_same_25 (RF_k hR (k := 9) (by decide)) (nI_toInt (by omega)) (RF_n hR (k := 9) (by decide) (by show _ < _; simp only [rLen]; omega))  ?_
          refine z_top (RF_t hR hlt) ?_
          refine z_aload_n h0 dX6_same_26 rfl ?_
          refine z_getO h0 fO19 lk_38 dX6_same_27 (RF_m hR) (RF_o hR (k := 9) (by decide)) ?_
          refine z_iconst (v := 5) h0 dX6_same_30 (by decide) ?_
          refine z_iload_n h0 dX6_same_31 rfl ?_
          refine z_imul h0 dX6_same_32 ?_
          refine z_iload h0 dX6_same_33 rfl ?_
          refine z_iadd h0 dX6_same_35 ?_
          refine z_top (y := nI (5 * q + i)) (by rw [zc5, pk_mul, nI_add]) ?_
          refine z_iald h0 dX6_same_36 (RF_k hR (k := 9) (by decide)) (nI_toInt (by omega)) (RF_n hR (k := 9) (by decide) (by show _ < _; simp only [rLen]; omega))  ?_
          refine z_top (RF_t hR hlt) ?_
          refine z_icmp_ne (tgt := 44) h0 dX6_same_37 (by decide) (fun h37 => ?_) (fun h37 => ?_)
          · refine z_iconst (v := 0) h0 dX6_same_44 (by decide) ?_
            refine z_istore_n (lo' := [_, _, _, _, _]) h0 dX6_same_45 (by decide) rfl rfl ?_
            refine z_iinc (lo' := [_, _, _, _, _]) (v := nI (i + 1)) h0 dX6_same_46 rfl (nI_1 i) (by decide) rfl rfl ?_
            refine z_goto (tgt := 5) h0 dX6_same_49 (by decide) ?_
            exact ih (i + 1) 0 (by omega) (by omega) ((same_step hb).2 (Or.inr h37))
          · refine z_iconst (v := 1) h0 dX6_same_40 (by decide) ?_
            refine z_goto (tgt := 45) h0 dX6_same_41 (by decide) ?_
            refine z_istore_n (lo' := [_, _, _, _, _]) h0 dX6_same_45 (by decide) rfl rfl ?_
            refine z_iinc (lo' := [_, _, _, _, _]) (v := nI (i + 1)) h0 dX6_same_46 rfl (nI_1 i) (by decide) rfl rfl ?_
            refine z_goto (tgt := 5) h0 dX6_same_49 (by decide) ?_
            exact ih (i + 1) 1 (by omega) (by omega) ((same_step hb).1 h12 h37)
  refine z_iconst (v := 1) h0 dX6_same_0 (by decide) ?_
  refine z_istore_n (lo' := [_, _, _, _, _]) h0 dX6_same_1 (by decide) rfl rfl ?_
  refine z_iconst (v := 0) h0 dX6_same_2 (by decide) ?_
  refine z_istore (lo' := [_, _, _, _, _]) h0 dX6_same_3 (by decide) rfl rfl ?_
  exact loop 6 0 1 (by omega) (Nat.zero_le _) (by simp)

end REFER
