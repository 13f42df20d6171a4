/-! THE INVARIANT STAYS. -/
section MISTAYS
theorem tOk_le {n n' : Nat} {t : T5} (h : tOk n t) (hn : n ≤ n') : tOk n' t := by
  obtain ⟨a, b, ha, hb, hab, e1, e2⟩ := h
  exact ⟨a, b, by omega, by omega, hab, e1, e2⟩
theorem pOk_congr {b b' : Nat} {M M' : MS} {p : Nat} (h : pOk b M p) (hb : b ≤ b') (hP : mP M ≤ mP M') (h1 : mA M' 1 p = mA M 1 p) (h2 : mA M' 2 p = mA M 2 p) (h3 : mA M' 3 p = mA M 3 p) (hT : mT M' p = mT M p) (hL : ∀ j, j < 5 → mT M' (12 + 5 * p + j) = mT M (12 + 5 * p + j)) : pOk b' M' p := by
  obtain ⟨s, n, v, e1, e2, e3, e4, e5, e6, e7, e8, e9, e10⟩ := h
  refine ⟨s, n, v, h2.trans e1, e2, h3.trans e3, e4, h1.trans e5, e6, Nat.le_trans e7 hb, fun hs => ?_, fun j hj => ?_, fun j k hj hk e => ?_⟩
  · rw [hT]
    obtain ⟨g1, g2, g3⟩ := e8 hs
    exact ⟨g1, tOk_le g2 hP, g3⟩
  · rw [hL j (by omega)]
    obtain ⟨g1, g2⟩ := e9 j hj
    exact ⟨tOk_le g1 hP, g2⟩
  · rw [hL j (by omega), hL k (by omega)] at e
    exact e10 j k hj hk e
theorem gOk_congr {M M' : MS} {i : Nat} (h : gOk M i) (hP : mP M ≤ mP M') (hE : mE M ≤ mE M') (h4 : mA M' 4 i = mA M 4 i) (h5 : mA M' 5 i = mA M 5 i) (h6 : mA M' 6 i = mA M 6 i) (hT : mT M' (72 + i) = mT M (72 + i)) : gOk M' i := by
  obtain ⟨kd, e1, e2, e3, e4, e5⟩ := h
  refine ⟨kd, h4.trans e1, e2, fun h => ?_, fun h => ?_, fun h => ?_⟩
  · obtain ⟨g1, to, g2, g3, g4⟩ := e3 h
    rw [hT, h5]
    exact ⟨tOk_le g1 hP, to, by omega, g3, g4⟩
  · obtain ⟨g1, te, g2, g3, g4⟩ := e4 h
    rw [hT, h6]
    exact ⟨tOk_le g1 hP, te, by omega, g3, g4⟩
  · obtain ⟨⟨to, g1, g2⟩, k, g3, g4⟩ := e5 h
    rw [h5, h6]
    exact ⟨⟨to, by omega, g2⟩, k, by omega, g4⟩
theorem kpt_iff {M : MS} {x : Int32} {q n : Nat} : kpt M x q n = true ↔ ∃ j, j < n ∧ mA M 7 j = x ∧ mT M (872 + j) = mT M q := by
  unfold kpt
  simp only [List.any_eq_true, List.mem_range, decide_eq_true_eq]
theorem kpt_mono {M M' : MS} {x : Int32} {q q' n n' : Nat} (h : kpt M x q n = true) (hn : n ≤ n') (h7 : ∀ j, j < n → mA M' 7 j = mA M 7 j) (hT : ∀ j, j < n → mT M' (872 + j) = mT M (872 + j)) (hq : mT M' q' = mT M q) : kpt M' x q' n' = true := by
  obtain ⟨j, h1, h2, h3⟩ := kpt_iff.mp h
  exact kpt_iff.mpr ⟨j, by omega, (h7 j h1).trans h2, by rw [hT j h1, hq]; exact h3⟩
theorem eOk_congr {M M' : MS} {k : Nat} (h : eOk M k) (hk : k < mE M) (hP : mP M ≤ mP M') (hE : mE M ≤ mE M') (h7 : ∀ j, j < mE M → mA M' 7 j = mA M 7 j) (h8 : mA M' 8 k = mA M 8 k) (hT : ∀ j, j < mE M → mT M' (872 + j) = mT M (872 + j)) : eOk M' k := by
  obtain ⟨e1, ⟨te, e2, e3, e4⟩, e5⟩ := h
  refine ⟨by rw [hT k hk]; exact tOk_le e1 hP, ⟨te, by omega, (h7 k hk).trans e3, by rw [hT k hk]; exact e4⟩, fun h => ?_⟩
  rw [h8] at h
  rw [hT k hk]
  exact ⟨kpt_mono (e5 h).1 hE h7 hT (hT k hk), kpt_mono (e5 h).2 hE h7 hT (hT k hk)⟩
/-- where everything that counts is the same -/
theorem MIb_congr {b b' c c' : Nat} {M M' : MS} (h : MIb b c M) (hb : b ≤ b') (hc : c ≤ c') (hP : mP M' = mP M) (hM : mM M' = mM M) (hE : mE M' = mE M) (hA : ∀ f j, f ≠ 0 → (f = 6 → j < mM M) → mA M' f j = mA M f j) (hT : ∀ q, q < 72 + mM M ∨ 872 ≤ q → mT M' q = mT M q) : MIb b' c' M' := by
  obtain ⟨h1, h2, h3, h4, h5, h6, h7, h8⟩ := h
  refine ⟨by omega, by omega, by omega, fun p hp => ?_, fun p g1 g2 => ?_, fun i hi => ?_, fun k hk => ?_, fun j k hj hk e1 e2 => ?_⟩
  · exact pOk_congr (h4 p (by omega)) hb (by omega) (hA 1 p (by decide) (fun z => absurd z (by decide))) (hA 2 p (by decide) (fun z => absurd z (by decide))) (hA 3 p (by decide) (fun z => absurd z (by decide))) (hT p (by omega)) (fun j hj => hT _ (by omega))
  · rw [hA 2 p (by decide) (fun z => absurd z (by decide)), hA 3 p (by decide) (fun z => absurd z (by decide))]; exact h5 p (by omega) g2
  · exact gOk_congr (h6 i (by omega)) (by omega) (by omega) (hA 4 i (by decide) (fun z => absurd z (by decide))) (hA 5 i (by decide) (fun z => absurd z (by decide))) (hA 6 i (by decide) (fun _ => by omega)) (hT _ (by omega))
  · exact eOk_congr (h7 k (by omega)) (by omega) (by omega) (by omega) (fun j _ => hA 7 j (by decide) (fun z => absurd z (by decide))) (hA 8 k (by decide) (fun z => absurd z (by decide))) (fun j _ => hT _ (by omega))
  · rw [hA 7 j (by decide) (fun z => absurd z (by decide)), hA 7 k (by decide) (fun z => absurd z (by decide))] at e1
    rw [hT _ (by omega), hT _ (by omega)] at e2
    exact h8 j k (by omega) (by omega) e1 e2
theorem MI_up {c : Nat} {M : MS} (h : MI c M) : MI (c + 1) M := MIb_congr h (by omega) (by omega) rfl rfl rfl (fun _ _ _ _ => rfl) (fun _ _ => rfl)
theorem MIb_up {b b' c c' : Nat} {M : MS} (h : MIb b c M) (hb : b ≤ b') (hc : c ≤ c') : MIb b' c' M := MIb_congr h hb hc rfl rfl rfl (fun _ _ _ _ => rfl) (fun _ _ => rfl)
/-- the place of the next message is free -/
theorem MIb_slot {b c : Nat} {M : MS} (h : MIb b c M) (hm : mM M < 800) (t : T5) : MIb b c (sT M (72 + mM M) t) := MIb_congr h (Nat.le_refl _) (Nat.le_refl _) rfl rfl rfl (fun _ _ _ _ => rfl) (fun q hq => mT_a (fun z => by subst z; omega))
theorem MIb_slot6 {b c : Nat} {M : MS} (h : MIb b c M) (x : Int32) : MIb b c (sA M 6 (mM M) x) := MIb_congr h (Nat.le_refl _) (Nat.le_refl _) rfl rfl rfl (fun f j _ hj => by
  by_cases hf : f = 6
  · exact mA_a (by have := hj hf; omega)
  · exact mA_f hf) (fun q _ => rfl)
theorem MIb_bal {b c : Nat} {M : MS} (h : MIb b c M) (p : Nat) (x : Int32) : MIb b c (sA M 0 p x) := MIb_congr h (Nat.le_refl _) (Nat.le_refl _) rfl rfl rfl (fun f j hf _ => mA_f hf) (fun q _ => rfl)
theorem mSend_A {M : MS} {k to : Int32} {q f j : Nat} (h : (f ≠ 4 ∧ f ≠ 5) ∨ j ≠ mM M) : mA (mSend M k to q) f j = mA M f j := by
  show up2 (up2 (mA M) 4 (mM M) k) 5 (mM M) to f j = _
  rcases h with h | h
  · rw [up2_f _ _ _ _ h.2, up2_f _ _ _ _ h.1]
  · rw [up2_a _ _ _ _ h, up2_a _ _ _ _ h]
theorem mSend_4 {M : MS} {k to : Int32} {q : Nat} : mA (mSend M k to q) 4 (mM M) = k := by
  show up2 (up2 (mA M) 4 (mM M) k) 5 (mM M) to 4 (mM M) = _
  rw [up2_f _ _ _ _ (by decide), up2_s]
theorem mSend_5 {M : MS} {k to : Int32} {q : Nat} : mA (mSend M k to q) 5 (mM M) = to := up2_s _ _ _ _
theorem mSend_T {M : MS} {k to : Int32} {q r : Nat} (h : r ≠ 72 + mM M) : mT (mSend M k to q) r = mT M r := va_up_ne _ _ h
theorem mSend_Ts {M : MS} {k to : Int32} {q : Nat} : mT (mSend M k to q) (72 + mM M) = mT M q := va_up_self _ _ _
theorem MIb_send {b c : Nat} {M : MS} {k to : Int32} {q : Nat} (h : MIb b c M) (hm : mM M < 800) (hg : gOk (mSend M k to q) (mM M)) : MIb b c (mSend M k to q) := by
  obtain ⟨h1, h2, h3, h4, h5, h6, h7, h8⟩ := h
  refine ⟨h1, hm, h3, fun p hp => ?_, fun p g1 g2 => ?_, fun i hi => ?_, fun k hk => ?_, fun j k hj hk e1 e2 => ?_⟩
  · have hp' : p < mP M := hp
    exact pOk_congr (h4 p hp) (Nat.le_refl _) (Nat.le_refl _) (mSend_A (Or.inl (by decide))) (mSend_A (Or.inl (by decide))) (mSend_A (Or.inl (by decide))) (mSend_T (by omega)) (fun j hj => mSend_T (by omega))
  · rw [mSend_A (Or.inl (by decide)), mSend_A (Or.inl (by decide))]; exact h5 p g1 g2
  · by_cases hi2 : i = mM M
    · rw [hi2]; exact hg
    · have hi3 : i < mM M + 1 := hi
      exact gOk_congr (h6 i (by omega)) (Nat.le_refl _) (Nat.le_refl _) (mSend_A (Or.inr hi2)) (mSend_A (Or.inr hi2)) (mSend_A (Or.inr hi2)) (mSend_T (by omega))
  · exact eOk_congr (h7 k hk) hk (Nat.le_refl _) (Nat.le_refl _) (fun j _ => mSend_A (Or.inl (by decide))) (mSend_A (Or.inl (by decide))) (fun j _ => mSend_T (by omega))
  · rw [mSend_A (Or.inl (by decide)), mSend_A (Or.inl (by decide))] at e1
    rw [mSend_T (by omega), mSend_T (by omega)] at e2
    exact h8 j k hj hk e1 e2
/-- one purse has changed: its serial, state, log size, its places -/
theorem MIb_purse {b b' c : Nat} {M M' : MS} {p : Nat} (h : MIb b c M) (hb : b ≤ b') (hp : p < mP M) (hP : mP M' = mP M) (hM : mM M' = mM M) (hE : mE M' = mE M) (hA : ∀ f j, f ≠ 0 → (f = 1 ∨ f = 2 ∨ f = 3 → j ≠ p) → mA M' f j = mA M f j)
    (hT : ∀ q, q ≠ p → ¬ (12 + 5 * p ≤ q ∧ q < 12 + 5 * p + 5) → mT M' q = mT M q) (hk : pOk b' M' p) : MIb b' c M' := by
  obtain ⟨h1, h2, h3, h4, h5, h6, h7, h8⟩ := h
  have N : ∀ {f j : Nat}, ¬ (f = 1 ∨ f = 2 ∨ f = 3) → (f = 1 ∨ f = 2 ∨ f = 3 → j ≠ p) := fun h z => absurd z h
  refine ⟨by omega, by omega, by omega, fun r hr => ?_, fun r g1 g2 => ?_, fun i hi => ?_, fun k hk => ?_, fun j k hj hk e1 e2 => ?_⟩
  · by_cases hrp : r = p
    · rw [hrp]; exact hk
    · exact pOk_congr (h4 r (by omega)) hb (by omega) (hA 1 r (by decide) (fun _ => hrp)) (hA 2 r (by decide) (fun _ => hrp)) (hA 3 r (by decide) (fun _ => hrp)) (hT r hrp (by omega)) (fun j hj => hT _ (by omega) (by omega))
  · rw [hA 2 r (by decide) (fun _ => by omega), hA 3 r (by decide) (fun _ => by omega)]; exact h5 r (by omega) g2
  · exact gOk_congr (h6 i (by omega)) (by omega) (by omega) (hA 4 i (by decide) (N (by decide))) (hA 5 i (by decide) (N (by decide))) (hA 6 i (by decide) (N (by decide))) (hT _ (by omega) (by omega))
  · exact eOk_congr (h7 k (by omega)) (by omega) (by omega) (by omega) (fun j _ => hA 7 j (by decide) (N (by decide))) (hA 8 k (by decide) (N (by decide))) (fun j _ => hT _ (by omega) (by omega))
  · rw [hA 7 j (by decide) (N (by decide)), hA 7 k (by decide) (N (by decide))] at e1
    rw [hT _ (by omega) (by omega), hT _ (by omega) (by omega)] at e2
    exact h8 j k (by omega) (by omega) e1 e2
theorem mLog_lo {M : MS} {p s : Nat} (hs : mA M 2 p = nI s) (h : s < 2) : mLog M p = M := by
  unfold mLog; rw [if_neg (by rw [hs]; intro z; have := (nI_leI (a := 2) (b := s) (by decide) (by omega)).mp z; omega)]
theorem mLog_hi {M : MS} {p s n : Nat} (hs : mA M 2 p = nI s) (h : 2 ≤ s) (h3 : s ≤ 3) (hn : mA M 3 p = nI n) (hn5 : n ≤ 5) : mLog M p = sA (sT M (12 + 5 * p + n) (mT M p)) 3 p (nI (n + 1)) := by
  unfold mLog; rw [if_pos (by rw [hs]; exact (nI_leI (a := 2) (b := s) (by decide) (by omega)).mpr h), lnN_of hn (by omega), hn, nI_1]
/-- what mEnd leaves, by the old state -/
theorem mEnd_0 {M : MS} {p : Nat} (hs : mA M 2 p = 0) : mEnd M p = M := by
  unfold mEnd
  rw [mLog_lo (s := 0) hs (by decide), if_pos hs, Int32.add_zero, sA_same]
  exact (congrArg (sA M 2 p) hs.symm).trans sA_same
theorem mEnd_A {M : MS} {p f j : Nat} (h0 : f ≠ 1 ∧ f ≠ 2 ∧ f ≠ 3 ∨ j ≠ p) : mA (mEnd M p) f j = mA M f j := by
  unfold mEnd mLog
  by_cases h : 2 ≤ mA M 2 p
  · rw [if_pos h]
    rcases h0 with h0 | h0
    · rw [mA_f h0.2.1, mA_f h0.1, mA_f h0.2.2]
    · rw [mA_a h0, mA_a h0, mA_a h0]
  · rw [if_neg h]
    rcases h0 with h0 | h0
    · rw [mA_f h0.2.1, mA_f h0.1]
    · rw [mA_a h0, mA_a h0]
theorem mEnd_2 {M : MS} {p : Nat} : mA (mEnd M p) 2 p = 0 := mA_s
theorem mEnd_T {M : MS} {p q : Nat} (hn : lnN M p ≤ 4) (h : ¬ (12 + 5 * p ≤ q ∧ q < 12 + 5 * p + 5)) : mT (mEnd M p) q = mT M q := by
  unfold mEnd mLog
  by_cases h2 : 2 ≤ mA M 2 p
  · rw [if_pos h2]; exact mT_a (by omega)
  · rw [if_neg h2]
theorem mEnd_s {b c : Nat} {M : MS} {p s n v : Nat} (_ : MIb b c M) (hs : mA M 2 p = nI s) (h1 : 1 ≤ s) (h3 : s ≤ 3) (hn : mA M 3 p = nI n) (hv : mA M 1 p = nI v) (hn4 : n ≤ 4) : mA (mEnd M p) 1 p = nI (v + 1) ∧ mA (mEnd M p) 2 p = 0 ∧ mA (mEnd M p) 3 p = nI (if 2 ≤ s then n + 1 else n) ∧ (∀ j, j < n → mT (mEnd M p) (12 + 5 * p + j) = mT M (12 + 5 * p + j)) ∧ (2 ≤ s → mT (mEnd M p) (12 + 5 * p + n) = mT M p) := by
  have hne : ¬ mA M 2 p = 0 := by rw [hs]; exact nI_ne0 (by omega) (by omega)
  have e1 : mA (mEnd M p) 1 p = nI (v + 1) := by
    unfold mEnd
    rw [mA_f (by decide), mA_s, if_neg hne, hv, nI_1]
  refine ⟨e1, mEnd_2, ?_, fun j hj => ?_, fun h2 => ?_⟩
  · unfold mEnd
    rw [mA_f (by decide), mA_f (by decide)]
    by_cases h2 : 2 ≤ s
    · rw [if_pos h2, mLog_hi hs h2 h3 hn (by omega), mA_s]
    · rw [if_neg h2, mLog_lo hs (by omega)]; exact hn
  · unfold mEnd
    show mT (mLog M p) _ = _
    by_cases h2 : 2 ≤ s
    · rw [mLog_hi hs h2 h3 hn (by omega)]; exact mT_a (by omega)
    · rw [mLog_lo hs (by omega)]
  · unfold mEnd
    show mT (mLog M p) _ = _
    rw [mLog_hi hs h2 h3 hn (by omega)]; exact mT_s
theorem nI_ne {a b : Nat} (h : a ≠ b) (ha : a < 2 ^ 31) (hb : b < 2 ^ 31) : ¬ nI a = nI b := fun z => h ((nI_eq ha hb).mp z)
theorem MIb_end {b c : Nat} {M : MS} {p : Nat} (h : MIb b c M) (hb : b < 2 ^ 30) (hp : p < mP M) : MIb (b + 1) c (mEnd M p) := by
  have hp12 := h.1
  obtain ⟨s, n, v, es, hs3, en, hn5, ev, hv1, hvb, hcur, hlog, hdis⟩ := h.2.2.2.1 p hp
  by_cases hs0 : s = 0
  · subst hs0; rw [mEnd_0 es]; exact MIb_up h (by omega) (Nat.le_refl _)
  · obtain ⟨hn4, ht, h2, h02, hown, hv2⟩ := hcur hs0
    obtain ⟨g1, g2, g3, g4, g5⟩ := mEnd_s h es (by omega) hs3 en ev hn4
    have hln := lnN_of en (by omega)
    refine MIb_purse h (by omega) hp mEnd_M.2.1 mEnd_M.1 mEnd_M.2.2 (fun f j hf hj => mEnd_A ?_) (fun q _ hq => mEnd_T (by omega) hq) ?_
    · by_cases hjp : j = p
      · subst hjp; exact Or.inl ⟨fun z => hj (Or.inl z) rfl, fun z => hj (Or.inr (Or.inl z)) rfl, fun z => hj (Or.inr (Or.inr z)) rfl⟩
      · exact Or.inr hjp
    · refine ⟨0, if 2 ≤ s then n + 1 else n, v + 1, g2, by omega, g3, by split <;> omega, g1, by omega, by omega, fun z => absurd rfl z, fun j hj => ?_, fun j k hj hk e => ?_⟩
      · rw [mEnd_M.2.1]
        by_cases hjn : j < n
        · rw [g4 j hjn]
          obtain ⟨a1, a2, w, a3, a4⟩ := hlog j hjn
          rw [if_neg hs0] at a4
          exact ⟨a1, a2, w, a3, by rw [if_pos rfl]; omega⟩
        · by_cases hs2 : 2 ≤ s
          · rw [if_pos hs2] at hj
            have hjn2 : j = n := by omega
            subst hjn2
            rw [g5 hs2]
            refine ⟨ht, ?_, v - 1, hown, by rw [if_pos rfl]; omega⟩
            by_cases hs22 : s = 2
            · exact Or.inr (h2 hs22)
            · exact Or.inl (h02 hs22)
          · rw [if_neg hs2] at hj; omega
      · have key : ∀ j, j < n → mT (mEnd M p) (12 + 5 * p + j) = mT (mEnd M p) (12 + 5 * p + n) → 2 ≤ s → False := by
          intro j hj e hs2
          rw [g4 j hj, g5 hs2] at e
          obtain ⟨-, -, w, a3, a4⟩ := hlog j hj
          rw [e, hown] at a3
          rw [if_neg hs0] at a4
          have := (nI_eq (by omega) (by omega)).mp a3
          omega
        by_cases hs2 : 2 ≤ s
        · rw [if_pos hs2] at hj hk
          by_cases hjn : j < n
          · by_cases hkn : k < n
            · rw [g4 j hjn, g4 k hkn] at e; exact hdis j k hjn hkn e
            · have : k = n := by omega
              subst this; exact (key j hjn e hs2).elim
          · by_cases hkn : k < n
            · have : j = n := by omega
              subst this; exact (key k hkn e.symm hs2).elim
            · omega
        · rw [if_neg hs2] at hj hk
          rw [g4 j hj, g4 k hk] at e; exact hdis j k hj hk e
theorem mGo_T {M : MS} {p q r : Nat} {b : Bool} (h : r ≠ p) : mT (mGo M p q b) r = mT M r := mT_a h
theorem mGo_Ts {M : MS} {p q : Nat} {b : Bool} : mT (mGo M p q b) p = setP (mT M q) (if b then 1 else 3) (mA M 1 p) := mT_s
theorem mGo_A {M : MS} {p q f j : Nat} {b : Bool} (h : f ≠ 1 ∧ f ≠ 2 ∨ j ≠ p) : mA (mGo M p q b) f j = mA M f j := by
  unfold mGo
  rcases h with h | h
  · rw [mA_f h.2, mA_f h.1]
  · rw [mA_a h, mA_a h]
theorem mGo_1 {M : MS} {p q : Nat} {b : Bool} : mA (mGo M p q b) 1 p = mA M 1 p + 1 := by unfold mGo; rw [mA_f (by decide), mA_s]
theorem mGo_2 {M : MS} {p q : Nat} {b : Bool} : mA (mGo M p q b) 2 p = if b then 1 else 2 := by unfold mGo; exact mA_s
theorem MIb_go {b c : Nat} {M : MS} {p q : Nat} {d : Bool} (h : MIb b c M) (hb : b < 2 ^ 30) (hp : p < mP M) (h0 : mA M 2 p = 0) (hn : ¬ mA M 3 p = 5) (ht : tOk (mP M) (mT M q)) (hd : if d then part 0 (mT M q) = nI p else part 2 (mT M q) = nI p) : MIb (b + 1) c (mGo M p q d) ∧ tOk (mP M) (mT (mGo M p q d) p) := by
  have hp12 := h.1
  obtain ⟨s, n, v, es, hs3, en, hn5, ev, hv1, hvb, hcur, hlog, hdis⟩ := h.2.2.2.1 p hp
  have hs0 : s = 0 := (nI_eq (b := 0) (by omega) (by decide)).mp (es.symm.trans h0)
  subst hs0
  have hn4 : n ≤ 4 := by
    rcases Nat.lt_or_eq_of_le hn5 with g | g
    · omega
    · subst g; exact absurd en hn
  have tt : tOk (mP M) (mT (mGo M p q d) p) := by
    rw [mGo_Ts]
    obtain ⟨a, a2, k1, k2, k3, k4, k5⟩ := ht
    refine ⟨a, a2, k1, k2, k3, ?_, ?_⟩ <;> cases d <;> assumption
  refine ⟨MIb_purse h (by omega) hp rfl rfl rfl (fun f j hf hj => mGo_A ?_) (fun r hr _ => mGo_T hr) ?_, tt⟩
  · by_cases hjp : j = p
    · subst hjp; exact Or.inl ⟨fun z => hj (Or.inl z) rfl, fun z => hj (Or.inr (Or.inl z)) rfl⟩
    · exact Or.inr hjp
  · refine ⟨if d then 1 else 2, n, v + 1, ?_, by split <;> omega, (mGo_A (Or.inl (by decide))).trans en, hn5, by rw [mGo_1, ev, nI_1], by omega, by omega, fun _ => ⟨hn4, tt, ?_, ?_, ?_, by omega⟩, fun j hj => ?_, fun j k hj hk e => ?_⟩
    · rw [mGo_2]; cases d <;> rfl
    · rw [mGo_Ts]; cases d
      · intro _; exact hd
      · intro z; exact absurd z (by decide)
    · rw [mGo_Ts]; cases d
      · intro z; exact absurd rfl z
      · intro _; exact hd
    · rw [mGo_Ts, ev]
      obtain ⟨a, a2, k1, k2, k3, k4, k5⟩ := ht
      unfold ownS
      cases d
      · have e0 : part 0 (setP (mT M q) (if false = true then 1 else 3) (nI v)) = part 0 (mT M q) := rfl
        rw [e0, if_neg ?_]
        · rfl
        · have hd' : part 2 (mT M q) = nI p := hd
          rw [k4]
          intro z
          have z1 := (nI_eq (by omega) (by omega)).mp z
          have z2 := (nI_eq (by omega) (by omega)).mp (k5.symm.trans hd')
          omega
      · have e0 : part 0 (setP (mT M q) (if true = true then 1 else 3) (nI v)) = part 0 (mT M q) := rfl
        rw [e0, if_pos (show part 0 (mT M q) = nI p from hd)]; rfl
    · have hpl : 12 + 5 * p + j ≠ p := by omega
      rw [mGo_T hpl]
      obtain ⟨a1, a2, w, a3, a4⟩ := hlog j hj
      rw [if_pos rfl] at a4
      refine ⟨a1, a2, w, a3, ?_⟩
      have hle : (if (if d = true then 1 else 2) = 0 then 0 else 1) ≤ 1 := by cases d <;> decide
      omega
    · rw [mGo_T (by omega), mGo_T (by omega)] at e
      exact hdis j k hj hk e
/-- the state of a purse alone has changed -/
theorem MIb_state {b c : Nat} {M : MS} {p s s' : Nat} (h : MIb b c M) (hp : p < mP M) (es : mA M 2 p = nI s) (hs : s ≠ 0) (hs4 : s ≤ 3) (hs' : s' = 0 ∨ (s = 1 ∧ s' = 3)) : MIb b c (sA M 2 p (nI s')) := by
  have hp12 := h.1
  obtain ⟨s0, n, v, es0, hs3, en, hn5, ev, hv1, hvb, hcur, hlog, hdis⟩ := h.2.2.2.1 p hp
  have : s0 = s := (nI_eq (by omega) (by omega)).mp (es0.symm.trans es)
  subst this
  refine MIb_purse h (Nat.le_refl _) hp rfl rfl rfl (fun f j hf hj => ?_) (fun _ _ _ => rfl) ?_
  · by_cases hjp : j = p
    · exact mA_f (fun z => hj (Or.inr (Or.inl z)) hjp)
    · exact mA_a hjp
  · refine ⟨s', n, v, mA_s, by omega, (mA_f (by decide)).trans en, hn5, (mA_f (by decide)).trans ev, hv1, hvb, fun z => ?_, fun j hj => ?_, hdis⟩
    · rcases hs' with g | ⟨g1, g2⟩
      · exact absurd g z
      · obtain ⟨k1, k2, k3, k4, k5⟩ := hcur hs
        exact ⟨k1, k2, fun z => by omega, fun _ => k4 (by omega), k5⟩
    · obtain ⟨a1, a2, w, a3, a4⟩ := hlog j hj
      rw [if_neg hs] at a4
      refine ⟨a1, a2, w, a3, ?_⟩
      split <;> omega
theorem MIb_clr {b c : Nat} {M : MS} {p : Nat} (h : MIb b c M) (hp : p < mP M) (h0 : mA M 2 p = 0) : MIb b c (sA M 3 p 0) := by
  have hp12 := h.1
  obtain ⟨s, n, v, es, hs3, en, hn5, ev, hv1, hvb, hcur, hlog, hdis⟩ := h.2.2.2.1 p hp
  refine MIb_purse h (Nat.le_refl _) hp rfl rfl rfl (fun f j hf hj => ?_) (fun _ _ _ => rfl) ?_
  · by_cases hjp : j = p
    · exact mA_f (fun z => hj (Or.inr (Or.inr z)) hjp)
    · exact mA_a hjp
  · exact ⟨0, 0, v, (mA_f (by decide)).trans h0, by omega, mA_s, by omega, (mA_f (by decide)).trans ev, hv1, hvb, fun z => absurd rfl z, fun j hj => absurd hj (Nat.not_lt_zero _), fun j k hj => absurd hj (Nat.not_lt_zero _)⟩
theorem gOk_send {M : MS} {kd to q : Nat} (hkd : kd < 5) (ht : tOk (mP M) (mT M q)) (hto : to < mP M) (h0 : kd = 0 → part 0 (mT M q) = nI to) (h1 : kd = 1 → part 2 (mT M q) = nI to) : gOk (mSend M (nI kd) (nI to) q) (mM M) :=
  ⟨kd, mSend_4, by omega, fun _ => by rw [mSend_Ts, mSend_5]; exact ⟨ht, to, hto, rfl, h0, h1⟩, fun z => by omega, fun z => by omega⟩
theorem MI_purse {c : Nat} {M : MS} (x : Int32) (h : MI c M) : MI (c + 1) (oPurse M x).2.2 := by
  unfold oPurse
  split
  · exact MI_up h
  split
  · exact MI_up h
  next g1 g2 =>
  obtain ⟨h1, h2, h3, h4, h5, h6, h7, h8⟩ := h
  have A0 : ∀ f j, (f ≠ 1 ∧ f ≠ 0 ∨ j ≠ mP M) → up2 (up2 (mA M) 0 (mP M) x) 1 (mP M) 1 f j = mA M f j := by
    intro f j hf
    rcases hf with hf | hf
    · rw [up2_f _ _ _ _ hf.1, up2_f _ _ _ _ hf.2]
    · rw [up2_a _ _ _ _ hf, up2_a _ _ _ _ hf]
  refine ⟨show mP M + 1 ≤ 12 by omega, h2, show mE M ≤ c + 1 by omega, fun p hp => ?_, fun p e1 e2 => ?_, fun i hi => ?_, fun k hk => ?_, fun j k hj hk e1 e2 => ?_⟩
  · have hp' : p < mP M + 1 := hp
    by_cases hpn : p = mP M
    · subst hpn
      obtain ⟨z1, z2⟩ := h5 (mP M) (Nat.le_refl _) (by omega)
      exact ⟨0, 0, 1, (A0 2 _ (Or.inl (by decide))).trans z1, by omega, (A0 3 _ (Or.inl (by decide))).trans z2, by omega, up2_s _ _ _ _, by omega, by omega, fun z => absurd rfl z, fun j hj => absurd hj (Nat.not_lt_zero _), fun j k hj => absurd hj (Nat.not_lt_zero _)⟩
    · exact pOk_congr (h4 p (by omega)) (by omega) (Nat.le_succ _) (A0 1 p (Or.inr hpn)) (A0 2 p (Or.inr hpn)) (A0 3 p (Or.inr hpn)) rfl (fun _ _ => rfl)
  · have e1' : mP M + 1 ≤ p := e1
    exact ⟨(A0 _ _ (Or.inr (by omega))).trans (h5 p (by omega) e2).1, (A0 _ _ (Or.inr (by omega))).trans (h5 p (by omega) e2).2⟩
  · exact gOk_congr (h6 i hi) (Nat.le_succ _) (Nat.le_refl _) (A0 4 i (Or.inl (by decide))) (A0 5 i (Or.inl (by decide))) (A0 6 i (Or.inl (by decide))) rfl
  · exact eOk_congr (h7 k hk) hk (Nat.le_succ _) (Nat.le_refl _) (fun j _ => A0 7 j (Or.inl (by decide))) (A0 8 k (Or.inl (by decide))) (fun _ _ => rfl)
  · have e1' : mA M 7 j = mA M 7 k := (A0 7 j (Or.inl (by decide))).symm.trans (e1.trans (A0 7 k (Or.inl (by decide))))
    exact h8 j k hj hk e1' e2
theorem MI_begin {c : Nat} {M : MS} (x y z : Int32) (h : MI c M) : MI (c + 1) (oBegin M x y z).2.2 := by
  unfold oBegin
  split
  · exact MI_up h
  split
  · exact MI_up h
  split
  · exact MI_up h
  next g1 g2 g3 =>
  have hp12 := h.1
  have g1 := Decidable.not_not.mp g1
  obtain ⟨a, ha, rfl⟩ := inR_nI g1.1 (by omega)
  obtain ⟨b, hb, rfl⟩ := inR_nI g1.2 (by omega)
  have hab : a ≠ b := fun z => g2 (Or.inl (by rw [z]))
  have s1 := MIb_slot (MI_up h) (by omega) (nI a, 0, nI b, mA M 1 (ixN (nI b)), z)
  have s2 : MIb (2 * (c + 1) + 1) (c + 1) (mBeg M (nI a) (nI b) z) := MIb_send (k := nI 0) s1 (show mM M < 800 by omega) (gOk_send (M := sT M (72 + mM M) _) (by decide) (by rw [mT_s]; exact ⟨a, b, ha, hb, hab, rfl, rfl⟩) ha (fun _ => by rw [mT_s]; rfl) (fun z => absurd z (by decide)))
  have s3 := MIb_slot s2 (show mM M + 1 < 800 by omega) (nI a, mA M 1 (ixN (nI a)), nI b, 0, z)
  exact MIb_send (k := nI 1) (M := sT (mBeg M (nI a) (nI b) z) (72 + (mM M + 1)) _) s3 (show mM M + 1 < 800 by omega) (gOk_send (M := sT (mBeg M (nI a) (nI b) z) (72 + (mM M + 1)) _) (by decide) (by rw [mT_s]; exact ⟨a, b, ha, hb, hab, rfl, rfl⟩) hb (fun z => absurd z (by decide)) (fun _ => by rw [mT_s]; rfl))
theorem MI_abort {c : Nat} {M : MS} (x : Int32) (hc : c < 512) (h : MI c M) : MI (c + 1) (oAbort M x).2.2 := by
  unfold oAbort
  split
  · exact MI_up h
  next g1 =>
  have hp12 := h.1
  obtain ⟨a, ha, rfl⟩ := inR_nI (Decidable.not_not.mp g1) (by omega)
  rw [ix_of (x := nI a) rfl (by omega)]
  exact MIb_up (MIb_end h (by omega) ha) (by omega) (by omega)
theorem MIb_read {b c : Nat} {M : MS} {p : Nat} (h : MIb b c M) (hp : p < mP M) : ∀ k, k ≤ lnN M p → mM M + lnN M p ≤ 800 → MIb b c (mRead M p k) := by
  intro k
  induction k with
  | zero => intro _ _; exact h
  | succ k ih =>
    intro hk hm
    have h' := ih (by omega) hm
    obtain ⟨e1, e2, e3, e4⟩ := mRead_M M p k
    have hp' : p < mP (mRead M p k) := by omega
    obtain ⟨s, n, v, es, hs3, en, hn5, ev, hv1, hvb, hcur, hlog, hdis⟩ := h'.2.2.2.1 p hp'
    have hln : lnN M p = n := by rw [e4 3 p (by decide)] at en; exact lnN_of en (by omega)
    obtain ⟨t1, t2, -⟩ := hlog k (by omega)
    refine MIb_send (k := nI 5) (MIb_slot6 h' (nI p)) (show mM (mRead M p k) < 800 by omega) ⟨5, mSend_4, by decide, fun z => by omega, fun _ => ?_, fun z => by omega⟩
    rw [mSend_Ts (M := sA (mRead M p k) 6 (mM (mRead M p k)) (nI p))]
    refine ⟨t1, p, hp', ?_, t2⟩
    rw [mSend_A (Or.inl (by decide))]; exact mA_s
theorem MI_readLog {c : Nat} {M : MS} (x : Int32) (h : MI c M) : MI (c + 1) (oReadLog M x).2.2 := by
  unfold oReadLog
  split
  · exact MI_up h
  next g1 =>
  have hp12 := h.1
  obtain ⟨a, ha, rfl⟩ := inR_nI (Decidable.not_not.mp g1) (by omega)
  rw [ix_of (x := nI a) rfl (by omega)]
  split
  · exact MI_up h
  split
  · exact MI_up h
  next g2 g3 => exact MIb_read (MI_up h) ha _ (Nat.le_refl _) (by omega)
theorem MI_auth {c : Nat} {M : MS} (x : Int32) (h : MI c M) : MI (c + 1) (oAuth M x).2.2 := by
  unfold oAuth
  split
  · exact MI_up h
  next g1 =>
  have hp12 := h.1
  have hm8 := h.2.1
  obtain ⟨a, ha, rfl⟩ := inR_nI (Decidable.not_not.mp g1) (by omega)
  split
  · exact MI_up h
  split
  · exact MI_up h
  next g2 g3 =>
  have s1 := MIb_slot (MI_up h) (by omega) (-1, -1, -1, -1, -1)
  have s2 := MIb_slot6 s1 (nI (mE M))
  refine MIb_send (k := nI 6) (M := sA (sT M (72 + mM M) (-1, -1, -1, -1, -1)) 6 (mM M) (nI (mE M))) s2 (show mM M < 800 by omega) ⟨6, mSend_4, by decide, fun z => by omega, fun z => by omega, fun _ => ⟨⟨a, ha, mSend_5⟩, mE M, Nat.le_refl _, ?_⟩⟩
  rw [mSend_A (M := sA (sT M (72 + mM M) (-1, -1, -1, -1, -1)) 6 (mM M) (nI (mE M))) (Or.inl (by decide))]
  exact mA_s
theorem MI_refund {c : Nat} {M : MS} (x : Int32) (hc : c < 512) (h : MI c M) : MI (c + 1) (oRefund M x).2.2 := by
  unfold oRefund
  split
  · exact MI_up h
  next g1 =>
  have he := h.2.2.1
  obtain ⟨k, hk, rfl⟩ := inR_nI (Decidable.not_not.mp g1) (by omega)
  rw [ix_of (x := nI k) rfl (by omega)]
  split
  · exact MI_up h
  next g2 =>
  have g2 := Decidable.not_not.mp g2
  refine MIb_bal ?_ _ _
  obtain ⟨h1, h2, h3, h4, h5, h6, h7, h8⟩ := MI_up h
  refine ⟨h1, h2, h3, fun p hp => pOk_congr (h4 p hp) (Nat.le_refl _) (Nat.le_refl _) (mA_f (by decide)) (mA_f (by decide)) (mA_f (by decide)) rfl (fun _ _ => rfl), fun p e1 e2 => ?_, fun i hi => gOk_congr (h6 i hi) (Nat.le_refl _) (Nat.le_refl _) (mA_f (by decide)) (mA_f (by decide)) (mA_f (by decide)) rfl, fun j hj => ?_, fun i j hi hj e1 e2 => ?_⟩
  · rw [mA_f (by decide), mA_f (by decide)]; exact h5 p e1 e2
  · by_cases hjk : j = k
    · subst hjk
      obtain ⟨e1, ⟨te, e2, e3, e4⟩, -⟩ := h7 j hj
      exact ⟨e1, ⟨te, e2, (mA_f (by decide)).trans e3, e4⟩, fun _ => ⟨kpt_mono g2.1.1 (Nat.le_refl _) (fun i _ => mA_f (by decide)) (fun _ _ => rfl) rfl, kpt_mono g2.1.2 (Nat.le_refl _) (fun i _ => mA_f (by decide)) (fun _ _ => rfl) rfl⟩⟩
    · exact eOk_congr (h7 j hj) hj (Nat.le_refl _) (Nat.le_refl _) (fun i _ => mA_f (by decide)) (mA_a hjk) (fun _ _ => rfl)
  · rw [mA_f (by decide), mA_f (by decide)] at e1
    exact h8 i j hi hj e1 e2
theorem MI_rec {c i : Nat} {M : MS} (h : MI c M) (hi : i < mM M) (h5 : mA M 4 i = 5) (hk : kpt M (mA M 6 i) (72 + i) (mE M) = false) : MI (c + 1) (mRec M i) := by
  obtain ⟨h1, h2, h3, h4, h50, h6, h7, h8⟩ := h
  obtain ⟨kd, k1, k2, -, k3, -⟩ := h6 i hi
  have : kd = 5 := (nI_eq (b := 5) (by omega) (by decide)).mp (k1.symm.trans h5)
  subst this
  obtain ⟨t1, te, t2, t3, t4⟩ := k3 rfl
  have A0 : ∀ f j, (f ≠ 7 ∧ f ≠ 8 ∨ j ≠ mE M) → mA (mRec M i) f j = mA M f j := by
    intro f j hf
    show up2 (up2 (mA M) 7 (mE M) (mA M 6 i)) 8 (mE M) 0 f j = _
    rcases hf with hf | hf
    · rw [up2_f _ _ _ _ hf.2, up2_f _ _ _ _ hf.1]
    · rw [up2_a _ _ _ _ hf, up2_a _ _ _ _ hf]
  have A7 : mA (mRec M i) 7 (mE M) = mA M 6 i := by
    show up2 (up2 (mA M) 7 (mE M) (mA M 6 i)) 8 (mE M) 0 7 (mE M) = _
    rw [up2_f _ _ _ _ (by decide), up2_s]
  have T0 : ∀ q, q ≠ 872 + mE M → mT (mRec M i) q = mT M q := fun q hq => va_up_ne _ _ hq
  have T1 : mT (mRec M i) (872 + mE M) = mT M (72 + i) := va_up_self _ _ _
  have new : ∀ j, j < mE M → mA M 7 j = mA M 6 i → mT M (872 + j) = mT M (72 + i) → False := fun j hj e1 e2 => by
    rw [kpt_iff.mpr ⟨j, hj, e1, e2⟩] at hk; exact nomatch hk
  refine ⟨h1, h2, show mE M + 1 ≤ c + 1 by omega, fun p hp => ?_, fun p e1 e2 => ?_, fun j hj => ?_, fun k hk => ?_, fun j k hj hk e1 e2 => ?_⟩
  · have hp' : p < mP M := hp
    exact pOk_congr (h4 p hp) (by omega) (Nat.le_refl _) (A0 _ _ (Or.inl (by decide))) (A0 _ _ (Or.inl (by decide))) (A0 _ _ (Or.inl (by decide))) (T0 _ (by omega)) (fun j hj => T0 _ (by omega))
  · rw [A0 _ _ (Or.inl (by decide)), A0 _ _ (Or.inl (by decide))]; exact h50 p e1 e2
  · have hj' : j < mM M := hj
    exact gOk_congr (h6 j hj) (Nat.le_refl _) (Nat.le_succ _) (A0 _ _ (Or.inl (by decide))) (A0 _ _ (Or.inl (by decide))) (A0 _ _ (Or.inl (by decide))) (T0 _ (by omega))
  · have hk' : k < mE M + 1 := hk
    by_cases hke : k = mE M
    · subst hke
      refine ⟨by rw [T1]; exact t1, ⟨te, t2, A7.trans t3, by rw [T1]; exact t4⟩, fun z => absurd (up2_s _ _ _ _) z⟩
    · exact eOk_congr (h7 k (by omega)) (by omega) (Nat.le_refl _) (Nat.le_succ _) (fun j hj => A0 _ _ (Or.inr (by omega))) (A0 _ _ (Or.inr hke)) (fun j hj => T0 _ (by omega))
  · have hj' : j < mE M + 1 := hj
    have hk' : k < mE M + 1 := hk
    by_cases hje : j = mE M
    · by_cases hke : k = mE M
      · omega
      · subst hje
        rw [A7, A0 _ _ (Or.inr hke)] at e1
        rw [T1, T0 _ (by omega)] at e2
        exact (new k (by omega) e1.symm e2.symm).elim
    · by_cases hke : k = mE M
      · subst hke
        rw [A7, A0 _ _ (Or.inr hje)] at e1
        rw [T1, T0 _ (by omega)] at e2
        exact (new j (by omega) e1 e2).elim
      · rw [A0 _ _ (Or.inr hje), A0 _ _ (Or.inr hke)] at e1
        rw [T0 _ (by omega), T0 _ (by omega)] at e2
        exact h8 j k (by omega) (by omega) e1 e2
theorem mTakes_false {M : MS} {p q : Nat} {d : Bool} (h : ¬ (mA (mEnd M p) 3 p = 5 ∨ (d = true ∧ mA (mEnd M p) 0 p < part 4 (mT (mEnd M p) q)))) : mTakes M p q d = (if d then mGo (mEnd M p) p q d else mSend (mGo (mEnd M p) p q d) 2 (part 0 (mT (mGo (mEnd M p) p q d) p)) p, true) := if_neg h
theorem MI_takes {c i p : Nat} {M : MS} {d : Bool} (hc : c < 512) (h : MI c M) (hi : i < mM M) (hp : p < mP M) (ht : tOk (mP M) (mT M (72 + i))) (hd : if d then part 0 (mT M (72 + i)) = nI p else part 2 (mT M (72 + i)) = nI p) (hm : d = false → mM M < 800) : MI (c + 1) (mTakes M p (72 + i) d).1 := by
  have e1 := MIb_end h (by omega) hp
  have hp12 := h.1
  have hln := MI_ln h hp
  obtain ⟨q1, q2, q3⟩ := mEnd_M (M := M) (p := p)
  have hT : mT (mEnd M p) (72 + i) = mT M (72 + i) := by
    by_cases h0 : mA M 2 p = 0
    · rw [mEnd_0 h0]
    · refine mEnd_T ?_ (by omega)
      obtain ⟨s, n, v, es, hs3, en, hn5, ev, hv1, hvb, hcur, -⟩ := h.2.2.2.1 p hp
      have := (hcur (fun z => h0 (by rw [es, z]; rfl))).1
      rw [lnN_of en (by omega)]; exact this
  by_cases hno : mA (mEnd M p) 3 p = 5 ∨ (d = true ∧ mA (mEnd M p) 0 p < part 4 (mT (mEnd M p) (72 + i)))
  · rw [mTakes_no hno]; exact MIb_up e1 (by omega) (by omega)
  · rw [mTakes_false hno]
    obtain ⟨e2, t2⟩ := MIb_go (q := 72 + i) (d := d) e1 (by omega) (by omega) mEnd_2 (fun z => hno (Or.inl z)) (by rw [hT, q2]; exact ht) (by rw [hT]; exact hd)
    have e3 := MIb_up (b' := 2 * (c + 1) + 1) (c' := c + 1) e2 (by omega) (by omega)
    cases d
    · obtain ⟨a, a2, k1, k2, k3, k4, k5⟩ := t2
      show MI (c + 1) (mSend (mGo (mEnd M p) p (72 + i) false) 2 (part 0 (mT (mGo (mEnd M p) p (72 + i) false) p)) p)
      rw [k4]
      exact MIb_send (k := nI 2) e3 (show mM (mEnd M p) < 800 by have := hm rfl; omega) (gOk_send (M := mGo (mEnd M p) p (72 + i) false) (by decide) ⟨a, a2, k1, k2, k3, k4, k5⟩ k1 (fun z => absurd z (by decide)) (fun z => absurd z (by decide)))
    · exact e3
theorem wts_iff {M : MS} {p q : Nat} {x : Int32} : wts M p x q = true ↔ mA M 2 p = x ∧ mT M p = mT M q := by unfold wts; exact decide_eq_true_iff
theorem MI_deliver {c : Nat} {M : MS} (x : Int32) (hc : c < 512) (h : MI c M) : MI (c + 1) (oDeliver M x).2.2 := by
  unfold oDeliver
  split
  · exact MI_up h
  next g1 =>
  have hp12 := h.1
  have hm8 := h.2.1
  obtain ⟨i, hi, rfl⟩ := inR_nI (Decidable.not_not.mp g1) (by omega)
  rw [ix_of (x := nI i) rfl (by omega)]
  split
  · exact MI_up h
  next g2 =>
  obtain ⟨kd, hk, hk6, h5, hr, hcl⟩ := h.2.2.2.2.2.1 i hi
  show MI (c + 1) (mDel M i).1
  rcases (show kd = 0 ∨ kd = 1 ∨ kd = 2 ∨ kd = 3 ∨ kd = 4 ∨ kd = 5 ∨ kd = 6 by omega) with rfl | rfl | rfl | rfl | rfl | rfl | rfl
  · obtain ⟨ht, p, hp, hto, z0, z1⟩ := h5 (by decide)
    rw [mDel_0 hk (ix_of hto (by omega))]
    exact MI_takes hc h hi hp ht (z0 rfl) (fun z => nomatch z)
  · obtain ⟨ht, p, hp, hto, z0, z1⟩ := h5 (by decide)
    rw [mDel_1 hk (ix_of hto (by omega))]
    exact MI_takes (d := false) hc h hi hp ht (z1 rfl) (fun _ => Nat.lt_of_le_of_ne hm8 (fun z => g2 ⟨answers_1 hk, z⟩))
  · obtain ⟨ht, p, hp, hto, -⟩ := h5 (by decide)
    rw [mDel_2 hk (ix_of hto (by omega))]
    by_cases hw : wts M p 1 (72 + i) = true
    · simp only [hw, if_true]
      have hm : mM M < 800 := Nat.lt_of_le_of_ne hm8 (fun z => g2 ⟨(answers_2 hk (ix_of hto (by omega))).trans hw, z⟩)
      obtain ⟨a, b, ha, hb, hab, ea, eb⟩ := ht
      unfold mAsk
      rw [eb]
      exact MIb_send (k := nI 3) (MIb_state (s := 1) (s' := 3) (MIb_bal (MI_up h) p _) hp ((mA_f (by decide)).trans (wts_iff.mp hw).1) (by decide) (by decide) (Or.inr ⟨rfl, rfl⟩)) hm (gOk_send (by decide) ⟨a, b, ha, hb, hab, ea, eb⟩ hb (fun z => absurd z (by decide)) (fun z => absurd z (by decide)))
    · simp only [hw]; exact MI_up h
  · obtain ⟨ht, p, hp, hto, -⟩ := h5 (by decide)
    rw [mDel_3 hk (ix_of hto (by omega))]
    by_cases hw : wts M p 2 (72 + i) = true
    · simp only [hw, if_true]
      have hm : mM M < 800 := Nat.lt_of_le_of_ne hm8 (fun z => g2 ⟨(answers_3 hk (ix_of hto (by omega))).trans hw, z⟩)
      obtain ⟨a, b, ha, hb, hab, ea, eb⟩ := ht
      unfold mVal
      rw [ea]
      exact MIb_send (k := nI 4) (MIb_state (s := 2) (s' := 0) (MIb_bal (MI_up h) p _) hp ((mA_f (by decide)).trans (wts_iff.mp hw).1) (by decide) (by decide) (Or.inl rfl)) hm (gOk_send (by decide) ⟨a, b, ha, hb, hab, ea, eb⟩ ha (fun z => absurd z (by decide)) (fun z => absurd z (by decide)))
    · simp only [hw]; exact MI_up h
  · obtain ⟨ht, p, hp, hto, -⟩ := h5 (by decide)
    rw [mDel_4 hk (ix_of hto (by omega))]
    by_cases hw : wts M p 3 (72 + i) = true
    · simp only [hw, if_true]
      exact MIb_state (s := 3) (s' := 0) (MIb_bal (MI_up h) p _) hp ((mA_f (by decide)).trans (wts_iff.mp hw).1) (by decide) (by decide) (Or.inl rfl)
    · simp only [hw]; exact MI_up h
  · rw [mDel_5 hk]
    by_cases hw : kpt M (mA M 6 i) (72 + i) (mE M) = true
    · simp only [hw, if_true]; exact MI_up h
    · simp only [hw]; exact MI_rec h hi hk (by simpa using hw)
  · obtain ⟨⟨p, hp, hto⟩, k, hkk, hof⟩ := hcl rfl
    have := h.2.2.1
    rw [mDel_6 hk (ix_of hto (by omega)) (ix_of hof (by omega))]
    by_cases hw : clr M p k (lnN M p) = true
    · simp only [hw, if_true]
      refine MIb_clr (MI_up h) hp ?_
      unfold clr at hw
      rw [Bool.and_eq_true, decide_eq_true_iff] at hw
      exact hw.1.1
    · simp only [hw]; exact MI_up h
theorem MI_0 : MI 0 M0 := ⟨Nat.zero_le _, Nat.zero_le _, Nat.zero_le _, fun p hp => absurd hp (Nat.not_lt_zero _), fun p _ _ => ⟨rfl, rfl⟩, fun p hp => absurd hp (Nat.not_lt_zero _), fun p hp => absurd hp (Nat.not_lt_zero _), fun p k hp => absurd hp (Nat.not_lt_zero _)⟩
end MISTAYS
