/-! THE ARCHIVE AGAINST THE MODEL. -/
section REP3
variable {G : Nat → Nat} {S S' : PS} {x n0 ar : Nat} {L : Nat → Nat} {C C' : Nat → List Nat} {M M' : MS} {b c : Nat}
theorem any_list {xs : List Nat} {P Q : Nat → Bool} (h : ∀ j y, xs[j]? = some y → P y = Q j) : xs.any P = (List.range xs.length).any Q := by
  apply Bool.eq_iff_iff.mpr
  simp only [List.any_eq_true, List.mem_range]
  constructor
  · rintro ⟨y, hy, hP⟩
    obtain ⟨j, hj⟩ := List.getElem?_of_mem hy
    exact ⟨j, (List.getElem?_eq_some_iff.mp hj).1, (h j y hj).symm.trans hP⟩
  · rintro ⟨j, hj, hQ⟩
    exact ⟨xs[j], List.getElem_mem hj, (h j _ (List.getElem?_eq_getElem hj)).trans hQ⟩
theorem RC_en (h : RC G S x n0 ar L C M) : ∀ y ∈ C 2, enK S y := by
  intro y hy
  obtain ⟨j, hj⟩ := List.getElem?_of_mem hy
  obtain ⟨e1, e2, ⟨t, e4, e5, e6⟩, e7⟩ := h.2.2.2.2.2.2.2 j y hj
  exact ⟨e1, t, e4, e5⟩
theorem RC_enT (h : RC G S x n0 ar L C M) {j y : Nat} (hj : (C 2)[j]? = some y) : enT S y = mT M (872 + j) := by
  obtain ⟨e1, e2, ⟨t, e4, e5, e6⟩, e7⟩ := h.2.2.2.2.2.2.2 j y hj
  rw [enT_of e4]; exact e6
theorem kpt_take (h : RC G S x n0 ar L C M) {k q t : Nat} {v : Int32} (hk : k ≤ mE M) (ht : tr S t = mT M q) : ((C 2).take k).any (fun y => decide (pI S 0 y = v ∧ enT S y = tr S t)) = kpt M v q k := by
  have hl : ((C 2).take k).length = k := by rw [List.length_take, h.2.2.2.2.1.2.2]; omega
  have := any_list (xs := (C 2).take k) (P := fun y => decide (pI S 0 y = v ∧ enT S y = tr S t)) (Q := fun j => decide (mA M 7 j = v ∧ mT M (872 + j) = mT M q)) (fun j y hj => by
    have hj2 := (take_get hj).2
    rw [RC_enT h hj2, (h.2.2.2.2.2.2.2 j y hj2).2.1, ht])
  rw [this, hl]; rfl
theorem kpt_all (h : RC G S x n0 ar L C M) {q t : Nat} {v : Int32} (ht : tr S t = mT M q) : (C 2).any (fun y => decide (pI S 0 y = v ∧ enT S y = tr S t)) = kpt M v q (mE M) := by
  have := kpt_take (v := v) (k := mE M) h (Nat.le_refl _) ht
  rwa [← h.2.2.2.2.1.2.2, List.take_length, h.2.2.2.2.1.2.2] at this
theorem any_tell (h : RC G S x n0 ar L C M) {v : Int32} : (C 2).any (fun y => decide (pI S 0 y = v)) = (List.range (mE M)).any (fun j => decide (mA M 7 j = v)) := by
  rw [← h.2.2.2.2.1.2.2]
  exact any_list (fun j y hj => by rw [(h.2.2.2.2.2.2.2 j y hj).2.1])
theorem rfd_iff {q : Nat} : rfd M q = true ↔ ∃ j, j < mE M ∧ ¬ mA M 8 j = 0 ∧ mT M (872 + j) = mT M q := by
  unfold rfd
  simp only [List.any_eq_true, List.mem_range, decide_eq_true_eq]
theorem rfd_T {q r : Nat} (hT : mT M q = mT M r) : rfd M q = rfd M r := by unfold rfd; rw [hT]
theorem rfd_all (h : RC G S x n0 ar L C M) {q t : Nat} (ht : tr S t = mT M q) : (C 2).any (fun y => decide (¬ pI S 1 y = 0 ∧ enT S y = tr S t)) = rfd M q := by
  apply Bool.eq_iff_iff.mpr
  rw [rfd_iff]
  simp only [List.any_eq_true, decide_eq_true_eq]
  constructor
  · rintro ⟨y, hy, h1, h2⟩
    obtain ⟨j, hj⟩ := List.getElem?_of_mem hy
    have e := (h.2.2.2.2.2.2.2 j y hj).2.2.2
    rw [e] at h1
    rw [RC_enT h hj, ht] at h2
    obtain ⟨i, g1, g2, g3⟩ := rfd_iff.mp (bI_tt h1)
    exact ⟨i, g1, g2, g3.trans h2⟩
  · rintro ⟨j, h1, h2, h3⟩
    obtain ⟨y, hy⟩ := RC_eat h h1
    have e := (h.2.2.2.2.2.2.2 j y hy).2.2.2
    refine ⟨y, List.mem_of_getElem? hy, ?_, by rw [RC_enT h hy, ht]; exact h3⟩
    rw [e, rfd_iff.mpr ⟨j, h1, h2, rfl⟩]; decide
/-- the state in which an entry is made -/
abbrev mkEn (S : PS) (q : Nat) (v : Int32) (t : Nat) : PS := sO (sI (sN S q 1 0) 0 q v) 1 q (some t)
theorem mkEn_old {q t d f : Nat} {v : Int32} (hd : d ≠ q) : pI (mkEn S q v t) f d = pI S f d ∧ pO (mkEn S q v t) f d = pO S f d := ⟨(pI_a (S := sN S q 1 0) hd).trans (upA_a _ _ _ hd), (pO_a (S := sI (sN S q 1 0) 0 q v) hd).trans (upA_a _ _ _ hd)⟩
theorem RC_rec (h : RC G S x n0 ar L C M) (hI : MIb b c M) {i q t : Nat} (hi : i < mM M) (h5 : mA M 4 i = 5) (hk : kpt M (mA M 6 i) (72 + i) (mE M) = false) (hq : q ∉ pL S) (ht : isK S 4 t) (htr : tr S t = mT M (72 + i)) (hAd : Added G (mkEn S q (mA M 6 i) t) S' (L 2) (C 2) q) (hG : G 0 ∉ pL S') :
    RC G S' x n0 ar L (va_up C 2 (C 2 ++ [q])) (mRec M i) ∧ KF S S' := by
  have hc := h
  obtain ⟨⟨x1, x2, x9, x4', x5⟩, ⟨y1, y2⟩, ⟨z1, z2⟩, hl, ⟨l1, l2, l3⟩, r1, r2, r3⟩ := h
  have hp12 := hI.1
  have hm8 := hI.2.1
  have hG1 : G 0 ∉ pL (mkEn S q (mA M 6 i) t) := fun z => hG (hAd.2.1 _ z).1
  have hL : LsR G (mkEn S q (mA M 6 i) t) (mP M + 3) L C := LS_sO (LS_sI (LS_new hl hq) (by decide)) (by decide)
  have hF1 : KF S (mkEn S q (mA M 6 i) t) := KF_sO (KF_sI (KF_new hq) (Or.inl hq)) (Or.inl hq)
  have hF2 := KF_Fr hAd.2 (hL.1 2 (by omega)).1
  have hF := KF_trans hF1 hF2
  have I : ∀ f d, isK S 1 d ∨ isK S 3 d → pI S' f d = pI S f d ∧ pO S' f d = pO S f d := by
    intro f d hd
    have hm1 : ∃ kk, (kk = 1 ∨ kk = 3) ∧ isK S kk d := by rcases hd with hd | hd; exact ⟨1, Or.inl rfl, hd⟩; exact ⟨3, Or.inr rfl, hd⟩
    obtain ⟨kk, hk0, hd⟩ := hm1
    have hdq := isK_ne hd hq
    have hdl : d ≠ L 2 := isK_neK hd (hl.1 2 (by omega)).1 (by omega)
    obtain ⟨g1, g2⟩ := (hAd.2.1 d (List.mem_append_left _ hd.1)).2.2.2.2.1 hdl
    exact ⟨(g1 f).trans (mkEn_old hdq).1, (g2 f).trans (mkEn_old hdq).2⟩
  have O5 : ∀ f, pO S' f x = pO S f x := fun f => KF_O hF x1 (by decide) (by decide) (by decide)
  have A0 : ∀ f j, (f ≠ 7 ∧ f ≠ 8 ∨ j ≠ mE M) → mA (mRec M i) f j = mA M f j := by
    intro f j hf
    show up2 (up2 (mA M) 7 (mE M) (mA M 6 i)) 8 (mE M) 0 f j = _
    rcases hf with hf | hf
    · rw [up2_f _ _ _ _ hf.2, up2_f _ _ _ _ hf.1]
    · rw [up2_a _ _ _ _ hf, up2_a _ _ _ _ hf]
  have A7 : mA (mRec M i) 7 (mE M) = mA M 6 i := by
    show up2 (up2 (mA M) 7 (mE M) (mA M 6 i)) 8 (mE M) 0 7 (mE M) = _
    rw [up2_f _ _ _ _ (by decide), up2_s]
  have A8 : mA (mRec M i) 8 (mE M) = 0 := up2_s _ _ _ _
  have T0 : ∀ r, r ≠ 872 + mE M → mT (mRec M i) r = mT M r := fun r hr => va_up_ne _ _ hr
  have T1 : mT (mRec M i) (872 + mE M) = mT M (72 + i) := va_up_self _ _ _
  have RF1 : ∀ r s, mT (mRec M i) r = mT M s → rfd (mRec M i) r = rfd M s := by
    intro r s hrs
    apply Bool.eq_iff_iff.mpr
    rw [rfd_iff, rfd_iff]
    constructor
    · rintro ⟨j, g1, g2, g3⟩
      have g1' : j < mE M + 1 := g1
      by_cases hje : j = mE M
      · subst hje; exact absurd A8 g2
      · rw [A0 _ _ (Or.inr hje)] at g2
        rw [T0 _ (by omega), hrs] at g3
        exact ⟨j, by omega, g2, g3⟩
    · rintro ⟨j, g1, g2, g3⟩
      refine ⟨j, show j < mE M + 1 by omega, ?_, ?_⟩
      · rw [A0 _ _ (Or.inr (by omega))]; exact g2
      · rw [T0 _ (by omega), hrs]; exact g3
  have new : rfd M (72 + i) = false := by
    apply Bool.eq_false_iff.mpr
    intro z
    obtain ⟨j, g1, g2, g3⟩ := rfd_iff.mp z
    obtain ⟨kd, k1, k2, -, k3, -⟩ := hI.2.2.2.2.2.1 i hi
    have : kd = 5 := (nI_eq (b := 5) (by omega) (by decide)).mp (k1.symm.trans h5)
    subst this
    obtain ⟨t1, te, t2, t3, t4⟩ := k3 rfl
    obtain ⟨w1, w2⟩ := (hI.2.2.2.2.2.2.1 j g1).2.2 g2
    rw [t3] at hk
    have kk : ∀ v, kpt M v (872 + j) (mE M) = true → v = nI te → False := by
      intro v hv e
      subst e
      rw [kpt_mono (q' := 72 + i) hv (Nat.le_refl _) (fun _ _ => rfl) (fun _ _ => rfl) g3.symm] at hk
      exact nomatch hk
    rw [g3] at w1 w2
    rcases t4 with t4 | t4
    · exact kk _ w1 t4
    · exact kk _ w2 t4
  have e0 : va_up C 2 (C 2 ++ [q]) 0 = C 0 := va_up_ne _ _ (by decide)
  have e1 : va_up C 2 (C 2 ++ [q]) 1 = C 1 := va_up_ne _ _ (by decide)
  have e2 : va_up C 2 (C 2 ++ [q]) 2 = C 2 ++ [q] := va_up_self _ _ _
  have e3 : ∀ i, va_up C 2 (C 2 ++ [q]) (i + 3) = C (i + 3) := fun i => va_up_ne _ _ (by omega)
  refine ⟨⟨⟨KF_K hF x1, (O5 6).trans x2, (O5 7).trans x9, (O5 8).trans x4', (O5 9).trans x5⟩, ⟨KF_K hF y1, (KF_tr hF y1).trans y2⟩, ⟨KF_K hF z1, (KF_O hF z1 (by decide) (by decide) (by decide)).trans z2⟩, LS_chg hL (show 2 < mP M + 3 by omega) hAd.1 hAd.2 hG1, ?_, fun j d hj => ?_, fun j d hj => ?_, fun k' d hk' => ?_⟩, hF⟩
  · rw [e0, e1, e2]; exact ⟨l1, l2, by simp [l3]; rfl⟩
  · rw [e0] at hj
    rw [e3]
    obtain ⟨n1, n2, n3⟩ := RC_len hc hI hj
    have hr := r1 j d hj
    exact PuR_congr hr hF (fun f => (I f d (Or.inr hr.1)).1) (fun f => (I f d (Or.inr hr.1)).2) (fun f hf => A0 _ _ (Or.inl (by omega))) (T0 j (by omega)) (fun k hk => T0 _ (by omega))
  · rw [e1] at hj
    have := (List.getElem?_eq_some_iff.mp hj).1
    exact MsR_congr (r2 j d hj) hF (A0 _ _ (Or.inl (by decide))) (A0 _ _ (Or.inl (by decide))) (A0 _ _ (Or.inl (by decide))) (T0 _ (by omega))
  · rw [e2] at hk'
    have hlen := (List.getElem?_eq_some_iff.mp hk').1
    rw [get_app hlen] at hk'
    by_cases hil : k' < (C 2).length
    · rw [if_pos hil] at hk'
      have hr := r3 k' d hk'
      exact EnR_congr hr hF (fun f => (I f d (Or.inl hr.1)).1) (fun f => (I f d (Or.inl hr.1)).2) (A0 _ _ (Or.inr (by omega))) (T0 _ (by omega)) (RF1 _ _ (T0 _ (by omega)))
    · rw [if_neg hil] at hk'
      cases Option.some.inj hk'
      have hie : k' = mE M := by simp at hlen; omega
      subst hie
      have hqm : q ∈ pL (mkEn S q (mA M 6 i) t) := List.mem_append_right _ (List.mem_singleton.mpr rfl)
      have hqk : isK (mkEn S q (mA M 6 i) t) 1 q := isK_new (S := S) (k := 1) (n := 0)
      have hql : q ≠ L 2 := isK_neK hqk (hL.1 2 (by omega)).1 (by decide)
      obtain ⟨g1, g2⟩ := (hAd.2.1 q hqm).2.2.2.2.1 hql
      refine ⟨Fr_K hAd.2 hqk, ?_, ⟨t, ?_, KF_K hF ht, ?_⟩, ?_⟩
      · rw [g1, A7]; exact pI_s (S := sN S q 1 0)
      · rw [g2]; exact pO_s (S := sI (sN S q 1 0) 0 q (mA M 6 i))
      · rw [KF_tr hF ht, T1]; exact htr
      · rw [RF1 _ (72 + i) T1, new, g1]
        exact (pI_f (S := sN S q 1 0) (f := 0) (g := 1) (a := q) (v := mA M 6 i) (by decide)).trans (upA_s _ _ _ _)
/-- the entries of a transfer are marked -/
theorem RC_mark (h : RC G S x n0 ar L C M) {k : Nat} (hk : k < mE M) : RC G (mark S (C 2) (mT M (872 + k)) (C 2).length) x n0 ar L C (sA M 8 k 1) ∧ KF S (mark S (C 2) (mT M (872 + k)) (C 2).length) := by
  have hen := RC_en h
  have hc := h
  obtain ⟨x1, y1, z1, hl, ls, r1, r2, r3⟩ := h
  have I : ∀ f d, ¬ isK S 1 d → pI (mark S (C 2) (mT M (872 + k)) (C 2).length) f d = pI S f d := by
    intro f d hd
    show (if f = 1 ∧ d ∈ (C 2).take (C 2).length ∧ enT S d = mT M (872 + k) then (1 : Int32) else pI S f d) = _
    rw [if_neg]
    rintro ⟨-, h2, -⟩
    rw [List.take_length] at h2
    exact hd (hen d h2).1
  have hF : KF S (mark S (C 2) (mT M (872 + k)) (C 2).length) := fun d hd => ⟨hd, rfl, rfl, rfl, fun h1 _ _ => ⟨fun f => I f d (fun z => h1 z.2), fun _ => rfl⟩⟩
  refine ⟨⟨x1, ⟨y1.1, mark_tr.trans y1.2⟩, z1, ?_, ls, fun i d hi => ?_, fun i d hi => MsR_congr (r2 i d hi) hF (mA_f (by decide)) (mA_f (by decide)) (mA_f (by decide)) rfl, fun j d hj => ?_⟩, hF⟩
  · exact ⟨fun i hi => ⟨(hl.1 i hi).1, (mark_I (by decide)).trans (hl.1 i hi).2.1, (hl.1 i hi).2.2⟩, hl.2⟩
  · have hr := r1 i d hi
    exact PuR_congr hr hF (fun f => I f d (fun z => by have := z.2; have := hr.1.2; omega)) (fun _ => rfl) (fun f hf => mA_f (by omega)) rfl (fun _ _ => rfl)
  · obtain ⟨e1, e2, ⟨t, e4, e5, e6⟩, e7⟩ := r3 j d hj
    refine ⟨e1, ?_, ⟨t, e4, e5, mark_tr.trans e6⟩, ?_⟩
    · rw [mark_I (by decide), mA_f (by decide)]; exact e2
    · have hd : d ∈ (C 2).take (C 2).length := by rw [List.take_length]; exact List.mem_of_getElem? hj
      have hT := RC_enT hc hj
      show (if 1 = 1 ∧ d ∈ (C 2).take (C 2).length ∧ enT S d = mT M (872 + k) then (1 : Int32) else pI S 1 d) = _
      by_cases hs : mT M (872 + j) = mT M (872 + k)
      · rw [if_pos ⟨rfl, hd, hT.trans hs⟩, rfd_iff (M := sA M 8 k 1) |>.mpr ⟨k, hk, by rw [mA_s]; decide, hs.symm⟩]; rfl
      · rw [if_neg (fun z => hs (hT.symm.trans z.2.2)), e7]
        congr 1
        apply Bool.eq_iff_iff.mpr
        rw [rfd_iff, rfd_iff]
        constructor
        · rintro ⟨i, g1, g2, g3⟩
          have hik : i ≠ k := fun z => hs (by rw [← z]; exact g3.symm)
          exact ⟨i, g1, by rw [mA_a hik]; exact g2, g3⟩
        · rintro ⟨i, g1, g2, g3⟩
          have hik : i ≠ k := fun z => hs (by rw [← z]; exact g3.symm)
          rw [mA_a hik] at g2
          exact ⟨i, g1, g2, g3⟩
/-- a purse's balance alone -/
theorem RC_bal (h : RC G S x n0 ar L C M) (hI : MIb b c M) {p a : Nat} {v : Int32} (hp : (C 0)[p]? = some a) : RC G (sI S 7 a v) x n0 ar L C (sA M 0 p v) ∧ KF S (sI S 7 a v) := by
  obtain ⟨h1, h2, h3, h4, h5, h6, h7, h8, ⟨cu, q1, q2, q3, q4⟩, h9⟩ := h.2.2.2.2.2.1 p a hp
  have hF : KF S (sI S 7 a v) := KF_sI (KF_refl S) (Or.inr (Or.inr (Or.inl h1.2)))
  have hA2 : mA (sA M 0 p v) 2 p = mA M 2 p := mA_f (by decide)
  refine ⟨RC_pur h hI hp hF (LS_sI h.2.2.2.1 (by decide)) (fun _ _ => rfl) (fun d _ _ hd => ⟨fun f => pI_a hd, fun f => rfl⟩) rfl rfl rfl (fun f j hj => ?_) (fun _ _ _ => rfl) ⟨h1, (pI_f (S := S) (f := 7) (g := 6) (a := a) (v := v) (by decide)).trans h2, h3, h4, pI_s.trans mA_s.symm, (pI_f (S := S) (f := 7) (g := 8) (a := a) (v := v) (by decide)).trans (h6.trans (mA_f (by decide)).symm), (pI_f (S := S) (f := 7) (g := 9) (a := a) (v := v) (by decide)).trans (h7.trans hA2.symm), (mA_f (by decide)).trans h8, ⟨cu, q1, q2, by rw [hA2]; exact q3, by rw [hA2, KF_tr hF q2]; exact q4⟩, fun j t hj => ⟨(h9 j t hj).1, (KF_tr hF (h9 j t hj).1).trans (h9 j t hj).2⟩⟩, hF⟩
  by_cases hjp : j = p
  · exact mA_f (fun z => hj (Or.inl z) hjp)
  · exact mA_a hjp
end REP3
