/-! THE CLASS'S OBJECTS AGAINST THE MODEL: what its methods change. -/
section REP2
variable {G : Nat → Nat} {S S' : PS} {x n0 ar : Nat} {L : Nat → Nat} {C C' : Nat → List Nat} {M M' : MS} {b c : Nat}
/-- nothing of the class's has changed -/
theorem RC_same (h : RC G S x n0 ar L C M) (hF : KF S S') (hL : LsR G S' (mP M + 3) L C) (h3 : ∀ d, d ∈ pL S → pK S d = 3 ∨ pK S d = 1 → (∀ f, pI S' f d = pI S f d) ∧ (∀ f, pO S' f d = pO S f d)) : RC G S' x n0 ar L C M := by
  obtain ⟨⟨x1, x2, x3, x4, x5⟩, ⟨y1, y2⟩, ⟨z1, z2⟩, hl, ls, r1, r2, r3⟩ := h
  have O5 : ∀ f, pO S' f x = pO S f x := fun f => KF_O hF x1 (by decide) (by decide) (by decide)
  refine ⟨⟨KF_K hF x1, (O5 6).trans x2, (O5 7).trans x3, (O5 8).trans x4, (O5 9).trans x5⟩, ⟨KF_K hF y1, (KF_tr hF y1).trans y2⟩, ⟨KF_K hF z1, (KF_O hF z1 (by decide) (by decide) (by decide)).trans z2⟩, hL, ls, fun i d hi => ?_, fun i d hi => MsR_congr (r2 i d hi) hF rfl rfl rfl rfl, fun k d hk => ?_⟩
  · have hr := r1 i d hi
    obtain ⟨k1, k2⟩ := h3 d hr.1.1 (Or.inl hr.1.2)
    exact PuR_congr hr hF k1 k2 (fun _ _ => rfl) rfl (fun _ _ => rfl)
  · have hr := r3 k d hk
    obtain ⟨k1, k2⟩ := h3 d hr.1.1 (Or.inr hr.1.2)
    exact EnR_congr hr hF k1 k2 rfl rfl rfl
/-- a new transfer -/
abbrev mkTr (S : PS) (q : Nat) (t : T5) : PS := sI (sI (sI (sI (sI (sN S q 4 0) 10 q t.1) 11 q t.2.1) 12 q t.2.2.1) 13 q t.2.2.2.1) 14 q t.2.2.2.2
theorem mkTr_tr {q : Nat} {t : T5} : tr (mkTr S q t) q = t := by
  unfold tr
  rw [pI_f (by decide), pI_f (by decide), pI_f (by decide), pI_f (by decide), pI_s, pI_f (by decide), pI_f (by decide), pI_f (by decide), pI_s, pI_f (by decide), pI_f (by decide), pI_s, pI_f (by decide), pI_s, pI_s]
theorem mkTr_old {q d f : Nat} {t : T5} (hd : d ≠ q) : pI (mkTr S q t) f d = pI S f d ∧ pO (mkTr S q t) f d = pO S f d := by
  refine ⟨?_, upA_a _ _ _ hd⟩
  rw [pI_a hd, pI_a hd, pI_a hd, pI_a hd, pI_a hd]; exact upA_a _ _ _ hd
theorem KF_mkTr {q : Nat} {t : T5} (hq : q ∉ pL S) : KF S (mkTr S q t) := KF_sI (KF_sI (KF_sI (KF_sI (KF_sI (KF_new hq) (Or.inl hq)) (Or.inl hq)) (Or.inl hq)) (Or.inl hq)) (Or.inl hq)
theorem mkTr_K {q : Nat} {t : T5} : isK (mkTr S q t) 4 q := isK_new (S := S) (k := 4) (n := 0)
theorem RC_mkTr {q : Nat} {t : T5} (h : RC G S x n0 ar L C M) (hq : q ∉ pL S) : RC G (mkTr S q t) x n0 ar L C M :=
  RC_same h (KF_mkTr hq) (LS_sI (LS_sI (LS_sI (LS_sI (LS_sI (LS_new h.2.2.2.1 hq) (by decide)) (by decide)) (by decide)) (by decide)) (by decide)) (fun d hd _ => have hne : d ≠ q := fun z => hq (z ▸ hd); ⟨fun f => (mkTr_old hne).1, fun f => (mkTr_old hne).2⟩)
/-- the purse at a is written to: balance, state, current -/
theorem RC_bs (h : RC G S x n0 ar L C M) (hI : MIb b c M) {p a cu s : Nat} {v : Int32} (hp : (C 0)[p]? = some a) (hF : KF S S') (hL : LsR G S' (mP M + 3) L C) (h3 : ∀ d, d ≠ a → (∀ f, pI S' f d = pI S f d) ∧ (∀ f, pO S' f d = pO S f d))
    (a6 : pI S' 6 a = pI S 6 a) (a8 : pI S' 8 a = pI S 8 a) (o3 : pO S' 3 a = pO S 3 a) (o4 : pO S' 4 a = pO S 4 a) (a7 : pI S' 7 a = v) (a9 : pI S' 9 a = nI s) (o5 : pO S' 5 a = some cu) (hcu : isK S 4 cu) (hs0 : nI s = 0 → cu = n0) (hs1 : ¬ nI s = 0 → tr S cu = mT M p) : RC G S' x n0 ar L C (sA (sA M 0 p v) 2 p (nI s)) := by
  have hr := h.2.2.2.2.2.1 p a hp
  obtain ⟨h1, h2, h3', h4, h5, h6, h7, h8, -, h9⟩ := hr
  have e2 : mA (sA (sA M 0 p v) 2 p (nI s)) 2 p = nI s := mA_s
  refine RC_pur h hI hp hF hL (fun _ _ => rfl) (fun d _ _ hd => h3 d hd) rfl rfl rfl (fun f j hj => ?_) (fun _ _ _ => rfl) ⟨KF_K hF h1, a6.trans h2, o3.trans h3', o4.trans h4, a7.trans ((mA_f (by decide)).trans mA_s).symm, a8.trans (h6.trans ((mA_f (by decide)).trans (mA_f (by decide))).symm), a9.trans e2.symm, ((mA_f (by decide)).trans (mA_f (by decide))).trans h8, ⟨cu, o5, KF_K hF hcu, by rw [e2]; exact hs0, by rw [e2, KF_tr hF hcu]; exact hs1⟩, fun j t hj => ?_⟩
  · by_cases hjp : j = p
    · rw [mA_f (fun z => hj (Or.inr (Or.inr (Or.inl z))) hjp), mA_f (fun z => hj (Or.inl z) hjp)]
    · rw [mA_a hjp, mA_a hjp]
  · obtain ⟨k1, k2⟩ := h9 j t hj
    exact ⟨KF_K hF k1, (KF_tr hF k1).trans k2⟩
/-- a purse takes a transfer up -/
theorem RC_go (h : RC G S x n0 ar L C M) (hI : MIb b c M) {p a q r : Nat} {d : Bool} {t : T5} (hp : (C 0)[p]? = some a) (hq : q ∉ pL S) (ht : t = setP (mT M r) (if d then 1 else 3) (mA M 1 p)) :
    RC G (sI (sO (sI (mkTr S q t) 9 a (if d then 1 else 2)) 5 a (some q)) 8 a (pI (mkTr S q t) 8 a + 1)) x n0 ar L C (mGo M p r d) ∧ KF S (sI (sO (sI (mkTr S q t) 9 a (if d then 1 else 2)) 5 a (some q)) 8 a (pI (mkTr S q t) 8 a + 1)) := by
  have h' := RC_mkTr (t := t) h hq
  have hr := h'.2.2.2.2.2.1 p a hp
  obtain ⟨h1, h2, h3, h4, h5, h6, h7, h8, -, h9⟩ := hr
  have hF : KF (mkTr S q t) (sI (sO (sI (mkTr S q t) 9 a (if d then 1 else 2)) 5 a (some q)) 8 a (pI (mkTr S q t) 8 a + 1)) := KF_sI (KF_sO (KF_sI (KF_refl _) (Or.inr (Or.inr (Or.inl h1.2)))) (Or.inr (Or.inr (Or.inl h1.2)))) (Or.inr (Or.inr (Or.inl h1.2)))
  have hp12 := hI.1
  obtain ⟨n1, n2, n3⟩ := RC_len h hI hp
  have I : ∀ f, f ≠ 8 → f ≠ 9 → pI (sI (sO (sI (mkTr S q t) 9 a (if d then 1 else 2)) 5 a (some q)) 8 a (pI (mkTr S q t) 8 a + 1)) f a = pI (mkTr S q t) f a := fun f g1 g2 => (pI_f g1).trans (pI_f (S := mkTr S q t) g2)
  have O : ∀ f, f ≠ 5 → pO (sI (sO (sI (mkTr S q t) 9 a (if d then 1 else 2)) 5 a (some q)) 8 a (pI (mkTr S q t) 8 a + 1)) f a = pO (mkTr S q t) f a := fun f g1 => pO_f g1
  refine ⟨RC_pur h' hI hp hF (LS_sI (LS_sO (LS_sI h'.2.2.2.1 (by decide)) (by decide)) (by decide)) (fun _ _ => rfl) (fun e _ _ he => ⟨fun f => (pI_a he).trans (pI_a (S := mkTr S q t) he), fun f => pO_a he⟩) rfl rfl rfl (fun f j hj => mGo_A ?_) (fun s hs _ => mGo_T hs) ⟨KF_K hF h1, (I 6 (by decide) (by decide)).trans h2, (O 3 (by decide)).trans h3, (O 4 (by decide)).trans h4, ?_, ?_, ?_, (mGo_A (Or.inl (by decide))).trans h8, ⟨q, pO_s, KF_K hF mkTr_K, ?_, ?_⟩, fun j s hj => ?_⟩, KF_trans (KF_mkTr hq) hF⟩
  · by_cases hjp : j = p
    · exact Or.inl ⟨fun z => hj (Or.inr (Or.inl z)) hjp, fun z => hj (Or.inr (Or.inr (Or.inl z))) hjp⟩
    · exact Or.inr hjp
  · rw [I 7 (by decide) (by decide), mGo_A (Or.inl (by decide))]; exact h5
  · rw [mGo_1, pI_s, h6]
  · rw [mGo_2, pI_f (by decide)]; exact pI_s (S := mkTr S q t)
  · rw [mGo_2]; cases d <;> intro z <;> exact absurd z (by decide)
  · intro _; rw [KF_tr hF mkTr_K, mkTr_tr, mGo_Ts]; exact ht
  · obtain ⟨k1, k2⟩ := h9 j s hj
    have := (List.getElem?_eq_some_iff.mp hj).1
    exact ⟨KF_K hF k1, by rw [KF_tr hF k1, mGo_T (by omega)]; exact k2⟩
theorem fin_8 {S : PS} {a n0 : Nat} : pI (fin S a n0) 8 a = pI S 8 a + 1 := (pI_f (S := sI S 8 a (pI S 8 a + 1)) (f := 9) (a := a) (v := 0) (by decide)).trans pI_s
theorem fin_I {S : PS} {a n0 f d : Nat} (h8 : f ≠ 8) (h9 : f ≠ 9) : pI (fin S a n0) f d = pI S f d := (pI_f (S := sI S 8 a (pI S 8 a + 1)) (f := 9) h9).trans (pI_f (f := 8) h8)
/-- a purse ends -/
theorem RC_end (h : RC G S x n0 ar L C M) (hI : MIb b c M) {p a cu : Nat} (hp : (C 0)[p]? = some a) (hcu : pO S 5 a = some cu) (hE : EndR G S S' a n0 (L (p + 3)) cu (C (p + 3))) (hG : G 0 ∉ pL S) : ∃ C', RC G S' x n0 ar L C' (mEnd M p) ∧ KF S S' ∧ ∀ i, i ≠ p + 3 → C' i = C i := by
  have hr := h.2.2.2.2.2.1 p a hp
  obtain ⟨h1, h2, h3, h4, h5, h6, h7, h8, ⟨cu', q1, q2, q3, q4⟩, h9⟩ := hr
  cases Option.some.inj (hcu.symm.trans q1)
  have hp12 := hI.1
  obtain ⟨n1, n2, n3⟩ := RC_len h hI hp
  obtain ⟨s, n, v, es, hs3, en, hn5, ev, hv1, hvb, hcur, hlog, hdis⟩ := hI.2.2.2.1 p n3
  have hln : lnN M p = n := lnN_of en (by omega)
  unfold EndR at hE
  rw [h7] at hE
  rcases hE with ⟨e0, rfl⟩ | ⟨e0, rfl⟩ | ⟨e0, S1, hAd, rfl⟩
  · rw [mEnd_0 e0]; exact ⟨C, h, KF_refl S, fun _ _ => rfl⟩
  · have hs : s = 1 := (nI_eq (b := 1) (by omega) (by decide)).mp (es.symm.trans e0)
    subst hs
    have hn4 := (hcur (by decide)).1
    obtain ⟨g1, g2, g3, g4, g5⟩ := mEnd_s hI es (by decide) (by decide) en ev hn4
    have k3 : pK S a = 1 ∨ pK S a = 3 ∨ pK S a = 7 := Or.inr (Or.inl h1.2)
    have hF : KF S (fin S a n0) := KF_sO (KF_sI (KF_sI (KF_refl S) (Or.inr k3)) (Or.inr k3)) (Or.inr k3)
    refine ⟨C, RC_pur h hI hp hF (LS_sO (LS_sI (LS_sI h.2.2.2.1 (by decide)) (by decide)) (by decide)) (fun _ _ => rfl) (fun d _ _ hd => ⟨fun f => (pI_a (S := sI S 8 a _) hd).trans (pI_a hd), fun f => pO_a hd⟩) mEnd_M.2.1 mEnd_M.1 mEnd_M.2.2 (fun f j hj => mEnd_A ?_) (fun q _ hq => mEnd_T (by omega) hq) ?_, hF, fun _ _ => rfl⟩
    · by_cases hjp : j = p
      · exact Or.inl ⟨fun z => hj (Or.inr (Or.inl z)) hjp, fun z => hj (Or.inr (Or.inr (Or.inl z))) hjp, fun z => hj (Or.inr (Or.inr (Or.inr z))) hjp⟩
      · exact Or.inr hjp
    · refine ⟨KF_K hF h1, (fin_I (by decide) (by decide)).trans h2, (pO_f (by decide)).trans h3, (pO_f (by decide)).trans h4, (fin_I (by decide) (by decide)).trans (h5.trans (mEnd_A (Or.inl (by decide))).symm), ?_, ?_, ?_, ⟨n0, pO_s, KF_K hF h.2.1.1, fun _ => rfl, fun z => absurd g2 z⟩, fun j t hj => ?_⟩
      · rw [g1, ← nI_1, ← ev, ← h6]; exact fin_8
      · rw [g2]; exact pI_s (S := sI S 8 a _)
      · rw [g3, if_neg (by decide), n1, hln]
      · obtain ⟨k1, k2⟩ := h9 j t hj
        have := (List.getElem?_eq_some_iff.mp hj).1
        exact ⟨KF_K hF k1, by rw [KF_tr hF k1, g4 j (by omega)]; exact k2⟩
  · have hs2 : s = 2 ∨ s = 3 := by
      rcases e0 with e0 | e0
      · exact Or.inl ((nI_eq (b := 2) (by omega) (by decide)).mp (es.symm.trans e0))
      · exact Or.inr ((nI_eq (b := 3) (by omega) (by decide)).mp (es.symm.trans e0))
    obtain ⟨hn4, ht, -⟩ := hcur (by omega)
    obtain ⟨g1, g2, g3, g4, g5⟩ := mEnd_s hI es (by omega) hs3 en ev hn4
    rw [if_pos (by omega)] at g3
    have hst : ¬ mA M 2 p = 0 := by rw [es]; exact nI_ne0 (by omega) (by omega)
    have hl7 := (h.2.2.2.1.1 (p + 3) (by omega)).1
    have hF1 : KF S S1 := KF_Fr hAd.2 hl7
    have hal : a ≠ L (p + 3) := isK_neK h1 hl7 (by decide)
    have k3 : pK S1 a = 1 ∨ pK S1 a = 3 ∨ pK S1 a = 7 := Or.inr (Or.inl (KF_K hF1 h1).2)
    have hF2 : KF S1 (fin S1 a n0) := KF_sO (KF_sI (KF_sI (KF_refl S1) (Or.inr k3)) (Or.inr k3)) (Or.inr k3)
    have hF := KF_trans hF1 hF2
    obtain ⟨i1, o1⟩ := (hAd.2.1 a h1.1).2.2.2.2.1 hal
    have hL1 := LS_chg h.2.2.2.1 (by omega) hAd.1 hAd.2 hG
    refine ⟨va_up C (p + 3) (C (p + 3) ++ [cu]), RC_pur h hI hp hF (LS_sO (LS_sI (LS_sI hL1 (by decide)) (by decide)) (by decide)) (fun i hi => va_up_ne _ _ hi) (fun d hd hk hda => ?_) mEnd_M.2.1 mEnd_M.1 mEnd_M.2.2 (fun f j hj => mEnd_A ?_) (fun q _ hq => mEnd_T (by omega) hq) ?_, hF, fun i hi => va_up_ne _ _ hi⟩
    · have hdl : d ≠ L (p + 3) := by
        intro z; subst z
        have := hl7.2; omega
      obtain ⟨j1, j2⟩ := (hAd.2.1 d hd).2.2.2.2.1 hdl
      exact ⟨fun f => ((pI_a (S := sI S1 8 a _) hda).trans (pI_a hda)).trans (j1 f), fun f => (pO_a hda).trans (j2 f)⟩
    · by_cases hjp : j = p
      · exact Or.inl ⟨fun z => hj (Or.inr (Or.inl z)) hjp, fun z => hj (Or.inr (Or.inr (Or.inl z))) hjp, fun z => hj (Or.inr (Or.inr (Or.inr z))) hjp⟩
      · exact Or.inr hjp
    · rw [va_up_self]
      refine ⟨KF_K hF h1, (fin_I (by decide) (by decide)).trans ((i1 6).trans h2), (pO_f (by decide)).trans ((o1 3).trans h3), (pO_f (by decide)).trans ((o1 4).trans h4), (fin_I (by decide) (by decide)).trans ((i1 7).trans (h5.trans (mEnd_A (Or.inl (by decide))).symm)), ?_, ?_, ?_, ⟨n0, pO_s, KF_K hF h.2.1.1, fun _ => rfl, fun z => absurd g2 z⟩, fun j t hj => ?_⟩
      · rw [g1, ← nI_1, ← ev, ← h6, ← i1 8]; exact fin_8
      · rw [g2]; exact pI_s (S := sI S1 8 a _)
      · rw [g3]; simp [n1, hln]
      · have hlen := (List.getElem?_eq_some_iff.mp hj).1
        rw [get_app hlen] at hj
        by_cases hjl : j < (C (p + 3)).length
        · rw [if_pos hjl] at hj
          obtain ⟨k1, k2⟩ := h9 j t hj
          exact ⟨KF_K hF k1, by rw [KF_tr hF k1, g4 j (by omega)]; exact k2⟩
        · rw [if_neg hjl] at hj
          cases Option.some.inj hj
          have hje : j = n := by simp at hlen; omega
          subst hje
          exact ⟨KF_K hF q2, by rw [KF_tr hF q2, g5 (by omega)]; exact q4 hst⟩
/-- a log is cleared -/
theorem RC_clr (h : RC G S x n0 ar L C M) (hI : MIb b c M) {p a : Nat} (hp : (C 0)[p]? = some a) (hA : AL G S' (L (p + 3)) []) (hFr : Fr S S' (L (p + 3))) (hG : G 0 ∉ pL S) : RC G S' x n0 ar L (va_up C (p + 3) []) (sA M 3 p 0) ∧ KF S S' := by
  have hr := h.2.2.2.2.2.1 p a hp
  obtain ⟨h1, h2, h3, h4, h5, h6, h7, h8, ⟨cu, q1, q2, q3, q4⟩, h9⟩ := hr
  obtain ⟨n1, n2, n3⟩ := RC_len h hI hp
  have hl7 := (h.2.2.2.1.1 (p + 3) (by omega)).1
  have hF : KF S S' := KF_Fr hFr hl7
  have E : ∀ d, d ∈ pL S → pK S d = 3 ∨ pK S d = 1 → (∀ f, pI S' f d = pI S f d) ∧ (∀ f, pO S' f d = pO S f d) := fun d hd hk => (hFr.1 d hd).2.2.2.2.1 (fun z => by subst z; have := hl7.2; omega)
  obtain ⟨i1, o1⟩ := E a h1.1 (Or.inl h1.2)
  refine ⟨RC_pur h hI hp hF (LS_chg h.2.2.2.1 (by omega) hA hFr hG) (fun i hi => va_up_ne _ _ hi) (fun d hd hk _ => E d hd hk) rfl rfl rfl (fun f j hj => ?_) (fun _ _ _ => rfl) ?_, hF⟩
  · by_cases hjp : j = p
    · exact mA_f (fun z => hj (Or.inr (Or.inr (Or.inr z))) hjp)
    · exact mA_a hjp
  · rw [va_up_self]
    exact ⟨KF_K hF h1, (i1 6).trans h2, (o1 3).trans h3, (o1 4).trans h4, (i1 7).trans (h5.trans (mA_f (by decide)).symm), (i1 8).trans (h6.trans (mA_f (by decide)).symm), (i1 9).trans (h7.trans (mA_f (by decide)).symm), mA_s, ⟨cu, (o1 5).trans q1, KF_K hF q2, by rw [mA_f (by decide)]; exact q3, by rw [mA_f (by decide), KF_tr hF q2]; exact q4⟩, fun j t hj => by simp at hj⟩
end REP2
