/-! A NEW PURSE; THE CLASS'S START. -/
section REP4
variable {G : Nat → Nat} {S S' : PS} {x n0 ar : Nat} {L : Nat → Nat} {C C' : Nat → List Nat} {M M' : MS} {b c : Nat}
theorem LS_sOn {n f d : Nat} {v : Option Nat} (h : LsR G S n L C) (hb : ∀ i, i < n → L i ≠ d) : LsR G (sO S f d v) n L C := by
  refine ⟨fun i hi => AL_sO (h.1 i hi) (Or.inl (hb i hi)), fun i j hi hj hij => ⟨(h.2 i j hi hj hij).1, fun e h1 h2 => (h.2 i j hi hj hij).2 e ?_ ?_⟩⟩
  · exact (pO_a (hb i hi)).symm.trans h1
  · exact (pO_a (hb j hj)).symm.trans h2
theorem isK_sO {k d f e : Nat} {v : Option Nat} (h : isK S k d) : isK (sO S f e v) k d := h
theorem isK_sI {k d f e : Nat} {v : Int32} (h : isK S k d) : isK (sI S f e v) k d := h
theorem tr_sO {d f e : Nat} {v : Option Nat} : tr (sO S f e v) d = tr S d := rfl
/-- one more list, empty -/
theorem LS_ext {n q : Nat} (h : LsR G S n L C) (hq : isK S 7 q) (hs : pI S 20 q = 0) (hd : pO S 20 q = some (G 0)) (hne : ∀ i, i < n → L i ≠ q) : LsR G S (n + 1) (va_up L n q) (va_up C n []) := by
  have hA : AL G S q [] := ⟨hq, hs, Nat.zero_le _, fun y hy => by simp at hy, G 0, hd, Or.inl ⟨rfl, rfl⟩⟩
  refine ⟨fun i hi => ?_, fun i j hi hj hij => ?_⟩
  · by_cases hin : i = n
    · subst hin; rw [va_up_self, va_up_self]; exact hA
    · rw [va_up_ne _ _ hin, va_up_ne _ _ hin]; exact h.1 i (by omega)
  · by_cases hin : i = n
    · subst hin
      rw [va_up_self, va_up_ne _ _ (fun z => hij z.symm)]
      exact ⟨fun z => hne j (by omega) z.symm, fun d h1 _ => (Option.some.inj (hd.symm.trans h1)).symm⟩
    · by_cases hjn : j = n
      · subst hjn
        rw [va_up_self, va_up_ne _ _ hij]
        exact ⟨fun z => hne i (by omega) z, fun d _ h2 => (Option.some.inj (hd.symm.trans h2)).symm⟩
      · rw [va_up_ne _ _ hin, va_up_ne _ _ hjn]; exact h.2 i j (by omega) (by omega) hij
/-- the purse before its list -/
abbrev mkPu0 (S : PS) (a : Nat) (x1 x2 : Int32) (t : Nat) : PS := sO (sI (sI (sN S a 3 0) 6 a x1) 7 a x2) 3 a (some t)
abbrev mkPu1 (G : Nat → Nat) (S : PS) (q : Nat) : PS := sO (sI (sN S q 7 0) 19 q 0) 20 q (some (G 0))
abbrev mkPu (G : Nat → Nat) (S : PS) (a q : Nat) (x1 x2 : Int32) (t : Nat) : PS := sO (sI (sI (sO (mkPu1 G (mkPu0 S a x1 x2 t) q) 4 a (some q)) 8 a 1) 9 a 0) 5 a (some t)
theorem LS_list {n q : Nat} (h : LsR G S n L C) (hq : q ∉ pL S) : LsR G (mkPu1 G S q) n L C := LS_sOn (LS_sI (LS_new h hq) (by decide)) (fun i hi => isK_ne (h.1 i hi).1 hq)
theorem mkPu1_7 {q : Nat} : isK (mkPu1 G S q) 7 q ∧ pI (mkPu1 G S q) 20 q = 0 ∧ pO (mkPu1 G S q) 20 q = some (G 0) :=
  ⟨isK_new (S := S) (k := 7) (n := 0), (pI_f (S := sN S q 7 0) (f := 19) (g := 20) (a := q) (v := 0) (by decide)).trans (upA_s _ _ _ _), pO_s (S := sI (sN S q 7 0) 19 q 0)⟩
theorem mkPu1_old {q d f : Nat} (hd : d ≠ q) : pI (mkPu1 G S q) f d = pI S f d ∧ pO (mkPu1 G S q) f d = pO S f d := ⟨(pI_a (S := sN S q 7 0) hd).trans (upA_a _ _ _ hd), (pO_a (S := sI (sN S q 7 0) 19 q 0) hd).trans (upA_a _ _ _ hd)⟩
theorem KF_list {q : Nat} (hq : q ∉ pL S) : KF S (mkPu1 G S q) := KF_sO (KF_sI (KF_new hq) (Or.inl hq)) (Or.inl hq)
theorem KF_pu {a q t : Nat} {x1 x2 : Int32} (ha : a ∉ pL S) (hq : q ∉ pL (mkPu0 S a x1 x2 t)) : KF S (mkPu G S a q x1 x2 t) := by
  have h1 : KF S (mkPu0 S a x1 x2 t) := KF_sO (KF_sI (KF_sI (KF_new ha) (Or.inl ha)) (Or.inl ha)) (Or.inl ha)
  have h2 : KF S (mkPu1 G (mkPu0 S a x1 x2 t) q) := KF_trans h1 (KF_list hq)
  exact KF_sO (KF_sI (KF_sI (KF_sO h2 (Or.inl ha)) (Or.inl ha)) (Or.inl ha)) (Or.inl ha)
theorem mkPu_old {a q t d f : Nat} {x1 x2 : Int32} (ha : d ≠ a) (hq : d ≠ q) : pI (mkPu G S a q x1 x2 t) f d = pI S f d ∧ pO (mkPu G S a q x1 x2 t) f d = pO S f d := by
  constructor
  · show pI (sI (sI (mkPu1 G (mkPu0 S a x1 x2 t) q) 8 a 1) 9 a 0) f d = _
    rw [pI_a ha, pI_a ha, (mkPu1_old hq).1]
    show pI (sI (sI (sN S a 3 0) 6 a x1) 7 a x2) f d = _
    rw [pI_a ha, pI_a ha]; exact upA_a _ _ _ ha
  · rw [pO_a ha]
    show pO (sO (mkPu1 G (mkPu0 S a x1 x2 t) q) 4 a (some q)) f d = _
    rw [pO_a ha, (mkPu1_old hq).2, pO_a ha]; exact upA_a _ _ _ ha
theorem RC_own (h : RC G S x n0 ar L C M) (hI : MIb b c M) (hP : mP M < 12) {a q : Nat} {y : Int32} (ha : a ∉ pL S) (hq : q ∉ pL (mkPu0 S a (nI (mP M)) y n0)) (hAd : Added G (mkPu G S a q (nI (mP M)) y n0) S' (L 0) (C 0) a) (hG : G 0 ∉ pL (mkPu G S a q (nI (mP M)) y n0)) :
    RC G S' x n0 ar (va_up L (mP M + 3) q) (va_up (va_up C (mP M + 3) []) 0 (C 0 ++ [a])) (mP M + 1, mM M, mE M, up2 (up2 (mA M) 0 (mP M) y) 1 (mP M) 1, mT M) ∧ KF S S' := by
  have hc := h
  obtain ⟨⟨x1, x2, x9, x4', x5⟩, ⟨y1, y2⟩, ⟨z1, z2⟩, hl, ⟨l1, l2, l3⟩, r1, r2, r3⟩ := h
  have haq : a ≠ q := fun z => hq (List.mem_append_right _ (List.mem_singleton.mpr z.symm))
  have hqS : q ∉ pL S := fun z => hq (List.mem_append_left _ z)
  have hL0 : LsR G (mkPu0 S a (nI (mP M)) y n0) (mP M + 3) L C := LS_sO (LS_sI (LS_sI (LS_new hl ha) (by decide)) (by decide)) (by decide)
  have hL1 := LS_ext (LS_list hL0 hq) mkPu1_7.1 mkPu1_7.2.1 mkPu1_7.2.2 (fun i hi => isK_ne (hl.1 i hi).1 hqS)
  have hL2 : LsR G (mkPu G S a q (nI (mP M)) y n0) (mP M + 3 + 1) (va_up L (mP M + 3) q) (va_up C (mP M + 3) []) := LS_sO (LS_sI (LS_sI (LS_sO hL1 (by decide)) (by decide)) (by decide)) (by decide)
  have eL0 : va_up L (mP M + 3) q 0 = L 0 := va_up_ne _ _ (by omega)
  have eL1 : va_up L (mP M + 3) q 1 = L 1 := va_up_ne _ _ (by omega)
  have eL2 : va_up L (mP M + 3) q 2 = L 2 := va_up_ne _ _ (by omega)
  have hF1 : KF S (mkPu G S a q (nI (mP M)) y n0) := KF_pu ha hq
  have h70 : isK (mkPu G S a q (nI (mP M)) y n0) 7 (L 0) := KF_K hF1 (hl.1 0 (by omega)).1
  have hF2 := KF_Fr hAd.2 h70
  have hF := KF_trans hF1 hF2
  have I : ∀ f d, isK S 1 d ∨ isK S 3 d → pI S' f d = pI S f d ∧ pO S' f d = pO S f d := by
    intro f d hd
    have hm1 : ∃ kk, (kk = 1 ∨ kk = 3) ∧ isK S kk d := by rcases hd with hd | hd; exact ⟨1, Or.inl rfl, hd⟩; exact ⟨3, Or.inr rfl, hd⟩
    obtain ⟨kk, hk0, hd⟩ := hm1
    have hdl : d ≠ L 0 := isK_neK hd (hl.1 0 (by omega)).1 (by omega)
    obtain ⟨g1, g2⟩ := (hAd.2.1 d (KF_K hF1 hd).1).2.2.2.2.1 hdl
    exact ⟨(g1 f).trans (mkPu_old (isK_ne hd ha) (isK_ne hd hqS)).1, (g2 f).trans (mkPu_old (isK_ne hd ha) (isK_ne hd hqS)).2⟩
  have O5 : ∀ f, pO S' f x = pO S f x := fun f => KF_O hF x1 (by decide) (by decide) (by decide)
  have A0 : ∀ f j, (f ≠ 1 ∧ f ≠ 0 ∨ j ≠ mP M) → up2 (up2 (mA M) 0 (mP M) y) 1 (mP M) 1 f j = mA M f j := by
    intro f j hf
    rcases hf with hf | hf
    · rw [up2_f _ _ _ _ hf.1, up2_f _ _ _ _ hf.2]
    · rw [up2_a _ _ _ _ hf, up2_a _ _ _ _ hf]
  have e0 : va_up (va_up C (mP M + 3) []) 0 (C 0 ++ [a]) 0 = C 0 ++ [a] := va_up_self _ _ _
  have e1 : va_up (va_up C (mP M + 3) []) 0 (C 0 ++ [a]) 1 = C 1 := (va_up_ne _ _ (by decide)).trans (va_up_ne _ _ (by omega))
  have e2 : va_up (va_up C (mP M + 3) []) 0 (C 0 ++ [a]) 2 = C 2 := (va_up_ne _ _ (by decide)).trans (va_up_ne _ _ (by omega))
  have eC0 : va_up C (mP M + 3) [] 0 = C 0 := va_up_ne _ _ (by omega)
  have hAd' : Added G (mkPu G S a q (nI (mP M)) y n0) S' (va_up L (mP M + 3) q 0) (va_up C (mP M + 3) [] 0) a := by rw [eL0, eC0]; exact hAd
  have hLS := LS_chg hL2 (show 0 < mP M + 3 + 1 by omega) hAd'.1 hAd'.2 hG
  rw [eC0] at hLS
  refine ⟨⟨⟨KF_K hF x1, (O5 6).trans x2, by rw [eL0]; exact (O5 7).trans x9, by rw [eL1]; exact (O5 8).trans x4', (O5 9).trans x5⟩, ⟨KF_K hF y1, (KF_tr hF y1).trans y2⟩, ⟨KF_K hF z1, by rw [eL2]; exact (KF_O hF z1 (by decide) (by decide) (by decide)).trans z2⟩, ?_, ?_, fun i d hi => ?_, fun i d hi => ?_, fun k' d hk => ?_⟩, hF⟩
  · show LsR G S' (mP M + 1 + 3) _ _
    rw [show mP M + 1 + 3 = mP M + 3 + 1 by omega]; exact hLS
  · rw [e0, e1, e2]; exact ⟨by simp [l1], l2, l3⟩
  · rw [e0] at hi
    have hlen := (List.getElem?_eq_some_iff.mp hi).1
    rw [get_app hlen] at hi
    by_cases hil : i < (C 0).length
    · rw [if_pos hil] at hi
      have hr := r1 i d hi
      have e3 : va_up (va_up C (mP M + 3) []) 0 (C 0 ++ [a]) (i + 3) = C (i + 3) := (va_up_ne _ _ (by omega)).trans (va_up_ne _ _ (by omega))
      rw [e3, va_up_ne _ _ (by omega)]
      exact PuR_congr hr hF (fun f => (I f d (Or.inr hr.1)).1) (fun f => (I f d (Or.inr hr.1)).2) (fun f hf => A0 _ _ (Or.inr (by omega))) rfl (fun _ _ => rfl)
    · rw [if_neg hil] at hi
      cases Option.some.inj hi
      have hie : i = mP M := by simp at hlen; omega
      subst hie
      have e3 : va_up (va_up C (mP M + 3) []) 0 (C 0 ++ [a]) (mP M + 3) = [] := (va_up_ne _ _ (by omega)).trans (va_up_self _ _ _)
      rw [e3, va_up_self]
      have ham0 : isK (mkPu0 S a (nI (mP M)) y n0) 3 a := isK_new (S := S) (k := 3) (n := 0)
      have ham : isK (mkPu G S a q (nI (mP M)) y n0) 3 a := isK_sO (isK_sI (isK_sI (isK_sO (KF_K (KF_list (G := G) hq) ham0))))
      have hal : a ≠ L 0 := isK_neK ham h70 (by decide)
      obtain ⟨g1, g2⟩ := (hAd.2.1 a ham.1).2.2.2.2.1 hal
      obtain ⟨w1, w2⟩ := hI.2.2.2.2.1 (mP M) (Nat.le_refl _) hP
      have P0 : ∀ f, f ≠ 8 → f ≠ 9 → pI (mkPu G S a q (nI (mP M)) y n0) f a = pI (sI (sI (sN S a 3 0) 6 a (nI (mP M))) 7 a y) f a := by
        intro f f8 f9
        show pI (sI (sI (mkPu1 G (mkPu0 S a (nI (mP M)) y n0) q) 8 a 1) 9 a 0) f a = _
        rw [pI_f f9, pI_f f8, (mkPu1_old haq).1]
      have Q0 : ∀ f, f ≠ 5 → f ≠ 4 → pO (mkPu G S a q (nI (mP M)) y n0) f a = pO (mkPu0 S a (nI (mP M)) y n0) f a := by
        intro f f5 f4
        rw [pO_f f5]
        show pO (sO (mkPu1 G (mkPu0 S a (nI (mP M)) y n0) q) 4 a (some q)) f a = _
        rw [pO_f f4, (mkPu1_old haq).2]
      refine ⟨Fr_K hAd.2 ham, ?_, ?_, ?_, ?_, ?_, ?_, ?_, ⟨n0, ?_, KF_K hF y1, fun _ => rfl, fun z => absurd ((A0 2 _ (Or.inl (by decide))).trans w1) z⟩, fun j t hj => by simp at hj⟩
      · rw [g1, P0 6 (by decide) (by decide), pI_f (by decide), pI_s]
      · rw [g2, Q0 3 (by decide) (by decide), pO_s]
      · rw [g2, pO_f (by decide)]; exact pO_s (S := mkPu1 G (mkPu0 S a (nI (mP M)) y n0) q)
      · rw [g1, P0 7 (by decide) (by decide), pI_s]
        show y = up2 (up2 (mA M) 0 (mP M) y) 1 (mP M) 1 0 (mP M)
        rw [up2_f _ _ _ _ (by decide), up2_s]
      · rw [g1]
        show pI (sI (sI (mkPu1 G (mkPu0 S a (nI (mP M)) y n0) q) 8 a 1) 9 a 0) 8 a = up2 (up2 (mA M) 0 (mP M) y) 1 (mP M) 1 1 (mP M)
        rw [pI_f (by decide), pI_s, up2_s]
      · rw [g1]
        show pI (sI (sI (mkPu1 G (mkPu0 S a (nI (mP M)) y n0) q) 8 a 1) 9 a 0) 9 a = up2 (up2 (mA M) 0 (mP M) y) 1 (mP M) 1 2 (mP M)
        rw [pI_s, A0 2 _ (Or.inl (by decide)), w1]
      · exact (A0 3 _ (Or.inl (by decide))).trans w2
      · rw [g2, pO_s]
  · rw [e1] at hi
    exact MsR_congr (r2 i d hi) hF (A0 4 i (Or.inl (by decide))) (A0 5 i (Or.inl (by decide))) (A0 6 i (Or.inl (by decide))) rfl
  · rw [e2] at hk
    have hr := r3 k' d hk
    exact EnR_congr hr hF (fun f => (I f d (Or.inl hr.1)).1) (fun f => (I f d (Or.inl hr.1)).2) (A0 7 k' (Or.inl (by decide))) rfl (rfd_congr rfl (fun j _ => A0 8 j (Or.inl (by decide))) (fun j _ => rfl) rfl)
theorem LS_pu {n a q t : Nat} {x1 x2 : Int32} (h : LsR G S n L C) (ha : a ∉ pL S) (hq : q ∉ pL (mkPu0 S a x1 x2 t)) : LsR G (mkPu G S a q x1 x2 t) n L C :=
  LS_sO (LS_sI (LS_sI (LS_sO (LS_list (LS_sO (LS_sI (LS_sI (LS_new h ha) (by decide)) (by decide)) (by decide)) hq) (by decide)) (by decide)) (by decide)) (by decide)
theorem mkPu_K {a q t : Nat} {x1 x2 : Int32} (hq : q ∉ pL (mkPu0 S a x1 x2 t)) : isK (mkPu G S a q x1 x2 t) 3 a := by
  have h : isK (mkPu0 S a x1 x2 t) 3 a := isK_new (S := S) (k := 3) (n := 0)
  exact isK_sO (isK_sI (isK_sI (isK_sO (KF_K (KF_list (G := G) hq) h))))
/-- the flag of an entry -/
theorem MI_flag {c : Nat} {M : MS} {k : Nat} (h : MI c M) (hk : k < mE M) (g1 : kpt M (part 0 (mT M (872 + k))) (872 + k) (mE M) = true) (g2 : kpt M (part 2 (mT M (872 + k))) (872 + k) (mE M) = true) : MI c (sA M 8 k 1) := by
  obtain ⟨h1, h2, h3, h4, h5, h6, h7, h8⟩ := h
  refine ⟨h1, h2, h3, fun p hp => pOk_congr (h4 p hp) (Nat.le_refl _) (Nat.le_refl _) (mA_f (by decide)) (mA_f (by decide)) (mA_f (by decide)) rfl (fun _ _ => rfl), fun p e1 e2 => ?_, fun i hi => gOk_congr (h6 i hi) (Nat.le_refl _) (Nat.le_refl _) (mA_f (by decide)) (mA_f (by decide)) (mA_f (by decide)) rfl, fun j hj => ?_, fun i j hi hj e1 e2 => ?_⟩
  · rw [mA_f (by decide), mA_f (by decide)]; exact h5 p e1 e2
  · by_cases hjk : j = k
    · subst hjk
      obtain ⟨e1, ⟨te, e2, e3, e4⟩, -⟩ := h7 j hj
      exact ⟨e1, ⟨te, e2, (mA_f (by decide)).trans e3, e4⟩, fun _ => ⟨kpt_mono g1 (Nat.le_refl _) (fun i _ => mA_f (by decide)) (fun _ _ => rfl) rfl, kpt_mono g2 (Nat.le_refl _) (fun i _ => mA_f (by decide)) (fun _ _ => rfl) rfl⟩⟩
    · exact eOk_congr (h7 j hj) hj (Nat.le_refl _) (Nat.le_refl _) (fun i _ => mA_f (by decide)) (mA_a hjk) (fun _ _ => rfl)
  · rw [mA_f (by decide), mA_f (by decide)] at e1
    exact h8 i j hi hj e1 e2
/-- the class's start -/
theorem IC1 {q : Nat} (hx : isK S 5 x) (hq : q ∉ pL S) : isK (sO (mkTr S q tn) 6 x (some q)) 5 x ∧ pO (sO (mkTr S q tn) 6 x (some q)) 6 x = some q ∧ isK (sO (mkTr S q tn) 6 x (some q)) 4 q ∧ tr (sO (mkTr S q tn) 6 x (some q)) q = tn :=
  ⟨isK_sO (isK_sI (isK_sI (isK_sI (isK_sI (isK_sI (isK_old (k := 4) (n := 0) hx hq)))))), pO_s, isK_sO mkTr_K, tr_sO.trans mkTr_tr⟩
theorem IC_list {q n f : Nat} (hx : isK S 5 x) (hn : isK S 4 n0) (ht : tr S n0 = tn) (hL : LsR G S n L C) (hq : q ∉ pL S) (hf : f ≠ 20) : isK (sO (mkPu1 G S q) f x (some q)) 5 x ∧ isK (sO (mkPu1 G S q) f x (some q)) 4 n0 ∧ tr (sO (mkPu1 G S q) f x (some q)) n0 = tn ∧ LsR G (sO (mkPu1 G S q) f x (some q)) (n + 1) (va_up L n q) (va_up C n []) ∧ pO (sO (mkPu1 G S q) f x (some q)) f x = some q ∧ ∀ g, g ≠ f → pO (sO (mkPu1 G S q) f x (some q)) g x = pO S g x := by
  have hF := KF_list (G := G) hq
  refine ⟨isK_sO (KF_K hF hx), isK_sO (KF_K hF hn), tr_sO.trans ((KF_tr hF hn).trans ht), LS_sO (LS_ext (LS_list hL hq) mkPu1_7.1 mkPu1_7.2.1 mkPu1_7.2.2 (fun i hi => isK_ne (hL.1 i hi).1 hq)) hf, pO_s, fun g hg => (pO_f hg).trans (mkPu1_old (isK_ne hx hq)).2⟩
theorem IC_arch {a q n : Nat} (hx : isK S 5 x) (hn : isK S 4 n0) (ht : tr S n0 = tn) (hL : LsR G S n L C) (ha : a ∉ pL S) (hq : q ∉ pL (sN S a 0 0)) :
    isK (sO (sO (mkPu1 G (sN S a 0 0) q) 0 a (some q)) 9 x (some a)) 5 x ∧ isK (sO (sO (mkPu1 G (sN S a 0 0) q) 0 a (some q)) 9 x (some a)) 4 n0 ∧ tr (sO (sO (mkPu1 G (sN S a 0 0) q) 0 a (some q)) 9 x (some a)) n0 = tn ∧ LsR G (sO (sO (mkPu1 G (sN S a 0 0) q) 0 a (some q)) 9 x (some a)) (n + 1) (va_up L n q) (va_up C n []) ∧
    pO (sO (sO (mkPu1 G (sN S a 0 0) q) 0 a (some q)) 9 x (some a)) 9 x = some a ∧ (∀ g, g ≠ 9 → pO (sO (sO (mkPu1 G (sN S a 0 0) q) 0 a (some q)) 9 x (some a)) g x = pO S g x) ∧ isK (sO (sO (mkPu1 G (sN S a 0 0) q) 0 a (some q)) 9 x (some a)) 0 a ∧ pO (sO (sO (mkPu1 G (sN S a 0 0) q) 0 a (some q)) 9 x (some a)) 0 a = some q := by
  have hF1 := KF_new (k := 0) (n := 0) ha
  have hF := KF_trans hF1 (KF_list (G := G) hq)
  have hL1 : LsR G (sN S a 0 0) n L C := LS_new hL ha
  have hxa : x ≠ a := isK_ne hx ha
  refine ⟨isK_sO (isK_sO (KF_K hF hx)), isK_sO (isK_sO (KF_K hF hn)), (tr_sO.trans tr_sO).trans ((KF_tr hF hn).trans ht), LS_sO (LS_sO (LS_ext (LS_list hL1 hq) mkPu1_7.1 mkPu1_7.2.1 mkPu1_7.2.2 (fun i hi => isK_ne (hL1.1 i hi).1 hq)) (by decide)) (by decide), pO_s, fun g hg => ?_, isK_sO (isK_sO (KF_K (KF_list (G := G) hq) (isK_new (S := S) (k := 0) (n := 0)))), ?_⟩
  · rw [pO_f hg]
    show pO (sO (mkPu1 G (sN S a 0 0) q) 0 a (some q)) g x = _
    rw [pO_a hxa, (mkPu1_old (isK_ne (KF_K hF1 hx) hq)).2]; exact upA_a _ _ _ hxa
  · rw [pO_a (fun z => hxa z.symm)]; exact pO_s (S := mkPu1 G (sN S a 0 0) q)
end REP4
