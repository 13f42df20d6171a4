/-! THE CLASS'S OBJECTS AGAINST THE MODEL. -/
section REP
/-- what the class never changes of what was there -/
def KF (S S' : PS) : Prop := ∀ b ∈ pL S, b ∈ pL S' ∧ pK S' b = pK S b ∧ pN S' b = pN S b ∧ pR S' b = pR S b ∧ (pK S b ≠ 1 → pK S b ≠ 3 → pK S b ≠ 7 → (∀ f, pI S' f b = pI S f b) ∧ (∀ f, pO S' f b = pO S f b))
theorem KF_refl (S : PS) : KF S S := fun b hb => ⟨hb, rfl, rfl, rfl, fun _ _ _ => ⟨fun _ => rfl, fun _ => rfl⟩⟩
theorem KF_trans {S S1 S2 : PS} (h : KF S S1) (h2 : KF S1 S2) : KF S S2 := by
  intro b hb
  obtain ⟨a1, a2, a3, a4, a5⟩ := h b hb
  obtain ⟨b1, b2, b3, b4, b5⟩ := h2 b a1
  rw [a2] at b5
  exact ⟨b1, b2.trans a2, b3.trans a3, b4.trans a4, fun h1 h3 h7 => ⟨fun f => ((b5 h1 h3 h7).1 f).trans ((a5 h1 h3 h7).1 f), fun f => ((b5 h1 h3 h7).2 f).trans ((a5 h1 h3 h7).2 f)⟩⟩
theorem KF_K {S S' : PS} {k b : Nat} (h : KF S S') (hb : isK S k b) : isK S' k b := ⟨(h b hb.1).1, (h b hb.1).2.1.trans hb.2⟩
theorem KF_I {S S' : PS} {k b f : Nat} (h : KF S S') (hb : isK S k b) (h1 : k ≠ 1) (h3 : k ≠ 3) (h7 : k ≠ 7) : pI S' f b = pI S f b := ((h b hb.1).2.2.2.2 (by rw [hb.2]; exact h1) (by rw [hb.2]; exact h3) (by rw [hb.2]; exact h7)).1 f
theorem KF_O {S S' : PS} {k b f : Nat} (h : KF S S') (hb : isK S k b) (h1 : k ≠ 1) (h3 : k ≠ 3) (h7 : k ≠ 7) : pO S' f b = pO S f b := ((h b hb.1).2.2.2.2 (by rw [hb.2]; exact h1) (by rw [hb.2]; exact h3) (by rw [hb.2]; exact h7)).2 f
theorem KF_tr {S S' : PS} {t : Nat} (h : KF S S') (ht : isK S 4 t) : tr S' t = tr S t := by
  unfold tr
  rw [KF_I h ht (by decide) (by decide) (by decide), KF_I h ht (by decide) (by decide) (by decide), KF_I h ht (by decide) (by decide) (by decide), KF_I h ht (by decide) (by decide) (by decide), KF_I h ht (by decide) (by decide) (by decide)]
theorem KF_new {S : PS} {q k n : Nat} (hq : q ∉ pL S) : KF S (sN S q k n) := by
  intro b hb
  have hne : b ≠ q := fun z => hq (z ▸ hb)
  exact ⟨List.mem_append_left _ hb, va_up_ne _ _ hne, va_up_ne _ _ hne, va_up_ne _ _ hne, fun _ _ _ => ⟨fun f => upA_a _ _ _ hne, fun f => upA_a _ _ _ hne⟩⟩
theorem KF_sI {S0 S : PS} {b f : Nat} {v : Int32} (h : KF S0 S) (hb : b ∉ pL S0 ∨ pK S0 b = 1 ∨ pK S0 b = 3 ∨ pK S0 b = 7) : KF S0 (sI S f b v) := by
  intro a ha
  obtain ⟨a1, a2, a3, a4, a5⟩ := h a ha
  refine ⟨a1, a2, a3, a4, fun h1 h3 h7 => ⟨fun g => ?_, (a5 h1 h3 h7).2⟩⟩
  have hne : a ≠ b := by
    intro z; subst z
    rcases hb with hb | hb | hb | hb
    · exact hb ha
    · exact h1 hb
    · exact h3 hb
    · exact h7 hb
  exact (up2_a _ _ _ _ hne).trans ((a5 h1 h3 h7).1 g)
theorem KF_sO {S0 S : PS} {b f : Nat} {v : Option Nat} (h : KF S0 S) (hb : b ∉ pL S0 ∨ pK S0 b = 1 ∨ pK S0 b = 3 ∨ pK S0 b = 7) : KF S0 (sO S f b v) := by
  intro a ha
  obtain ⟨a1, a2, a3, a4, a5⟩ := h a ha
  refine ⟨a1, a2, a3, a4, fun h1 h3 h7 => ⟨(a5 h1 h3 h7).1, fun g => ?_⟩⟩
  have hne : a ≠ b := by
    intro z; subst z
    rcases hb with hb | hb | hb | hb
    · exact hb ha
    · exact h1 hb
    · exact h3 hb
    · exact h7 hb
  exact (up2_a _ _ _ _ hne).trans ((a5 h1 h3 h7).2 g)
theorem KF_Fr {S S' : PS} {a : Nat} (h : Fr S S' a) (ha : isK S 7 a) : KF S S' := by
  intro b hb
  obtain ⟨g1, g2, g3, g4, g5, g6⟩ := h.1 b hb
  refine ⟨g1, g2, g3, g4, fun h1 h3 h7 => g5 (fun z => h7 ?_)⟩
  subst z; exact ha.2
/-- n lists at L, each with what C says, each with a row of its own -/
def LsR (G : Nat → Nat) (S : PS) (n : Nat) (L : Nat → Nat) (C : Nat → List Nat) : Prop := (∀ i, i < n → AL G S (L i) (C i)) ∧ ∀ i j, i < n → j < n → i ≠ j → L i ≠ L j ∧ ∀ d, pO S 20 (L i) = some d → pO S 20 (L j) = some d → d = G 0
theorem LS_sI {G : Nat → Nat} {S : PS} {n : Nat} {L : Nat → Nat} {C : Nat → List Nat} {f b : Nat} {v : Int32} (h : LsR G S n L C) (hf : f ≠ 20) : LsR G (sI S f b v) n L C := ⟨fun i hi => AL_sI (h.1 i hi) (Or.inr hf), h.2⟩
theorem LS_sO {G : Nat → Nat} {S : PS} {n : Nat} {L : Nat → Nat} {C : Nat → List Nat} {f b : Nat} {v : Option Nat} (h : LsR G S n L C) (hf : f ≠ 20) : LsR G (sO S f b v) n L C := by
  refine ⟨fun i hi => AL_sO (h.1 i hi) (Or.inr hf), fun i j hi hj hij => ⟨(h.2 i j hi hj hij).1, fun d h1 h2 => (h.2 i j hi hj hij).2 d ?_ ?_⟩⟩
  · exact (pO_f (fun z => hf z.symm)).symm.trans h1
  · exact (pO_f (fun z => hf z.symm)).symm.trans h2
theorem LS_new {G : Nat → Nat} {S : PS} {n : Nat} {L : Nat → Nat} {C : Nat → List Nat} {q k m : Nat} (h : LsR G S n L C) (hq : q ∉ pL S) : LsR G (sN S q k m) n L C := by
  refine ⟨fun i hi => AL_new (h.1 i hi) hq, fun i j hi hj hij => ⟨(h.2 i j hi hj hij).1, fun d h1 h2 => (h.2 i j hi hj hij).2 d ?_ ?_⟩⟩
  · exact (upA_a _ _ _ (isK_ne (h.1 i hi).1 hq)).symm.trans h1
  · exact (upA_a _ _ _ (isK_ne (h.1 j hj).1 hq)).symm.trans h2
theorem AL_other {G : Nat → Nat} {S S' : PS} {a b : Nat} {xs : List Nat} (h : AL G S a xs) (hF : Fr S S' b) (hne : a ≠ b) (hd : ∀ d, pO S 20 a = some d → pO S 20 b = some d → d = G 0) (hG : G 0 ∉ pL S) : AL G S' a xs := by
  obtain ⟨h1, h2, h3, h4, d, e1, e2⟩ := h
  obtain ⟨g1, g2, g3, g4, g5, g6⟩ := hF.1 a h1.1
  refine ⟨⟨g1, g2.trans h1.2⟩, ((g5 hne).1 20).trans h2, h3, fun x hx => ?_, d, ((g5 hne).2 20).trans e1, ?_⟩
  · exact isOb_K (fun c hc => ⟨(hF.1 c hc).1, (hF.1 c hc).2.1⟩) (h4 x hx)
  · rcases e2 with e2 | ⟨k1, k2, k3, k4, k5⟩
    · exact Or.inl e2
    · obtain ⟨f1, f2, f3, f4, f5, f6⟩ := hF.1 d k1.1
      refine Or.inr ⟨⟨f1, f2.trans k1.2⟩, by rw [f3]; exact k2, by rw [f3]; exact k3, by rw [f3]; exact k4, fun i hi => ?_⟩
      rw [f6 (fun z => hG (hd d e1 z ▸ k1.1))]
      exact k5 i hi
theorem LS_chg {G : Nat → Nat} {S S' : PS} {n i0 : Nat} {L : Nat → Nat} {C : Nat → List Nat} {ys : List Nat} (h : LsR G S n L C) (hi0 : i0 < n) (hA : AL G S' (L i0) ys) (hF : Fr S S' (L i0)) (hG : G 0 ∉ pL S) : LsR G S' n L (va_up C i0 ys) := by
  have own : ∀ j, j < n → j ≠ i0 → ∀ d, pO S' 20 (L i0) = some d → pO S' 20 (L j) = some d → d = G 0 := by
    intro j hj hji d h1 h2
    have hne := (h.2 j i0 hj hi0 hji).1
    have h2' : pO S 20 (L j) = some d := (((hF.1 _ (h.1 j hj).1.1).2.2.2.2.1 hne).2 20).symm.trans h2
    rcases hF.2.1 d h1 with g | g
    · exact (h.2 i0 j hi0 hj (fun z => hji z.symm)).2 d g h2'
    · obtain ⟨-, -, -, -, d', e1, e2⟩ := h.1 j hj
      cases Option.some.inj (h2'.symm.trans e1)
      rcases e2 with e2 | e2
      · exact e2.1
      · exact absurd e2.1.1 g
  refine ⟨fun i hi => ?_, fun i j hi hj hij => ⟨(h.2 i j hi hj hij).1, fun d h1 h2 => ?_⟩⟩
  · by_cases hii : i = i0
    · subst hii; rw [va_up_self]; exact hA
    · rw [va_up_ne _ _ hii]
      exact AL_other (h.1 i hi) hF (h.2 i i0 hi hi0 hii).1 (h.2 i i0 hi hi0 hii).2 hG
  · by_cases hii : i = i0
    · subst hii; exact own j hj (fun z => hij z.symm) d h1 h2
    · by_cases hjj : j = i0
      · subst hjj; exact own i hi hii d h2 h1
      · have e1 := ((hF.1 _ (h.1 i hi).1.1).2.2.2.2.1 (h.2 i i0 hi hi0 hii).1).2 20
        have e2 := ((hF.1 _ (h.1 j hj).1.1).2.2.2.2.1 (h.2 j i0 hj hi0 hjj).1).2 20
        exact (h.2 i j hi hj hij).2 d (e1.symm.trans h1) (e2.symm.trans h2)
def tn : T5 := (-1, -1, -1, -1, -1)
/-- the purse i stands at a, its log at b holds xs -/
def PuR (S : PS) (n0 : Nat) (M : MS) (i a b : Nat) (xs : List Nat) : Prop := isK S 3 a ∧ pI S 6 a = nI i ∧ pO S 3 a = some n0 ∧ pO S 4 a = some b ∧ pI S 7 a = mA M 0 i ∧ pI S 8 a = mA M 1 i ∧ pI S 9 a = mA M 2 i ∧ mA M 3 i = nI xs.length ∧
  (∃ cu, pO S 5 a = some cu ∧ isK S 4 cu ∧ (mA M 2 i = 0 → cu = n0) ∧ (¬ mA M 2 i = 0 → tr S cu = mT M i)) ∧ ∀ j t, xs[j]? = some t → isK S 4 t ∧ tr S t = mT M (12 + 5 * i + j)
def MsR (S : PS) (M : MS) (i a : Nat) : Prop := isK S 2 a ∧ pI S 2 a = mA M 4 i ∧ pI S 3 a = mA M 5 i ∧ (∃ t, pO S 2 a = some t ∧ isK S 4 t ∧ tr S t = mT M (72 + i)) ∧ (mA M 4 i = 5 → pI S 4 a = mA M 6 i) ∧ (mA M 4 i = 6 → pI S 5 a = mA M 6 i)
def EnR (S : PS) (M : MS) (k a : Nat) : Prop := isK S 1 a ∧ pI S 0 a = mA M 7 k ∧ (∃ t, pO S 1 a = some t ∧ isK S 4 t ∧ tr S t = mT M (872 + k)) ∧ pI S 1 a = bI (rfd M (872 + k))
/-- the class's object x; nothing at n0, the archive at ar, the lists at L (owners, sent, entries, then the logs) hold C -/
def RC (G : Nat → Nat) (S : PS) (x n0 ar : Nat) (L : Nat → Nat) (C : Nat → List Nat) (M : MS) : Prop :=
  (isK S 5 x ∧ pO S 6 x = some n0 ∧ pO S 7 x = some (L 0) ∧ pO S 8 x = some (L 1) ∧ pO S 9 x = some ar) ∧ (isK S 4 n0 ∧ tr S n0 = tn) ∧ (isK S 0 ar ∧ pO S 0 ar = some (L 2)) ∧ LsR G S (mP M + 3) L C ∧ ((C 0).length = mP M ∧ (C 1).length = mM M ∧ (C 2).length = mE M) ∧
  (∀ i a, (C 0)[i]? = some a → PuR S n0 M i a (L (i + 3)) (C (i + 3))) ∧ (∀ i a, (C 1)[i]? = some a → MsR S M i a) ∧ ∀ k a, (C 2)[k]? = some a → EnR S M k a
section ROWS9
variable {G : Nat → Nat} {S S' : PS} {x n0 ar : Nat} {L : Nat → Nat} {C C' : Nat → List Nat} {M M' : MS} {b c : Nat}
theorem PuR_congr {i a l : Nat} {xs : List Nat} (h : PuR S n0 M i a l xs) (hF : KF S S') (hI : ∀ f, pI S' f a = pI S f a) (hO : ∀ f, pO S' f a = pO S f a) (hA : ∀ f, f < 4 → mA M' f i = mA M f i) (hT : mT M' i = mT M i) (hL : ∀ j, j < xs.length → mT M' (12 + 5 * i + j) = mT M (12 + 5 * i + j)) : PuR S' n0 M' i a l xs := by
  obtain ⟨h1, h2, h3, h4, h5, h6, h7, h8, ⟨cu, k1, k2, k3, k4⟩, h9⟩ := h
  refine ⟨KF_K hF h1, (hI 6).trans h2, (hO 3).trans h3, (hO 4).trans h4, by rw [hI, hA 0 (by decide)]; exact h5, by rw [hI, hA 1 (by decide)]; exact h6, by rw [hI, hA 2 (by decide)]; exact h7, (hA 3 (by decide)).trans h8, ⟨cu, (hO 5).trans k1, KF_K hF k2, by rw [hA 2 (by decide)]; exact k3, by rw [hA 2 (by decide), hT, KF_tr hF k2]; exact k4⟩, fun j t hj => ?_⟩
  obtain ⟨e1, e2⟩ := h9 j t hj
  exact ⟨KF_K hF e1, by rw [KF_tr hF e1, hL j (List.getElem?_eq_some_iff.mp hj).1]; exact e2⟩
theorem MsR_congr {i a : Nat} (h : MsR S M i a) (hF : KF S S') (h4 : mA M' 4 i = mA M 4 i) (h5 : mA M' 5 i = mA M 5 i) (h6 : mA M' 6 i = mA M 6 i) (hT : mT M' (72 + i) = mT M (72 + i)) : MsR S' M' i a := by
  obtain ⟨e1, e2, e3, ⟨t, e4, e5, e6⟩, e7, e8⟩ := h
  have I : ∀ f, pI S' f a = pI S f a := fun f => KF_I hF e1 (by decide) (by decide) (by decide)
  refine ⟨KF_K hF e1, by rw [I, h4]; exact e2, by rw [I, h5]; exact e3, ⟨t, (KF_O hF e1 (by decide) (by decide) (by decide)).trans e4, KF_K hF e5, by rw [KF_tr hF e5, hT]; exact e6⟩, by rw [I, h4, h6]; exact e7, by rw [I, h4, h6]; exact e8⟩
theorem EnR_congr {k a : Nat} (h : EnR S M k a) (hF : KF S S') (hI : ∀ f, pI S' f a = pI S f a) (hO : ∀ f, pO S' f a = pO S f a) (h7 : mA M' 7 k = mA M 7 k) (hT : mT M' (872 + k) = mT M (872 + k)) (hr : rfd M' (872 + k) = rfd M (872 + k)) : EnR S' M' k a := by
  obtain ⟨e1, e2, ⟨t, e4, e5, e6⟩, e7⟩ := h
  exact ⟨KF_K hF e1, by rw [hI, h7]; exact e2, ⟨t, (hO 1).trans e4, KF_K hF e5, by rw [KF_tr hF e5, hT]; exact e6⟩, by rw [hI, hr]; exact e7⟩
theorem rfd_congr {q : Nat} (hE : mE M' = mE M) (h8 : ∀ j, j < mE M → mA M' 8 j = mA M 8 j) (hT : ∀ j, j < mE M → mT M' (872 + j) = mT M (872 + j)) (hq : mT M' q = mT M q) : rfd M' q = rfd M q := by
  unfold rfd
  rw [hE]
  apply Bool.eq_iff_iff.mpr
  simp only [List.any_eq_true, List.mem_range, decide_eq_true_eq]
  constructor
  · rintro ⟨j, h1, h2, h3⟩; exact ⟨j, h1, by rw [← h8 j h1]; exact h2, by rw [← hT j h1, ← hq]; exact h3⟩
  · rintro ⟨j, h1, h2, h3⟩; exact ⟨j, h1, by rw [h8 j h1]; exact h2, by rw [hT j h1, hq]; exact h3⟩
/-- the log of a purse has at most 5 -/
theorem RC_len (h : RC G S x n0 ar L C M) (hI : MIb b c M) {i a : Nat} (hi : (C 0)[i]? = some a) : (C (i + 3)).length = lnN M i ∧ lnN M i ≤ 5 ∧ i < mP M := by
  have hl : i < mP M := by have := (List.getElem?_eq_some_iff.mp hi).1; rw [h.2.2.2.2.1.1] at this; exact this
  obtain ⟨s, n, v, -, -, e3, e4, -⟩ := hI.2.2.2.1 i hl
  have e := (h.2.2.2.2.2.1 i a hi).2.2.2.2.2.2.2.1
  have hle := (h.2.2.2.1.1 (i + 3) (by omega)).2.2.1
  have : (C (i + 3)).length = n := (nI_eq (by omega) (by omega)).mp (e.symm.trans e3)
  rw [lnN_of e3 (by omega)]
  exact ⟨this, e4, hl⟩
theorem RC_at (h : RC G S x n0 ar L C M) {i : Nat} (hi : i < mP M) : ∃ a, (C 0)[i]? = some a := get_lt (by rw [h.2.2.2.2.1.1]; exact hi)
theorem RC_mat (h : RC G S x n0 ar L C M) {i : Nat} (hi : i < mM M) : ∃ a, (C 1)[i]? = some a := get_lt (by rw [h.2.2.2.2.1.2.1]; exact hi)
theorem RC_eat (h : RC G S x n0 ar L C M) {i : Nat} (hi : i < mE M) : ∃ a, (C 2)[i]? = some a := get_lt (by rw [h.2.2.2.2.1.2.2]; exact hi)
/-- one purse has changed -/
theorem RC_pur (h : RC G S x n0 ar L C M) (hI : MIb b c M) {p a : Nat} (hp : (C 0)[p]? = some a) (hF : KF S S') (hLS : LsR G S' (mP M + 3) L C') (hC : ∀ i, i ≠ p + 3 → C' i = C i) (h3 : ∀ d, d ∈ pL S → pK S d = 3 ∨ pK S d = 1 → d ≠ a → (∀ f, pI S' f d = pI S f d) ∧ (∀ f, pO S' f d = pO S f d))
    (hP : mP M' = mP M) (hM : mM M' = mM M) (hE : mE M' = mE M) (hA : ∀ f j, (f = 0 ∨ f = 1 ∨ f = 2 ∨ f = 3 → j ≠ p) → mA M' f j = mA M f j) (hT : ∀ q, q ≠ p → ¬ (12 + 5 * p ≤ q ∧ q < 12 + 5 * p + 5) → mT M' q = mT M q) (hn : PuR S' n0 M' p a (L (p + 3)) (C' (p + 3))) : RC G S' x n0 ar L C' M' := by
  have hc := h
  obtain ⟨⟨x1, x2, x3, x4, x5⟩, ⟨y1, y2⟩, ⟨z1, z2⟩, hl, ⟨l1, l2, l3⟩, r1, r2, r3⟩ := h
  have hp12 := hI.1
  have hpl := (RC_len hc hI hp).2.2
  have N : ∀ {f j : Nat}, ¬ (f = 0 ∨ f = 1 ∨ f = 2 ∨ f = 3) → (f = 0 ∨ f = 1 ∨ f = 2 ∨ f = 3 → j ≠ p) := fun h z => absurd z h
  have O5 : ∀ f, pO S' f x = pO S f x := fun f => KF_O hF x1 (by decide) (by decide) (by decide)
  have e0 : C' 0 = C 0 := hC 0 (by omega)
  have e1 : C' 1 = C 1 := hC 1 (by omega)
  have e2 : C' 2 = C 2 := hC 2 (by omega)
  have hT8 : ∀ j, mT M' (872 + j) = mT M (872 + j) := fun j => hT _ (by omega) (by omega)
  refine ⟨⟨KF_K hF x1, (O5 6).trans x2, (O5 7).trans x3, (O5 8).trans x4, (O5 9).trans x5⟩, ⟨KF_K hF y1, (KF_tr hF y1).trans y2⟩, ⟨KF_K hF z1, (KF_O hF z1 (by decide) (by decide) (by decide)).trans z2⟩, by rw [hP]; exact hLS, by rw [hP, hM, hE, e0, e1, e2]; exact ⟨l1, l2, l3⟩, fun i d hi => ?_, fun i d hi => ?_, fun k d hk => ?_⟩
  · rw [e0] at hi
    by_cases hip : i = p
    · subst hip
      cases Option.some.inj (hp.symm.trans hi)
      exact hn
    · rw [hC (i + 3) (by omega)]
      have hr := r1 i d hi
      obtain ⟨n1, n2, n3⟩ := RC_len hc hI hi
      have hda : d ≠ a := by
        intro z; subst z
        have u1 := (r1 p d hp).2.1
        have u2 := hr.2.1
        exact hip ((nI_eq (by omega) (by omega)).mp (u2.symm.trans u1))
      obtain ⟨k1, k2⟩ := h3 d hr.1.1 (Or.inl hr.1.2) hda
      exact PuR_congr hr hF k1 k2 (fun f _ => hA f i (fun _ => hip)) (hT i hip (by omega)) (fun j hj => hT _ (by omega) (by omega))
  · rw [e1] at hi
    exact MsR_congr (r2 i d hi) hF (hA 4 i (N (by decide))) (hA 5 i (N (by decide))) (hA 6 i (N (by decide))) (hT _ (by omega) (by omega))
  · rw [e2] at hk
    have hr := r3 k d hk
    have hda : d ≠ a := isK_neK hr.1 (r1 p a hp).1 (by decide)
    obtain ⟨k1, k2⟩ := h3 d hr.1.1 (Or.inr hr.1.2) hda
    exact EnR_congr hr hF k1 k2 (hA 7 k (N (by decide))) (hT8 k) (rfd_congr hE (fun j _ => hA 8 j (N (by decide))) (fun j _ => hT8 j) (hT8 k))
/-- the place of the next message does not count -/
theorem RC_slot (h : RC G S x n0 ar L C M) (hI : MIb b c M) (hm : mM M < 800) (hP : mP M' = mP M) (hM : mM M' = mM M) (hE : mE M' = mE M) (hA : ∀ f j, (f = 6 → j ≠ mM M) → mA M' f j = mA M f j) (hT : ∀ q, q ≠ 72 + mM M → mT M' q = mT M q) : RC G S x n0 ar L C M' := by
  have hc := h
  obtain ⟨x1, y1, z1, hl, ⟨l1, l2, l3⟩, r1, r2, r3⟩ := h
  have hp12 := hI.1
  have hT8 : ∀ j, mT M' (872 + j) = mT M (872 + j) := fun j => hT _ (by omega)
  have N : ∀ {f j : Nat}, f ≠ 6 → (f = 6 → j ≠ mM M) := fun h z => absurd z h
  refine ⟨x1, y1, z1, by rw [hP]; exact hl, by rw [hP, hM, hE]; exact ⟨l1, l2, l3⟩, fun i d hi => ?_, fun i d hi => ?_, fun k d hk => ?_⟩
  · obtain ⟨n1, n2, n3⟩ := RC_len hc hI hi
    exact PuR_congr (r1 i d hi) (KF_refl S) (fun _ => rfl) (fun _ => rfl) (fun f hf => hA f i (N (by omega))) (hT i (by omega)) (fun j hj => hT _ (by omega))
  · have hi2 : i < mM M := by have := (List.getElem?_eq_some_iff.mp hi).1; omega
    exact MsR_congr (r2 i d hi) (KF_refl S) (hA 4 i (N (by decide))) (hA 5 i (N (by decide))) (hA 6 i (fun _ => by omega)) (hT _ (by omega))
  · exact EnR_congr (r3 k d hk) (KF_refl S) (fun _ => rfl) (fun _ => rfl) (hA 7 k (N (by decide))) (hT8 k) (rfd_congr hE (fun j _ => hA 8 j (N (by decide))) (fun j _ => hT8 j) (hT8 k))
/-- the state in which a message is made -/
abbrev mkMsg (S : PS) (q : Nat) (k to : Int32) (t : Nat) (x3 x4 : Int32) : PS := sI (sI (sO (sI (sI (sN S q 2 0) 2 q k) 3 q to) 2 q (some t)) 4 q x3) 5 q x4
theorem KF_msg {q t : Nat} {k to x3 x4 : Int32} (hq : q ∉ pL S) : KF S (mkMsg S q k to t x3 x4) := KF_sI (KF_sI (KF_sO (KF_sI (KF_sI (KF_new hq) (Or.inl hq)) (Or.inl hq)) (Or.inl hq)) (Or.inl hq)) (Or.inl hq)
theorem LS_msg {n q t : Nat} {k to x3 x4 : Int32} (h : LsR G S n L C) (hq : q ∉ pL S) : LsR G (mkMsg S q k to t x3 x4) n L C := LS_sI (LS_sI (LS_sO (LS_sI (LS_sI (LS_new h hq) (by decide)) (by decide)) (by decide)) (by decide)) (by decide)
/-- beside a new thing nothing of the class's has changed -/
theorem msg_old {q t d f : Nat} {k to x3 x4 : Int32} (hd : d ≠ q) : pI (mkMsg S q k to t x3 x4) f d = pI S f d ∧ pO (mkMsg S q k to t x3 x4) f d = pO S f d := by
  constructor
  · rw [pI_a hd, pI_a hd]
    show pI (sI (sI (sN S q 2 0) 2 q k) 3 q to) f d = _
    rw [pI_a hd, pI_a hd]; exact upA_a _ _ _ hd
  · show pO (sO (sI (sI (sN S q 2 0) 2 q k) 3 q to) 2 q (some t)) f d = _
    rw [pO_a hd]; exact upA_a _ _ _ hd
theorem RC_msg (h : RC G S x n0 ar L C M) (hI : MIb b c M) (hm : mM M < 800) {q t r : Nat} {k to x3 x4 : Int32} (hq : q ∉ pL S) (hG : G 0 ∉ pL (mkMsg S q k to t x3 x4)) (hAd : Added G (mkMsg S q k to t x3 x4) S' (L 1) (C 1) q) (ht : isK S 4 t) (htr : tr S t = mT M r) (h5 : k = 5 → x3 = mA M 6 (mM M)) (h6 : k = 6 → x4 = mA M 6 (mM M)) :
    RC G S' x n0 ar L (va_up C 1 (C 1 ++ [q])) (mSend M k to r) ∧ KF S S' := by
  have hc := h
  obtain ⟨⟨x1, x2, x9, x4', x5⟩, ⟨y1, y2⟩, ⟨z1, z2⟩, hl, ⟨l1, l2, l3⟩, r1, r2, r3⟩ := h
  have hp12 := hI.1
  have hL := LS_msg (k := k) (to := to) (t := t) (x3 := x3) (x4 := x4) hl hq
  have hF1 := KF_msg (S := S) (k := k) (to := to) (t := t) (x3 := x3) (x4 := x4) hq
  have hF2 := KF_Fr hAd.2 (hL.1 1 (by omega)).1
  have hF := KF_trans hF1 hF2
  have I : ∀ f d, isK S 1 d ∨ isK S 3 d → pI S' f d = pI S f d ∧ pO S' f d = pO S f d := by
    intro f d hd
    have hm1 : ∃ kk, (kk = 1 ∨ kk = 3) ∧ isK S kk d := by rcases hd with hd | hd; exact ⟨1, Or.inl rfl, hd⟩; exact ⟨3, Or.inr rfl, hd⟩
    obtain ⟨kk, hk0, hd⟩ := hm1
    have hdq := isK_ne hd hq
    have hdl : d ≠ L 1 := isK_neK hd (hl.1 1 (by omega)).1 (by omega)
    obtain ⟨g1, g2⟩ := (hAd.2.1 d (List.mem_append_left _ hd.1)).2.2.2.2.1 hdl
    exact ⟨(g1 f).trans (msg_old hdq).1, (g2 f).trans (msg_old hdq).2⟩
  have O5 : ∀ f, pO S' f x = pO S f x := fun f => KF_O hF x1 (by decide) (by decide) (by decide)
  have hTo : ∀ j, j ≠ 72 + mM M → mT (mSend M k to r) j = mT M j := fun j hj => mSend_T hj
  have e0 : va_up C 1 (C 1 ++ [q]) 0 = C 0 := va_up_ne _ _ (by decide)
  have e1 : va_up C 1 (C 1 ++ [q]) 1 = C 1 ++ [q] := va_up_self _ _ _
  have e2 : va_up C 1 (C 1 ++ [q]) 2 = C 2 := va_up_ne _ _ (by decide)
  have e3 : ∀ i, va_up C 1 (C 1 ++ [q]) (i + 3) = C (i + 3) := fun i => va_up_ne _ _ (by omega)
  refine ⟨⟨⟨KF_K hF x1, (O5 6).trans x2, (O5 7).trans x9, (O5 8).trans x4', (O5 9).trans x5⟩, ⟨KF_K hF y1, (KF_tr hF y1).trans y2⟩, ⟨KF_K hF z1, (KF_O hF z1 (by decide) (by decide) (by decide)).trans z2⟩, LS_chg hL (show 1 < mP M + 3 by omega) hAd.1 hAd.2 hG, ?_, fun i d hi => ?_, fun i d hi => ?_, fun k' d hk => ?_⟩, hF⟩
  · rw [e0, e1, e2]; exact ⟨l1, by simp [l2]; rfl, l3⟩
  · rw [e0] at hi
    rw [e3]
    obtain ⟨n1, n2, n3⟩ := RC_len hc hI hi
    have hr := r1 i d hi
    exact PuR_congr hr hF (fun f => (I f d (Or.inr hr.1)).1) (fun f => (I f d (Or.inr hr.1)).2) (fun f hf => mSend_A (Or.inl (by omega))) (hTo i (by omega)) (fun j hj => hTo _ (by omega))
  · rw [e1] at hi
    have hlen := (List.getElem?_eq_some_iff.mp hi).1
    rw [get_app hlen] at hi
    by_cases hil : i < (C 1).length
    · rw [if_pos hil] at hi
      exact MsR_congr (r2 i d hi) hF (mSend_A (Or.inr (by omega))) (mSend_A (Or.inr (by omega))) (mSend_A (Or.inr (by omega))) (hTo _ (by omega))
    · rw [if_neg hil] at hi
      cases Option.some.inj hi
      have hie : i = mM M := by simp at hlen; omega
      subst hie
      have hqm : q ∈ pL (mkMsg S q k to t x3 x4) := List.mem_append_right _ (List.mem_singleton.mpr rfl)
      have hqk : isK (mkMsg S q k to t x3 x4) 2 q := isK_new (S := S) (k := 2) (n := 0)
      have hql : q ≠ L 1 := isK_neK hqk (hL.1 1 (by omega)).1 (by decide)
      obtain ⟨g1, g2⟩ := (hAd.2.1 q hqm).2.2.2.2.1 hql
      refine ⟨Fr_K hAd.2 hqk, ?_, ?_, ⟨t, ?_, KF_K hF ht, ?_⟩, ?_, ?_⟩
      · rw [g1, mSend_4, pI_f (by decide), pI_f (by decide)]
        show pI (sI (sI (sN S q 2 0) 2 q k) 3 q to) 2 q = _
        rw [pI_f (by decide), pI_s]
      · rw [g1, mSend_5, pI_f (by decide), pI_f (by decide)]
        show pI (sI (sI (sN S q 2 0) 2 q k) 3 q to) 3 q = _
        rw [pI_s]
      · rw [g2]; exact pO_s (S := sI (sI (sN S q 2 0) 2 q k) 3 q to)
      · rw [KF_tr hF ht, mSend_Ts]; exact htr
      · rw [mSend_4, mSend_A (Or.inl (by decide)), g1, pI_f (by decide), pI_s]; exact h5
      · rw [mSend_4, mSend_A (Or.inl (by decide)), g1, pI_s]; exact h6
  · rw [e2] at hk
    have hr := r3 k' d hk
    exact EnR_congr hr hF (fun f => (I f d (Or.inl hr.1)).1) (fun f => (I f d (Or.inl hr.1)).2) (mSend_A (Or.inl (by decide))) (hTo _ (by omega)) (rfd_congr rfl (fun j _ => mSend_A (Or.inl (by decide))) (fun j _ => hTo _ (by omega)) (hTo _ (by omega)))
end ROWS9
end REP
