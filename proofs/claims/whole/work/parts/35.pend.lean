/-! WHAT IS PENDING: the class counts what is logged and not archived, and the archive; the reference the logs, and what is archived and not logged. -/
section PEND
theorem sum_congr {f g : Nat → Int64} {n : Nat} (h : ∀ i, i < n → f i = g i) : sumTo f n = sumTo g n := by
  induction n with
  | zero => rfl
  | succ n ih => rw [sum_s, sum_s, ih (fun i hi => h i (by omega)), h n (by omega)]
theorem sum_add {f g : Nat → Int64} {n : Nat} : sumTo (fun i => f i + g i) n = sumTo f n + sumTo g n := by
  induction n with
  | zero => rfl
  | succ n ih => rw [sum_s, sum_s, sum_s, ih]; rw [Int64.add_assoc, Int64.add_assoc, ← Int64.add_assoc (sumTo g n), ← Int64.add_assoc (f n), Int64.add_comm (sumTo g n)]
theorem sum_z {f : Nat → Int64} {n : Nat} (h : ∀ i, i < n → f i = 0) : sumTo f n = 0 := by
  induction n with
  | zero => rfl
  | succ n ih => rw [sum_s, ih (fun i hi => h i (by omega)), h n (by omega)]; rfl
theorem sum_one {f : Nat → Int64} {n i0 : Nat} {v : Int64} (hi : i0 < n) (hv : f i0 = v) (h : ∀ i, i < n → i ≠ i0 → f i = 0) : sumTo f n = v := by
  induction n with
  | zero => omega
  | succ n ih =>
    rw [sum_s]
    by_cases hn : i0 = n
    · subst hn
      rw [sum_z (fun i hi => h i (by omega) (by omega)), hv, Int64.zero_add]
    · rw [ih (by omega) (fun i hi hne => h i (by omega) hne), h n (by omega) (fun z => hn z.symm), Int64.add_zero]
theorem sum_swap {f : Nat → Nat → Int64} {n m : Nat} : sumTo (fun i => sumTo (fun j => f i j) m) n = sumTo (fun j => sumTo (fun i => f i j) n) m := by
  induction n with
  | zero => exact (sum_z (fun _ _ => rfl)).symm
  | succ n ih =>
    rw [sum_s, ih, ← sum_add]
    exact sum_congr (fun j _ => rfl)
/-- as the class tells it -/
def awt (M : MS) (q : Nat) : Int64 := if (wts M (ixN (part 2 (mT M q))) 2 q || inLg M (ixN (part 2 (mT M q))) q || kpt M (part 2 (mT M q)) q (mE M)) = true ∧ rfd M q = false then (part 4 (mT M q)).toInt64 else 0
def cpnP (M : MS) (p : Nat) : Int64 := (if mA M 2 p = 3 then awt M p else 0) + sumTo (fun j => if part 0 (mT M (12 + 5 * p + j)) = nI p ∧ kpt M (nI p) (12 + 5 * p + j) (mE M) = false then awt M (12 + 5 * p + j) else 0) (lnN M p)
def cpnE (M : MS) (k : Nat) : Int64 := if mA M 7 k = part 0 (mT M (872 + k)) then awt M (872 + k) else 0
def cpn (M : MS) : Int64 := sumTo (cpnP M) (mP M) + sumTo (cpnE M) (mE M)
theorem amtO_T {M : MS} {q r : Nat} {x : Int32} (h : mT M q = mT M r) : amtO M q x = amtO M r x := by
  unfold amtO rfd hld inLg kpt
  rw [h]
theorem amt_awt {c : Nat} {M : MS} {q : Nat} {x : Int32} (hI : MI c M) (ht : tOk (mP M) (mT M q)) : amtO M q x = if part 0 (mT M q) = x then awt M q else 0 := by
  have hp12 := hI.1
  obtain ⟨a, b, ha, hb, hab, ea, eb⟩ := ht
  have e2 := ix_of eb (by omega)
  by_cases h : part 0 (mT M q) = x
  · rw [if_pos h]
    unfold amtO awt
    rw [e2, eb]
    have key : hld M b q = (wts M b 2 q || inLg M b q || kpt M (nI b) q (mE M)) := by
      unfold hld wts
      have : (decide (2 ≤ mA M 2 b) && decide (mT M b = mT M q)) = decide (mA M 2 b = 2 ∧ mT M b = mT M q) := by
        by_cases hT : mT M b = mT M q
        · obtain ⟨s, n, v, es, hs3, en, hn5, ev, hv1, hvb, hcur, hlog, hdis⟩ := hI.2.2.2.1 b hb
          rw [es]
          by_cases hs : s = 2
          · subst hs; simp [hT]; decide
          · have hn2 : ¬ nI s = 2 := fun z => hs ((nI_eq (b := 2) (by omega) (by decide)).mp z)
            have hn3 : ¬ (2 : Int32) ≤ nI s := by
              intro z
              have hs2 : 2 ≤ s := (nI_leI (a := 2) (b := s) (by decide) (by omega)).mp z
              have hs3' : s = 3 := by omega
              have k0 := (hcur (by omega)).2.2.2.1 (by omega)
              rw [hT, ea] at k0
              exact hab ((nI_eq (by omega) (by omega)).mp k0)
            simp [hn2, hn3]
        · simp [hT]
      rw [this]
    rw [key]
    by_cases hr : rfd M q = false
    · by_cases hw : (wts M b 2 q || inLg M b q || kpt M (nI b) q (mE M)) = true
      · rw [if_pos ⟨h, hr, hw⟩, if_pos ⟨hw, hr⟩]
      · rw [if_neg (fun z => hw z.2.2), if_neg (fun z => hw z.1)]
    · rw [if_neg (fun z => hr z.2.1), if_neg (fun z => hr z.2)]
  · rw [if_neg h]
    unfold amtO
    rw [if_neg (fun z => h z.1)]
/-- what purse p has logged at j and the archive holds as its entry k -/
def wpjk (M : MS) (p j k : Nat) : Int64 := if mA M 7 k = nI p ∧ mT M (872 + k) = mT M (12 + 5 * p + j) then amtO M (12 + 5 * p + j) (nI p) else 0
theorem w_k {c : Nat} {M : MS} {p j : Nat} (hI : MI c M) : sumTo (fun k => wpjk M p j k) (mE M) = if kpt M (nI p) (12 + 5 * p + j) (mE M) = true then amtO M (12 + 5 * p + j) (nI p) else 0 := by
  by_cases h : kpt M (nI p) (12 + 5 * p + j) (mE M) = true
  · rw [if_pos h]
    obtain ⟨k0, h1, h2, h3⟩ := kpt_iff.mp h
    refine sum_one h1 (by unfold wpjk; rw [if_pos ⟨h2, h3⟩]) (fun k hk hne => ?_)
    unfold wpjk
    rw [if_neg]
    rintro ⟨g1, g2⟩
    exact hne (hI.2.2.2.2.2.2.2 k k0 hk h1 (g1.trans h2.symm) (g2.trans h3.symm))
  · rw [if_neg h]
    refine sum_z (fun k hk => ?_)
    unfold wpjk
    rw [if_neg]
    rintro ⟨g1, g2⟩
    exact h (kpt_iff.mpr ⟨k, hk, g1, g2⟩)
theorem w_pj {c : Nat} {M : MS} {k : Nat} (hI : MI c M) (hc : c < 512) (hk : k < mE M) : sumTo (fun p => sumTo (fun j => wpjk M p j k) (lnN M p)) (mP M) = if inLg M (ixN (mA M 7 k)) (872 + k) = true then amtO M (872 + k) (mA M 7 k) else 0 := by
  have hp12 := hI.1
  obtain ⟨-, ⟨te, h1, h2, -⟩, -⟩ := hI.2.2.2.2.2.2.1 k hk
  have e := ix_of h2 (by omega)
  rw [e, h2]
  refine sum_one h1 ?_ (fun p hp hne => sum_z (fun j _ => ?_))
  · obtain ⟨s, n, v, es, hs3, en, hn5, ev, hv1, hvb, hcur, hlog, hdis⟩ := hI.2.2.2.1 te h1
    have hln := lnN_of en (by omega)
    by_cases h : inLg M te (872 + k) = true
    · rw [if_pos h]
      have h' := h
      unfold inLg at h'
      simp only [List.any_eq_true, List.mem_range, decide_eq_true_eq] at h'
      obtain ⟨j0, g1, g2⟩ := h'
      refine sum_one g1 ?_ (fun j hj hne => ?_)
      · unfold wpjk; rw [if_pos ⟨h2, g2.symm⟩]; exact amtO_T g2
      · unfold wpjk
        rw [if_neg]
        rintro ⟨-, g3⟩
        exact hne (hdis j j0 (by omega) (by omega) (g3.symm.trans g2.symm))
    · rw [if_neg h]
      refine sum_z (fun j hj => ?_)
      unfold wpjk
      rw [if_neg]
      rintro ⟨-, g3⟩
      refine h ?_
      unfold inLg
      simp only [List.any_eq_true, List.mem_range, decide_eq_true_eq]
      exact ⟨j, hj, g3.symm⟩
  · unfold wpjk
    rw [if_neg]
    rintro ⟨g1, -⟩
    exact hne ((nI_eq (by omega) (by omega)).mp (g1.symm.trans h2))
theorem ite_split (b : Bool) (v : Int64) : v = (if b = true then v else 0) + (if b = true then 0 else v) := by
  cases b
  · show v = 0 + v; rw [Int64.zero_add]
  · show v = v + 0; rw [Int64.add_zero]
theorem pend_eq {c : Nat} {M : MS} (hI : MI c M) (hc : c < 512) : cpn M = pndO M := by
  have hp12 := hI.1
  -- the logs
  have hP : ∀ p, p < mP M → pndP M p = cpnP M p + sumTo (fun j => if kpt M (nI p) (12 + 5 * p + j) (mE M) = true then amtO M (12 + 5 * p + j) (nI p) else 0) (lnN M p) := by
    intro p hp
    obtain ⟨s, n, v, es, hs3, en, hn5, ev, hv1, hvb, hcur, hlog, hdis⟩ := hI.2.2.2.1 p hp
    have hln := lnN_of en (by omega)
    unfold pndP cpnP
    have e1 : (if mA M 2 p = 3 then amtO M p (nI p) else 0) = if mA M 2 p = 3 then awt M p else 0 := by
      by_cases h : mA M 2 p = 3
      · rw [if_pos h, if_pos h]
        have hs : s = 3 := (nI_eq (b := 3) (by omega) (by decide)).mp (es.symm.trans h)
        obtain ⟨-, t1, -, t2, -⟩ := hcur (by omega)
        rw [amt_awt hI t1, if_pos (t2 (by omega))]
      · rw [if_neg h, if_neg h]
    rw [e1, Int64.add_assoc, ← sum_add]
    congr 1
    refine sum_congr (fun j hj => ?_)
    rw [amt_awt hI (hlog j (by omega)).1]
    by_cases h0 : part 0 (mT M (12 + 5 * p + j)) = nI p
    · rw [if_pos h0]
      by_cases hk : kpt M (nI p) (12 + 5 * p + j) (mE M) = true
      · rw [if_neg (fun z => by rw [hk] at z; exact nomatch z.2), if_pos hk, Int64.zero_add]
      · rw [if_pos ⟨h0, by simpa using hk⟩, if_neg hk, Int64.add_zero]
    · rw [if_neg h0, if_neg (fun z => h0 z.1)]
      split <;> rfl
  have hE : ∀ k, k < mE M → cpnE M k = pndE M k + (if inLg M (ixN (mA M 7 k)) (872 + k) = true then amtO M (872 + k) (mA M 7 k) else 0) := by
    intro k hk
    unfold cpnE pndE
    have e1 := amt_awt (x := mA M 7 k) hI (hI.2.2.2.2.2.2.1 k hk).1
    rw [show (if mA M 7 k = part 0 (mT M (872 + k)) then awt M (872 + k) else 0) = amtO M (872 + k) (mA M 7 k) by
      rw [e1]
      by_cases h : part 0 (mT M (872 + k)) = mA M 7 k
      · rw [if_pos h, if_pos h.symm]
      · rw [if_neg h, if_neg (fun z => h z.symm)]]
    rw [Int64.add_comm]
    exact ite_split _ _
  unfold cpn pndO
  rw [sum_congr hP, sum_congr hE, sum_add, sum_add]
  have key : sumTo (fun p => sumTo (fun j => if kpt M (nI p) (12 + 5 * p + j) (mE M) = true then amtO M (12 + 5 * p + j) (nI p) else 0) (lnN M p)) (mP M) = sumTo (fun k => if inLg M (ixN (mA M 7 k)) (872 + k) = true then amtO M (872 + k) (mA M 7 k) else 0) (mE M) := by
    rw [sum_congr (f := fun p => sumTo (fun j => if kpt M (nI p) (12 + 5 * p + j) (mE M) = true then amtO M (12 + 5 * p + j) (nI p) else 0) (lnN M p)) (g := fun p => sumTo (fun k => sumTo (fun j => wpjk M p j k) (lnN M p)) (mE M)) (fun p _ => by
      rw [← sum_swap (f := fun j k => wpjk M p j k)]
      exact sum_congr (fun j _ => (w_k hI).symm))]
    rw [sum_swap (f := fun p k => sumTo (fun j => wpjk M p j k) (lnN M p))]
    exact sum_congr (fun k hk => w_pj hI hc hk)
  rw [key]
  rw [Int64.add_assoc, Int64.add_comm (sumTo (fun k => if inLg M (ixN (mA M 7 k)) (872 + k) = true then amtO M (872 + k) (mA M 7 k) else 0) (mE M))]
end PEND
