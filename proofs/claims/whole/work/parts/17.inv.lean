/-! THE INVARIANT OF THE MODEL, AND THE CALLS AS FUNCTIONS OF IT. -/
section MODELINV
def tOk (n : Nat) (t : T5) : Prop := ∃ a b, a < n ∧ b < n ∧ a ≠ b ∧ part 0 t = nI a ∧ part 2 t = nI b
/-- the serial of p in t -/
def ownS (p : Nat) (t : T5) : Int32 := if part 0 t = nI p then part 1 t else part 3 t
def side (p : Nat) (t : T5) : Prop := part 0 t = nI p ∨ part 2 t = nI p
def pOk (b : Nat) (M : MS) (p : Nat) : Prop := ∃ s n v, mA M 2 p = nI s ∧ s ≤ 3 ∧ mA M 3 p = nI n ∧ n ≤ 5 ∧ mA M 1 p = nI v ∧ 1 ≤ v ∧ v ≤ b ∧
  (s ≠ 0 → n ≤ 4 ∧ tOk (mP M) (mT M p) ∧ (s = 2 → part 2 (mT M p) = nI p) ∧ (s ≠ 2 → part 0 (mT M p) = nI p) ∧ ownS p (mT M p) = nI (v - 1) ∧ 2 ≤ v) ∧
  (∀ j, j < n → tOk (mP M) (mT M (12 + 5 * p + j)) ∧ side p (mT M (12 + 5 * p + j)) ∧ ∃ w, ownS p (mT M (12 + 5 * p + j)) = nI w ∧ w + (if s = 0 then 0 else 1) < v) ∧
  (∀ j k, j < n → k < n → mT M (12 + 5 * p + j) = mT M (12 + 5 * p + k) → j = k)
def gOk (M : MS) (i : Nat) : Prop := ∃ kd, mA M 4 i = nI kd ∧ kd ≤ 6 ∧
  (kd < 5 → tOk (mP M) (mT M (72 + i)) ∧ ∃ to, to < mP M ∧ mA M 5 i = nI to ∧ (kd = 0 → part 0 (mT M (72 + i)) = nI to) ∧ (kd = 1 → part 2 (mT M (72 + i)) = nI to)) ∧
  (kd = 5 → tOk (mP M) (mT M (72 + i)) ∧ ∃ te, te < mP M ∧ mA M 6 i = nI te ∧ side te (mT M (72 + i))) ∧
  (kd = 6 → (∃ to, to < mP M ∧ mA M 5 i = nI to) ∧ ∃ k, k ≤ mE M ∧ mA M 6 i = nI k)
def eOk (M : MS) (k : Nat) : Prop := tOk (mP M) (mT M (872 + k)) ∧ (∃ te, te < mP M ∧ mA M 7 k = nI te ∧ side te (mT M (872 + k))) ∧
  (¬ mA M 8 k = 0 → kpt M (part 0 (mT M (872 + k))) (872 + k) (mE M) = true ∧ kpt M (part 2 (mT M (872 + k))) (872 + k) (mE M) = true)
/-- serials at most b, entries at most c -/
def MIb (b c : Nat) (M : MS) : Prop := mP M ≤ 12 ∧ mM M ≤ 800 ∧ mE M ≤ c ∧ (∀ p, p < mP M → pOk b M p) ∧ (∀ p, mP M ≤ p → p < 12 → mA M 2 p = 0 ∧ mA M 3 p = 0) ∧
  (∀ i, i < mM M → gOk M i) ∧ (∀ k, k < mE M → eOk M k) ∧ (∀ j k, j < mE M → k < mE M → mA M 7 j = mA M 7 k → mT M (872 + j) = mT M (872 + k) → j = k)
/-- after c calls -/
def MI (c : Nat) (M : MS) : Prop := MIb (2 * c + 1) c M
theorem MI_p {c : Nat} {M : MS} (h : MI c M) : mP M ≤ 12 := h.1
theorem MI_m {c : Nat} {M : MS} (h : MI c M) : mM M ≤ 800 := h.2.1
theorem MI_e {c : Nat} {M : MS} (h : MI c M) : mE M ≤ c := h.2.2.1
theorem MI_ln {c : Nat} {M : MS} (h : MI c M) {p : Nat} (hp : p < mP M) : mA M 3 p = nI (lnN M p) ∧ lnN M p ≤ 5 := by
  obtain ⟨s, n, v, _, _, h3, h4, _⟩ := h.2.2.2.1 p hp
  rw [lnN_of h3 (by omega)]
  exact ⟨h3, h4⟩
/-- x is a number below n -/
abbrev inR (x : Int32) (n : Nat) : Prop := 0 ≤ x.toInt ∧ x.toInt < n
abbrev ixN (x : Int32) : Nat := x.toNatClampNeg
theorem inR_nI {x : Int32} {n : Nat} (h : inR x n) (hn : n < 2 ^ 31) : ∃ k, k < n ∧ x = nI k := by
  refine ⟨x.toInt.toNat, by have := h.1; have := h.2; omega, ?_⟩
  rw [← Int32.toInt_inj, nI_toInt (by have := h.1; have := h.2; omega)]
  have := h.1; omega
theorem inR_of {k n : Nat} (h : k < n) (hn : n < 2 ^ 31) : inR (nI k) n := by
  unfold inR; rw [nI_toInt (by omega)]; omega
/-- code, answer, state -/
abbrev OR : Type := Nat × Int32 × MS
def oPurse (M : MS) (x : Int32) : OR := if ¬ (0 ≤ x ∧ x ≤ 1000000000) then (1, 0, M) else if mP M = 12 then (2, 0, M) else (0, nI (mP M), (mP M + 1, mM M, mE M, up2 (up2 (mA M) 0 (mP M) x) 1 (mP M) 1, mT M))
def mBeg (M : MS) (x y z : Int32) : MS := mSend (sT M (72 + mM M) (x, 0, y, mA M 1 (ixN y), z)) 0 x (72 + mM M)
def mBegin (M : MS) (x y z : Int32) : MS := mSend (sT (mBeg M x y z) (72 + (mM M + 1)) (x, mA M 1 (ixN x), y, 0, z)) 1 y (72 + (mM M + 1))
def oBegin (M : MS) (x y z : Int32) : OR := if ¬ (inR x (mP M) ∧ inR y (mP M)) then (1, 0, M) else if x = y ∨ ¬ (1 ≤ z ∧ z ≤ 1000000) then (2, 0, M) else if 800 < mM M + 2 then (3, 0, M) else (0, nI (mM M), mBegin M x y z)
def answers (M : MS) (i : Nat) : Bool := decide (mA M 4 i = 1) || (decide (mA M 4 i = 2) && wts M (ixN (mA M 5 i)) 1 (72 + i)) || (decide (mA M 4 i = 3) && wts M (ixN (mA M 5 i)) 2 (72 + i))
def mDel (M : MS) (i : Nat) : MS × Bool := if mA M 4 i = 0 then mTakes M (ixN (mA M 5 i)) (72 + i) true else if mA M 4 i = 1 then mTakes M (ixN (mA M 5 i)) (72 + i) false
  else if mA M 4 i = 2 then (if wts M (ixN (mA M 5 i)) 1 (72 + i) then mAsk M (ixN (mA M 5 i)) (72 + i) else M, wts M (ixN (mA M 5 i)) 1 (72 + i))
  else if mA M 4 i = 3 then (if wts M (ixN (mA M 5 i)) 2 (72 + i) then mVal M (ixN (mA M 5 i)) (72 + i) else M, wts M (ixN (mA M 5 i)) 2 (72 + i))
  else if mA M 4 i = 4 then (if wts M (ixN (mA M 5 i)) 3 (72 + i) then mThk M (ixN (mA M 5 i)) else M, wts M (ixN (mA M 5 i)) 3 (72 + i))
  else if mA M 4 i = 5 then (if kpt M (mA M 6 i) (72 + i) (mE M) then M else mRec M i, !kpt M (mA M 6 i) (72 + i) (mE M))
  else (if clr M (ixN (mA M 5 i)) (ixN (mA M 6 i)) (lnN M (ixN (mA M 5 i))) then sA M 3 (ixN (mA M 5 i)) 0 else M, clr M (ixN (mA M 5 i)) (ixN (mA M 6 i)) (lnN M (ixN (mA M 5 i))))
def oDeliver (M : MS) (x : Int32) : OR := if ¬ inR x (mM M) then (1, 0, M) else if answers M (ixN x) = true ∧ mM M = 800 then (2, 0, M) else (0, bI (mDel M (ixN x)).2, (mDel M (ixN x)).1)
def oAbort (M : MS) (x : Int32) : OR := if ¬ inR x (mP M) then (1, 0, M) else (0, mA M 2 (ixN x), mEnd M (ixN x))
def mRead (M : MS) (p : Nat) : Nat → MS
  | 0 => M
  | k + 1 => mSend (sA (mRead M p k) 6 (mM (mRead M p k)) (nI p)) 5 (-1) (12 + 5 * p + k)
def oReadLog (M : MS) (x : Int32) : OR := if ¬ inR x (mP M) then (1, 0, M) else if ¬ mA M 2 (ixN x) = 0 then (2, 0, M) else if 800 < mM M + lnN M (ixN x) then (3, 0, M) else (0, mA M 3 (ixN x), mRead M (ixN x) (lnN M (ixN x)))
def oAuth (M : MS) (x : Int32) : OR := if ¬ inR x (mP M) then (1, 0, M) else if ¬ (List.range (mE M)).any (fun j => decide (mA M 7 j = x)) = true then (2, 0, M) else if mM M = 800 then (3, 0, M) else (0, nI (mM M), mSend (sA (sT M (72 + mM M) (-1, -1, -1, -1, -1)) 6 (mM M) (nI (mE M))) 6 x (72 + mM M))
/-- the archive has what is at q as refunded -/
def rfd (M : MS) (q : Nat) : Bool := (List.range (mE M)).any (fun j => decide (¬ mA M 8 j = 0 ∧ mT M (872 + j) = mT M q))
def mPay (M : MS) (k : Nat) : MS := sA (sA M 8 k 1) 0 (ixN (part 0 (mT M (872 + k)))) (mA M 0 (ixN (part 0 (mT M (872 + k)))) + part 4 (mT M (872 + k)))
def oRefund (M : MS) (x : Int32) : OR := if ¬ inR x (mE M) then (1, 0, M) else if ¬ ((kpt M (part 0 (mT M (872 + ixN x))) (872 + ixN x) (mE M) = true ∧ kpt M (part 2 (mT M (872 + ixN x))) (872 + ixN x) (mE M) = true) ∧ rfd M (872 + ixN x) = false) then (2, 0, M)
  else (0, mA M 0 (ixN (part 0 (mT M (872 + ixN x)))) + part 4 (mT M (872 + ixN x)), mPay M (ixN x))
def oTold (M : MS) (x w : Int32) : OR := if ¬ inR x (mP M) then (1, 0, M) else if ¬ (0 ≤ w ∧ w ≤ 3) then (2, 0, M) else (0, if w = 0 then mA M 0 (ixN x) else if w = 1 then mA M 1 (ixN x) else if w = 2 then mA M 2 (ixN x) else mA M 3 (ixN x), M)
def oTransfer (M : MS) (x w : Int32) : OR := if ¬ inR x (mP M) then (1, 0, M) else if ¬ (0 ≤ w ∧ w ≤ 4) then (2, 0, M) else (0, if mA M 2 (ixN x) = 0 then -1 else part (ixN w) (mT M (ixN x)), M)
def oLog (M : MS) (x i w : Int32) : OR := if ¬ inR x (mP M) then (1, 0, M) else if ¬ inR i (lnN M (ixN x)) then (1, 0, M) else if ¬ (0 ≤ w ∧ w ≤ 4) then (2, 0, M) else (0, part (ixN w) (mT M (12 + 5 * ixN x + ixN i)), M)
def oMessage (M : MS) (x w : Int32) : OR := if ¬ inR x (mM M) then (1, 0, M) else if ¬ (0 ≤ w ∧ w ≤ 6) then (2, 0, M) else (0, if ¬ 5 ≤ w then part (ixN w) (mT M (72 + ixN x)) else if w = 5 then mA M 4 (ixN x) else mA M 5 (ixN x), M)
def oEntry (M : MS) (x w : Int32) : OR := if ¬ inR x (mE M) then (1, 0, M) else if ¬ (0 ≤ w ∧ w ≤ 6) then (2, 0, M) else (0, if ¬ 5 ≤ w then part (ixN w) (mT M (872 + ixN x)) else if w = 5 then mA M 7 (ixN x) else bI (rfd M (872 + ixN x)), M)
/-- what the reference's call leaves -/
def rP (S : PS) (m : Nat) (A : Nat → Nat) (o : OR) (r : Int32) (S' : PS) : Prop := RX S S' m A o.2.2 ∧ pI S' 15 m = nI o.1 ∧ (o.1 = 0 → r = o.2.1)
theorem rP_no {S S' : PS} {m : Nat} {A : Nat → Nat} {o : OR} {M : MS} {r y : Int32} {c : Nat} (ho : o = (c + 1, y, M)) (hX : RX S S' m A M) (hc : pI S' 15 m = nI (c + 1)) : rP S m A o r S' := by
  subst ho; exact ⟨hX, hc, fun h => absurd h (Nat.succ_ne_zero _)⟩
theorem rP_yes {S S' : PS} {m : Nat} {A : Nat → Nat} {o : OR} {M : MS} {r : Int32} (ho : o = (0, r, M)) (hX : RX S S' m A M) (hc : pI S' 15 m = 0) : rP S m A o r S' := by
  subst ho; exact ⟨hX, hc, fun _ => rfl⟩
section DELS
variable {M : MS} {i p : Nat}
theorem answers_1 (hk : mA M 4 i = 1) : answers M i = true := by unfold answers; rw [decide_eq_true hk]; rfl
theorem answers_2 (hk : mA M 4 i = 2) (hto : ixN (mA M 5 i) = p) : answers M i = wts M p 1 (72 + i) := by
  subst hto; unfold answers; rw [hk]; simp
theorem answers_3 (hk : mA M 4 i = 3) (hto : ixN (mA M 5 i) = p) : answers M i = wts M p 2 (72 + i) := by
  subst hto; unfold answers; rw [hk]; simp
theorem answers_0 (h1 : ¬ mA M 4 i = 1) (h2 : ¬ mA M 4 i = 2) (h3 : ¬ mA M 4 i = 3) : answers M i = false := by
  unfold answers; simp [h1, h2, h3]
theorem mDel_0 (hk : mA M 4 i = 0) (hto : ixN (mA M 5 i) = p) : mDel M i = mTakes M p (72 + i) true := by subst hto; unfold mDel; rw [if_pos hk]
theorem mDel_1 (hk : mA M 4 i = 1) (hto : ixN (mA M 5 i) = p) : mDel M i = mTakes M p (72 + i) false := by subst hto; unfold mDel; rw [if_neg (by rw [hk]; decide), if_pos hk]
theorem mDel_2 (hk : mA M 4 i = 2) (hto : ixN (mA M 5 i) = p) : mDel M i = (if wts M p 1 (72 + i) then mAsk M p (72 + i) else M, wts M p 1 (72 + i)) := by subst hto; unfold mDel; rw [if_neg (by rw [hk]; decide), if_neg (by rw [hk]; decide), if_pos hk]
theorem mDel_3 (hk : mA M 4 i = 3) (hto : ixN (mA M 5 i) = p) : mDel M i = (if wts M p 2 (72 + i) then mVal M p (72 + i) else M, wts M p 2 (72 + i)) := by subst hto; unfold mDel; rw [if_neg (by rw [hk]; decide), if_neg (by rw [hk]; decide), if_neg (by rw [hk]; decide), if_pos hk]
theorem mDel_4 (hk : mA M 4 i = 4) (hto : ixN (mA M 5 i) = p) : mDel M i = (if wts M p 3 (72 + i) then mThk M p else M, wts M p 3 (72 + i)) := by subst hto; unfold mDel; rw [if_neg (by rw [hk]; decide), if_neg (by rw [hk]; decide), if_neg (by rw [hk]; decide), if_neg (by rw [hk]; decide), if_pos hk]
theorem mDel_5 (hk : mA M 4 i = 5) : mDel M i = (if kpt M (mA M 6 i) (72 + i) (mE M) then M else mRec M i, !kpt M (mA M 6 i) (72 + i) (mE M)) := by unfold mDel; rw [if_neg (by rw [hk]; decide), if_neg (by rw [hk]; decide), if_neg (by rw [hk]; decide), if_neg (by rw [hk]; decide), if_neg (by rw [hk]; decide), if_pos hk]
theorem mDel_6 {k : Nat} (hk : mA M 4 i = 6) (hto : ixN (mA M 5 i) = p) (hof : ixN (mA M 6 i) = k) : mDel M i = (if clr M p k (lnN M p) then sA M 3 p 0 else M, clr M p k (lnN M p)) := by subst hto; subst hof; unfold mDel; rw [if_neg (by rw [hk]; decide), if_neg (by rw [hk]; decide), if_neg (by rw [hk]; decide), if_neg (by rw [hk]; decide), if_neg (by rw [hk]; decide), if_neg (by rw [hk]; decide)]
end DELS
theorem ix_of {x : Int32} {k : Nat} (h : x = nI k) (hk : k < 2 ^ 31) : ixN x = k := by rw [h]; exact nI_clamp hk
def inLg (M : MS) (p q : Nat) : Bool := (List.range (lnN M p)).any (fun j => decide (mT M (12 + 5 * p + j) = mT M q))
def hld (M : MS) (p q : Nat) : Bool := (decide (2 ≤ mA M 2 p) && decide (mT M p = mT M q)) || inLg M p q || kpt M (nI p) q (mE M)
def amtO (M : MS) (q : Nat) (x : Int32) : Int64 := if part 0 (mT M q) = x ∧ rfd M q = false ∧ hld M (ixN (part 2 (mT M q))) q = true then (part 4 (mT M q)).toInt64 else 0
def sumTo (f : Nat → Int64) : Nat → Int64
  | 0 => 0
  | n + 1 => sumTo f n + f n
theorem sum_s {f : Nat → Int64} {n : Nat} : sumTo f (n + 1) = sumTo f n + f n := rfl
theorem sum_0 {f : Nat → Int64} : sumTo f 0 = 0 := rfl
def pndP (M : MS) (p : Nat) : Int64 := (if mA M 2 p = 3 then amtO M p (nI p) else 0) + sumTo (fun k => amtO M (12 + 5 * p + k) (nI p)) (lnN M p)
def pndE (M : MS) (k : Nat) : Int64 := if inLg M (ixN (mA M 7 k)) (872 + k) = true then 0 else amtO M (872 + k) (mA M 7 k)
def balO (M : MS) : Int64 := sumTo (fun p => (mA M 0 p).toInt64) (mP M)
def pndO (M : MS) : Int64 := sumTo (pndP M) (mP M) + sumTo (pndE M) (mE M)
end MODELINV

