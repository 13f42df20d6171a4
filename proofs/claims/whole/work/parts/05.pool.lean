/-! THE POOL: all objects and arrays of class and reference in one record of functions. Kinds: 0 Archive, 1 Entry, 2 Message, 3 Purse, 4 Transfer, 5 PurseWorld, 6 the reference, 7 ArrayList, 8 int[], 9 boolean[], else Object[]. -/
section POOL
/-- addresses; kinds; lengths of arrays; int fields by number; reference fields by number; int rows; reference rows -/
abbrev PS : Type := List Nat × (Nat → Nat) × (Nat → Nat) × (Nat → Nat → Int32) × (Nat → Nat → Option Nat) × (Nat → Nat → Int32) × (Nat → Nat → Option Nat)
abbrev pL (S : PS) : List Nat := S.1
abbrev pK (S : PS) : Nat → Nat := S.2.1
abbrev pN (S : PS) : Nat → Nat := S.2.2.1
abbrev pI (S : PS) : Nat → Nat → Int32 := S.2.2.2.1
abbrev pO (S : PS) : Nat → Nat → Option Nat := S.2.2.2.2.1
abbrev pR (S : PS) : Nat → Nat → Int32 := S.2.2.2.2.2.1
abbrev pQ (S : PS) : Nat → Nat → Option Nat := S.2.2.2.2.2.2
def up2 {α : Type} (f : Nat → Nat → α) (i a : Nat) (v : α) : Nat → Nat → α := fun j b => if j = i ∧ b = a then v else f j b
def upA {α : Type} (f : Nat → Nat → α) (a : Nat) (v : α) : Nat → Nat → α := fun j b => if b = a then v else f j b
theorem up2_s {α : Type} (f : Nat → Nat → α) (i a : Nat) (v : α) : up2 f i a v i a = v := by simp [up2]
theorem up2_f {α : Type} (f : Nat → Nat → α) {i j : Nat} (a b : Nat) (v : α) (h : j ≠ i) : up2 f i a v j b = f j b := by simp [up2, h]
theorem up2_a {α : Type} (f : Nat → Nat → α) (i j : Nat) {a b : Nat} (v : α) (h : b ≠ a) : up2 f i a v j b = f j b := by simp [up2, h]
theorem upA_s {α : Type} (f : Nat → Nat → α) (i a : Nat) (v : α) : upA f a v i a = v := by simp [upA]
theorem upA_a {α : Type} (f : Nat → Nat → α) (i : Nat) {a b : Nat} (v : α) (h : b ≠ a) : upA f a v i b = f i b := by simp [upA, h]
abbrev sI (S : PS) (f a : Nat) (v : Int32) : PS := (pL S, pK S, pN S, up2 (pI S) f a v, pO S, pR S, pQ S)
abbrev sO (S : PS) (f a : Nat) (v : Option Nat) : PS := (pL S, pK S, pN S, pI S, up2 (pO S) f a v, pR S, pQ S)
abbrev sR (S : PS) (a j : Nat) (v : Int32) : PS := (pL S, pK S, pN S, pI S, pO S, up2 (pR S) a j v, pQ S)
abbrev sQ (S : PS) (a j : Nat) (v : Option Nat) : PS := (pL S, pK S, pN S, pI S, pO S, pR S, up2 (pQ S) a j v)
/-- a whole reference row anew -/
abbrev sQQ (S : PS) (a : Nat) (g : Nat → Option Nat) : PS := (pL S, pK S, pN S, pI S, pO S, pR S, va_up (pQ S) a g)
/-- a new thing at a, of kind k (and length n), all of it 0 or null -/
abbrev sN (S : PS) (a k n : Nat) : PS := (pL S ++ [a], va_up (pK S) a k, va_up (pN S) a n, upA (pI S) a 0, upA (pO S) a none, va_up (pR S) a (fun _ => 0), va_up (pQ S) a (fun _ => none))
/-- what stands at a -/
def pE (cI cZ cO : ClassId) (S : PS) (k a : Nat) : va_E := match k with
  | 0 => .inr (1, [va_rf (pO S 0 a)])
  | 1 => .inr (2, [.int (pI S 0 a), va_rf (pO S 1 a), .int (pI S 1 a)])
  | 2 => .inr (3, [.int (pI S 2 a), .int (pI S 3 a), va_rf (pO S 2 a), .int (pI S 4 a), .int (pI S 5 a)])
  | 3 => .inr (4, [.int (pI S 6 a), va_rf (pO S 3 a), va_rf (pO S 4 a), .int (pI S 7 a), .int (pI S 8 a), .int (pI S 9 a), va_rf (pO S 5 a)])
  | 4 => .inr (5, [.int (pI S 10 a), .int (pI S 11 a), .int (pI S 12 a), .int (pI S 13 a), .int (pI S 14 a)])
  | 5 => .inr (6, [va_rf (pO S 6 a), va_rf (pO S 7 a), va_rf (pO S 8 a), va_rf (pO S 9 a)])
  | 6 => .inr (7, [.int (pI S 15 a), .int (pI S 16 a), va_rf (pO S 10 a), va_rf (pO S 11 a), va_rf (pO S 12 a), va_rf (pO S 13 a), .int (pI S 17 a), va_rf (pO S 14 a), va_rf (pO S 15 a), va_rf (pO S 16 a), .int (pI S 18 a), va_rf (pO S 17 a), va_rf (pO S 18 a), va_rf (pO S 19 a)])
  | 7 => .inr (0, [.int (pI S 19 a), va_rf (pO S 20 a), .int (pI S 20 a)])
  | 8 => .inl (cI, pN S a, .inl (pR S a))
  | 9 => .inl (cZ, pN S a, .inl (pR S a))
  | _ => .inl (cO, pN S a, .inr (.inr (.inr (.inr (pQ S a)))))
def pF (cI cZ cO : ClassId) (S : PS) : Nat → va_E := fun a => pE cI cZ cO S (pK S a) a
theorem pE_congr {cI cZ cO : ClassId} {S S' : PS} {k b : Nat} (hI : ∀ f, pI S' f b = pI S f b) (hO : ∀ f, pO S' f b = pO S f b) (hN : pN S' b = pN S b) (hR : pR S' b = pR S b) (hQ : pQ S' b = pQ S b) : pE cI cZ cO S' k b = pE cI cZ cO S k b := by
  unfold pE
  split <;> simp only [hI, hO, hN, hR, hQ]
/-- a of kind k is in the pool -/
def isK (S : PS) (k a : Nat) : Prop := a ∈ pL S ∧ pK S a = k
/-- the int field f stands at place pos of the objects of kind k, class number ci -/
def fIok (k ci pos f : Nat) : Prop := ∀ (cI cZ cO : ClassId) (S : PS) (a : Nat), pK S a = k → ∃ fs : List Value, pF cI cZ cO S a = .inr (ci, fs) ∧ fs[pos]? = some (.int (pI S f a)) ∧ pos < fs.length ∧
  ∀ (v : Int32) (b : Nat), va_up (pF cI cZ cO S) a (.inr (ci, fs.set pos (.int v))) b = pF cI cZ cO (sI S f a v) b
def fOok (k ci pos f : Nat) : Prop := ∀ (cI cZ cO : ClassId) (S : PS) (a : Nat), pK S a = k → ∃ fs : List Value, pF cI cZ cO S a = .inr (ci, fs) ∧ fs[pos]? = some (va_rf (pO S f a)) ∧ pos < fs.length ∧
  ∀ (v : Option Nat) (b : Nat), va_up (pF cI cZ cO S) a (.inr (ci, fs.set pos (va_rf v))) b = pF cI cZ cO (sO S f a v) b
theorem up2_row {α : Type} (f : Nat → Nat → α) {i a b : Nat} (v : α) (h : b ≠ i) : up2 f i a v b = f b := by funext j; simp [up2, h]
theorem pF_sI {cI cZ cO : ClassId} {S : PS} {f a b : Nat} {v : Int32} (h : b ≠ a) : pF cI cZ cO (sI S f a v) b = pF cI cZ cO S b :=
  pE_congr (fun g => up2_a _ _ _ _ h) (fun _ => rfl) rfl rfl rfl
theorem pF_sO {cI cZ cO : ClassId} {S : PS} {f a b : Nat} {v : Option Nat} (h : b ≠ a) : pF cI cZ cO (sO S f a v) b = pF cI cZ cO S b :=
  pE_congr (fun _ => rfl) (fun g => up2_a _ _ _ _ h) rfl rfl rfl
theorem fI_mk {k ci pos f : Nat} (fs : (cI cZ cO : ClassId) → PS → Nat → List Value) (h1 : ∀ cI cZ cO S a, pE cI cZ cO S k a = .inr (ci, fs cI cZ cO S a)) (h2 : ∀ cI cZ cO S a, (fs cI cZ cO S a)[pos]? = some (.int (pI S f a)))
    (h3 : ∀ cI cZ cO S a, pos < (fs cI cZ cO S a).length) (h4 : ∀ cI cZ cO S a v, fs cI cZ cO (sI S f a v) a = (fs cI cZ cO S a).set pos (.int v)) : fIok k ci pos f := by
  intro cI cZ cO S a h
  refine ⟨fs cI cZ cO S a, by unfold pF; rw [h]; exact h1 .., h2 .., h3 .., fun v b => ?_⟩
  by_cases hb : b = a
  · subst hb
    rw [va_up_self]
    show _ = pE cI cZ cO (sI S f b v) (pK S b) b
    rw [h, h1, h4]
  · rw [va_up_ne _ _ hb, pF_sI hb]
theorem fO_mk {k ci pos f : Nat} (fs : (cI cZ cO : ClassId) → PS → Nat → List Value) (h1 : ∀ cI cZ cO S a, pE cI cZ cO S k a = .inr (ci, fs cI cZ cO S a)) (h2 : ∀ cI cZ cO S a, (fs cI cZ cO S a)[pos]? = some (va_rf (pO S f a)))
    (h3 : ∀ cI cZ cO S a, pos < (fs cI cZ cO S a).length) (h4 : ∀ cI cZ cO S a v, fs cI cZ cO (sO S f a v) a = (fs cI cZ cO S a).set pos (va_rf v)) : fOok k ci pos f := by
  intro cI cZ cO S a h
  refine ⟨fs cI cZ cO S a, by unfold pF; rw [h]; exact h1 .., h2 .., h3 .., fun v b => ?_⟩
  by_cases hb : b = a
  · subst hb
    rw [va_up_self]
    show _ = pE cI cZ cO (sO S f b v) (pK S b) b
    rw [h, h1, h4]
  · rw [va_up_ne _ _ hb, pF_sO hb]
def es0 (_ _ _ : ClassId) (S : PS) (a : Nat) : List Value := [va_rf (pO S 0 a)]
def es1 (_ _ _ : ClassId) (S : PS) (a : Nat) : List Value := [.int (pI S 0 a), va_rf (pO S 1 a), .int (pI S 1 a)]
def es2 (_ _ _ : ClassId) (S : PS) (a : Nat) : List Value := [.int (pI S 2 a), .int (pI S 3 a), va_rf (pO S 2 a), .int (pI S 4 a), .int (pI S 5 a)]
def es3 (_ _ _ : ClassId) (S : PS) (a : Nat) : List Value := [.int (pI S 6 a), va_rf (pO S 3 a), va_rf (pO S 4 a), .int (pI S 7 a), .int (pI S 8 a), .int (pI S 9 a), va_rf (pO S 5 a)]
def es4 (_ _ _ : ClassId) (S : PS) (a : Nat) : List Value := [.int (pI S 10 a), .int (pI S 11 a), .int (pI S 12 a), .int (pI S 13 a), .int (pI S 14 a)]
def es5 (_ _ _ : ClassId) (S : PS) (a : Nat) : List Value := [va_rf (pO S 6 a), va_rf (pO S 7 a), va_rf (pO S 8 a), va_rf (pO S 9 a)]
def es6 (_ _ _ : ClassId) (S : PS) (a : Nat) : List Value := [.int (pI S 15 a), .int (pI S 16 a), va_rf (pO S 10 a), va_rf (pO S 11 a), va_rf (pO S 12 a), va_rf (pO S 13 a), .int (pI S 17 a), va_rf (pO S 14 a), va_rf (pO S 15 a), va_rf (pO S 16 a), .int (pI S 18 a), va_rf (pO S 17 a), va_rf (pO S 18 a), va_rf (pO S 19 a)]
def es7 (_ _ _ : ClassId) (S : PS) (a : Nat) : List Value := [.int (pI S 19 a), va_rf (pO S 20 a), .int (pI S 20 a)]
theorem fO0 : fOok 0 1 0 0 := fO_mk es0 (fun _ _ _ _ _ => rfl) (fun _ _ _ _ _ => rfl) (fun _ _ _ _ _ => by simp [es0]) (fun _ _ _ _ _ _ => by simp [es0, up2, pI, pO, sI, sO])
theorem fI0 : fIok 1 2 0 0 := fI_mk es1 (fun _ _ _ _ _ => rfl) (fun _ _ _ _ _ => rfl) (fun _ _ _ _ _ => by simp [es1]) (fun _ _ _ _ _ _ => by simp [es1, up2, pI, pO, sI, sO])
theorem fO1 : fOok 1 2 1 1 := fO_mk es1 (fun _ _ _ _ _ => rfl) (fun _ _ _ _ _ => rfl) (fun _ _ _ _ _ => by simp [es1]) (fun _ _ _ _ _ _ => by simp [es1, up2, pI, pO, sI, sO])
theorem fI1 : fIok 1 2 2 1 := fI_mk es1 (fun _ _ _ _ _ => rfl) (fun _ _ _ _ _ => rfl) (fun _ _ _ _ _ => by simp [es1]) (fun _ _ _ _ _ _ => by simp [es1, up2, pI, pO, sI, sO])
theorem fI2 : fIok 2 3 0 2 := fI_mk es2 (fun _ _ _ _ _ => rfl) (fun _ _ _ _ _ => rfl) (fun _ _ _ _ _ => by simp [es2]) (fun _ _ _ _ _ _ => by simp [es2, up2, pI, pO, sI, sO])
theorem fI3 : fIok 2 3 1 3 := fI_mk es2 (fun _ _ _ _ _ => rfl) (fun _ _ _ _ _ => rfl) (fun _ _ _ _ _ => by simp [es2]) (fun _ _ _ _ _ _ => by simp [es2, up2, pI, pO, sI, sO])
theorem fO2 : fOok 2 3 2 2 := fO_mk es2 (fun _ _ _ _ _ => rfl) (fun _ _ _ _ _ => rfl) (fun _ _ _ _ _ => by simp [es2]) (fun _ _ _ _ _ _ => by simp [es2, up2, pI, pO, sI, sO])
theorem fI4 : fIok 2 3 3 4 := fI_mk es2 (fun _ _ _ _ _ => rfl) (fun _ _ _ _ _ => rfl) (fun _ _ _ _ _ => by simp [es2]) (fun _ _ _ _ _ _ => by simp [es2, up2, pI, pO, sI, sO])
theorem fI5 : fIok 2 3 4 5 := fI_mk es2 (fun _ _ _ _ _ => rfl) (fun _ _ _ _ _ => rfl) (fun _ _ _ _ _ => by simp [es2]) (fun _ _ _ _ _ _ => by simp [es2, up2, pI, pO, sI, sO])
theorem fI6 : fIok 3 4 0 6 := fI_mk es3 (fun _ _ _ _ _ => rfl) (fun _ _ _ _ _ => rfl) (fun _ _ _ _ _ => by simp [es3]) (fun _ _ _ _ _ _ => by simp [es3, up2, pI, pO, sI, sO])
theorem fO3 : fOok 3 4 1 3 := fO_mk es3 (fun _ _ _ _ _ => rfl) (fun _ _ _ _ _ => rfl) (fun _ _ _ _ _ => by simp [es3]) (fun _ _ _ _ _ _ => by simp [es3, up2, pI, pO, sI, sO])
theorem fO4 : fOok 3 4 2 4 := fO_mk es3 (fun _ _ _ _ _ => rfl) (fun _ _ _ _ _ => rfl) (fun _ _ _ _ _ => by simp [es3]) (fun _ _ _ _ _ _ => by simp [es3, up2, pI, pO, sI, sO])
theorem fI7 : fIok 3 4 3 7 := fI_mk es3 (fun _ _ _ _ _ => rfl) (fun _ _ _ _ _ => rfl) (fun _ _ _ _ _ => by simp [es3]) (fun _ _ _ _ _ _ => by simp [es3, up2, pI, pO, sI, sO])
theorem fI8 : fIok 3 4 4 8 := fI_mk es3 (fun _ _ _ _ _ => rfl) (fun _ _ _ _ _ => rfl) (fun _ _ _ _ _ => by simp [es3]) (fun _ _ _ _ _ _ => by simp [es3, up2, pI, pO, sI, sO])
theorem fI9 : fIok 3 4 5 9 := fI_mk es3 (fun _ _ _ _ _ => rfl) (fun _ _ _ _ _ => rfl) (fun _ _ _ _ _ => by simp [es3]) (fun _ _ _ _ _ _ => by simp [es3, up2, pI, pO, sI, sO])
theorem fO5 : fOok 3 4 6 5 := fO_mk es3 (fun _ _ _ _ _ => rfl) (fun _ _ _ _ _ => rfl) (fun _ _ _ _ _ => by simp [es3]) (fun _ _ _ _ _ _ => by simp [es3, up2, pI, pO, sI, sO])
theorem fI10 : fIok 4 5 0 10 := fI_mk es4 (fun _ _ _ _ _ => rfl) (fun _ _ _ _ _ => rfl) (fun _ _ _ _ _ => by simp [es4]) (fun _ _ _ _ _ _ => by simp [es4, up2, pI, pO, sI, sO])
theorem fI11 : fIok 4 5 1 11 := fI_mk es4 (fun _ _ _ _ _ => rfl) (fun _ _ _ _ _ => rfl) (fun _ _ _ _ _ => by simp [es4]) (fun _ _ _ _ _ _ => by simp [es4, up2, pI, pO, sI, sO])
theorem fI12 : fIok 4 5 2 12 := fI_mk es4 (fun _ _ _ _ _ => rfl) (fun _ _ _ _ _ => rfl) (fun _ _ _ _ _ => by simp [es4]) (fun _ _ _ _ _ _ => by simp [es4, up2, pI, pO, sI, sO])
theorem fI13 : fIok 4 5 3 13 := fI_mk es4 (fun _ _ _ _ _ => rfl) (fun _ _ _ _ _ => rfl) (fun _ _ _ _ _ => by simp [es4]) (fun _ _ _ _ _ _ => by simp [es4, up2, pI, pO, sI, sO])
theorem fI14 : fIok 4 5 4 14 := fI_mk es4 (fun _ _ _ _ _ => rfl) (fun _ _ _ _ _ => rfl) (fun _ _ _ _ _ => by simp [es4]) (fun _ _ _ _ _ _ => by simp [es4, up2, pI, pO, sI, sO])
theorem fO6 : fOok 5 6 0 6 := fO_mk es5 (fun _ _ _ _ _ => rfl) (fun _ _ _ _ _ => rfl) (fun _ _ _ _ _ => by simp [es5]) (fun _ _ _ _ _ _ => by simp [es5, up2, pI, pO, sI, sO])
theorem fO7 : fOok 5 6 1 7 := fO_mk es5 (fun _ _ _ _ _ => rfl) (fun _ _ _ _ _ => rfl) (fun _ _ _ _ _ => by simp [es5]) (fun _ _ _ _ _ _ => by simp [es5, up2, pI, pO, sI, sO])
theorem fO8 : fOok 5 6 2 8 := fO_mk es5 (fun _ _ _ _ _ => rfl) (fun _ _ _ _ _ => rfl) (fun _ _ _ _ _ => by simp [es5]) (fun _ _ _ _ _ _ => by simp [es5, up2, pI, pO, sI, sO])
theorem fO9 : fOok 5 6 3 9 := fO_mk es5 (fun _ _ _ _ _ => rfl) (fun _ _ _ _ _ => rfl) (fun _ _ _ _ _ => by simp [es5]) (fun _ _ _ _ _ _ => by simp [es5, up2, pI, pO, sI, sO])
theorem fI15 : fIok 6 7 0 15 := fI_mk es6 (fun _ _ _ _ _ => rfl) (fun _ _ _ _ _ => rfl) (fun _ _ _ _ _ => by simp [es6]) (fun _ _ _ _ _ _ => by simp [es6, up2, pI, pO, sI, sO])
theorem fI16 : fIok 6 7 1 16 := fI_mk es6 (fun _ _ _ _ _ => rfl) (fun _ _ _ _ _ => rfl) (fun _ _ _ _ _ => by simp [es6]) (fun _ _ _ _ _ _ => by simp [es6, up2, pI, pO, sI, sO])
theorem fO10 : fOok 6 7 2 10 := fO_mk es6 (fun _ _ _ _ _ => rfl) (fun _ _ _ _ _ => rfl) (fun _ _ _ _ _ => by simp [es6]) (fun _ _ _ _ _ _ => by simp [es6, up2, pI, pO, sI, sO])
theorem fO11 : fOok 6 7 3 11 := fO_mk es6 (fun _ _ _ _ _ => rfl) (fun _ _ _ _ _ => rfl) (fun _ _ _ _ _ => by simp [es6]) (fun _ _ _ _ _ _ => by simp [es6, up2, pI, pO, sI, sO])
theorem fO12 : fOok 6 7 4 12 := fO_mk es6 (fun _ _ _ _ _ => rfl) (fun _ _ _ _ _ => rfl) (fun _ _ _ _ _ => by simp [es6]) (fun _ _ _ _ _ _ => by simp [es6, up2, pI, pO, sI, sO])
theorem fO13 : fOok 6 7 5 13 := fO_mk es6 (fun _ _ _ _ _ => rfl) (fun _ _ _ _ _ => rfl) (fun _ _ _ _ _ => by simp [es6]) (fun _ _ _ _ _ _ => by simp [es6, up2, pI, pO, sI, sO])
theorem fI17 : fIok 6 7 6 17 := fI_mk es6 (fun _ _ _ _ _ => rfl) (fun _ _ _ _ _ => rfl) (fun _ _ _ _ _ => by simp [es6]) (fun _ _ _ _ _ _ => by simp [es6, up2, pI, pO, sI, sO])
theorem fO14 : fOok 6 7 7 14 := fO_mk es6 (fun _ _ _ _ _ => rfl) (fun _ _ _ _ _ => rfl) (fun _ _ _ _ _ => by simp [es6]) (fun _ _ _ _ _ _ => by simp [es6, up2, pI, pO, sI, sO])
theorem fO15 : fOok 6 7 8 15 := fO_mk es6 (fun _ _ _ _ _ => rfl) (fun _ _ _ _ _ => rfl) (fun _ _ _ _ _ => by simp [es6]) (fun _ _ _ _ _ _ => by simp [es6, up2, pI, pO, sI, sO])
theorem fO16 : fOok 6 7 9 16 := fO_mk es6 (fun _ _ _ _ _ => rfl) (fun _ _ _ _ _ => rfl) (fun _ _ _ _ _ => by simp [es6]) (fun _ _ _ _ _ _ => by simp [es6, up2, pI, pO, sI, sO])
theorem fI18 : fIok 6 7 10 18 := fI_mk es6 (fun _ _ _ _ _ => rfl) (fun _ _ _ _ _ => rfl) (fun _ _ _ _ _ => by simp [es6]) (fun _ _ _ _ _ _ => by simp [es6, up2, pI, pO, sI, sO])
theorem fO17 : fOok 6 7 11 17 := fO_mk es6 (fun _ _ _ _ _ => rfl) (fun _ _ _ _ _ => rfl) (fun _ _ _ _ _ => by simp [es6]) (fun _ _ _ _ _ _ => by simp [es6, up2, pI, pO, sI, sO])
theorem fO18 : fOok 6 7 12 18 := fO_mk es6 (fun _ _ _ _ _ => rfl) (fun _ _ _ _ _ => rfl) (fun _ _ _ _ _ => by simp [es6]) (fun _ _ _ _ _ _ => by simp [es6, up2, pI, pO, sI, sO])
theorem fO19 : fOok 6 7 13 19 := fO_mk es6 (fun _ _ _ _ _ => rfl) (fun _ _ _ _ _ => rfl) (fun _ _ _ _ _ => by simp [es6]) (fun _ _ _ _ _ _ => by simp [es6, up2, pI, pO, sI, sO])
theorem fI19 : fIok 7 0 0 19 := fI_mk es7 (fun _ _ _ _ _ => rfl) (fun _ _ _ _ _ => rfl) (fun _ _ _ _ _ => by simp [es7]) (fun _ _ _ _ _ _ => by simp [es7, up2, pI, pO, sI, sO])
theorem fO20 : fOok 7 0 1 20 := fO_mk es7 (fun _ _ _ _ _ => rfl) (fun _ _ _ _ _ => rfl) (fun _ _ _ _ _ => by simp [es7]) (fun _ _ _ _ _ _ => by simp [es7, up2, pI, pO, sI, sO])
theorem fI20 : fIok 7 0 2 20 := fI_mk es7 (fun _ _ _ _ _ => rfl) (fun _ _ _ _ _ => rfl) (fun _ _ _ _ _ => by simp [es7]) (fun _ _ _ _ _ _ => by simp [es7, up2, pI, pO, sI, sO])
end POOL
