/-! ArrayList: what a list holds, and its methods. -/
section LISTS
theorem isK_new {S : PS} {q k n : Nat} : isK (sN S q k n) k q := ⟨List.mem_append_right _ (List.mem_singleton.mpr rfl), va_up_self _ _ _⟩
theorem isK_old {S : PS} {q k n j a : Nat} (h : isK S j a) (hq : q ∉ pL S) : isK (sN S q k n) j a := ⟨List.mem_append_left _ h.1, (va_up_ne (pK S) k (show a ≠ q from fun z => hq (z ▸ h.1))).trans h.2⟩
theorem isOb_old {S : PS} {q k n a : Nat} (h : isOb S a) (hq : q ∉ pL S) : isOb (sN S q k n) a := let ⟨j, hj, h1⟩ := h; ⟨j, hj, isK_old h1 hq⟩
theorem isK_ne {S : PS} {q k a : Nat} (h : isK S k a) (hq : q ∉ pL S) : a ≠ q := fun z => hq (z ▸ h.1)
theorem pI_f {S : PS} {f g a b : Nat} {v : Int32} (h : g ≠ f) : pI (sI S f a v) g b = pI S g b := up2_f _ _ _ _ h
theorem pI_s {S : PS} {f a : Nat} {v : Int32} : pI (sI S f a v) f a = v := up2_s _ _ _ _
theorem pI_a {S : PS} {f g a b : Nat} {v : Int32} (h : b ≠ a) : pI (sI S f a v) g b = pI S g b := up2_a _ _ _ _ h
theorem pO_f {S : PS} {f g a b : Nat} {v : Option Nat} (h : g ≠ f) : pO (sO S f a v) g b = pO S g b := up2_f _ _ _ _ h
theorem pO_s {S : PS} {f a : Nat} {v : Option Nat} : pO (sO S f a v) f a = v := up2_s _ _ _ _
theorem pO_a {S : PS} {f g a b : Nat} {v : Option Nat} (h : b ≠ a) : pO (sO S f a v) g b = pO S g b := up2_a _ _ _ _ h
theorem zmax {a b : Nat} (ha : a < 2 ^ 31) (hb : b < 2 ^ 31) : (if nI a < nI b then nI b else nI a) = nI (max a b) := by
  by_cases h : a < b
  · rw [if_pos ((nI_ltI ha hb).mpr h), Nat.max_eq_right (Nat.le_of_lt h)]
  · rw [if_neg (fun q => h ((nI_ltI ha hb).mp q)), Nat.max_eq_left (Nat.not_lt.mp h)]
theorem zmin {a b : Nat} (ha : a < 2 ^ 31) (hb : b < 2 ^ 31) (h : a ≤ b) : (if nI b < nI a then nI b else nI a) = nI a := by
  rw [if_neg (fun q => by have := (nI_ltI hb ha).mp q; omega)]
theorem zbig {n : Nat} (h : n ≤ 100000) : ¬ (2147483639 : Int32) < nI n := by
  rw [Int32.lt_iff_toInt_lt, nI_toInt (by omega), show (2147483639 : Int32).toInt = 2147483639 from by decide]; omega
/-- the list at a holds the addresses xs -/
def AL (G : Nat → Nat) (S : PS) (a : Nat) (xs : List Nat) : Prop := isK S 7 a ∧ pI S 20 a = nI xs.length ∧ xs.length ≤ 1000 ∧ (∀ x ∈ xs, isOb S x) ∧
  ∃ d, pO S 20 a = some d ∧ ((d = G 0 ∧ xs = []) ∨ (isK S 10 d ∧ 0 < pN S d ∧ pN S d ≤ 1500 ∧ xs.length ≤ pN S d ∧ ∀ i, i < xs.length → pQ S d i = xs[i]?))
/-- all but the list a, and the row behind it, is as it was; nothing but arrays is new -/
def Fr (S S' : PS) (a : Nat) : Prop := (∀ b ∈ pL S, b ∈ pL S' ∧ pK S' b = pK S b ∧ pN S' b = pN S b ∧ pR S' b = pR S b ∧ (b ≠ a → (∀ f, pI S' f b = pI S f b) ∧ (∀ f, pO S' f b = pO S f b)) ∧ (pO S 20 a ≠ some b → pQ S' b = pQ S b)) ∧
  (∀ d, pO S' 20 a = some d → pO S 20 a = some d ∨ d ∉ pL S) ∧ (∀ b ∈ pL S', b ∈ pL S ∨ pK S' b = 10)
def Added (G : Nat → Nat) (S S' : PS) (a : Nat) (xs : List Nat) (v : Nat) : Prop := AL G S' a (xs ++ [v]) ∧ Fr S S' a
theorem isOb_K {S S' : PS} {b : Nat} (hL : ∀ b ∈ pL S, b ∈ pL S' ∧ pK S' b = pK S b) (h : isOb S b) : isOb S' b := let ⟨k, hk, h1, h2⟩ := h; ⟨k, hk, (hL b h1).1, (hL b h1).2.trans h2⟩
theorem get_app {xs : List Nat} {v i : Nat} (h : i < (xs ++ [v]).length) : (xs ++ [v])[i]? = if i < xs.length then xs[i]? else some v := by
  by_cases hi : i < xs.length
  · rw [if_pos hi, List.getElem?_append_left hi]
  · simp only [List.length_append, List.length_cons, List.length_nil] at h
    rw [if_neg hi, List.getElem?_append_right (Nat.not_lt.mp hi), show i - xs.length = 0 by omega]; rfl
/-- the row had room -/
theorem added_plain {G : Nat → Nat} {S : PS} {a d v : Nat} {xs : List Nat} {z : Int32} (ha : isK S 7 a) (hz : z = nI (xs.length + 1)) (hle : xs.length < 1000) (hob : ∀ x ∈ xs, isOb S x) (hv : isOb S v) (hd : pO S 20 a = some d) (hd10 : isK S 10 d) (hcap : pN S d ≤ 1500) (hn : xs.length < pN S d) (hq : ∀ i, i < xs.length → pQ S d i = xs[i]?) :
    Added G S (sI (sQ S d xs.length (some v)) 20 a z) a xs v := by
  refine ⟨⟨ha, ?_, by simp; omega, ?_, d, hd, Or.inr ⟨hd10, Nat.lt_of_le_of_lt (Nat.zero_le _) hn, hcap, by simp; exact hn, ?_⟩⟩, ?_, fun d' h => Or.inl h, fun b hb => Or.inl hb⟩
  · simp only [List.length_append, List.length_cons, List.length_nil]
    exact (up2_s _ _ _ _).trans hz
  · intro x hx
    rcases List.mem_append.mp hx with h | h
    · exact hob x h
    · rw [List.mem_singleton] at h; rw [h]; exact hv
  · intro i hi
    rw [get_app hi]
    show up2 (pQ S) d xs.length (some v) d i = _
    by_cases h : i < xs.length
    · rw [if_pos h, up2_a _ _ _ _ (Nat.ne_of_lt h)]; exact hq i h
    · simp only [List.length_append, List.length_cons, List.length_nil] at hi
      rw [if_neg h, show i = xs.length by omega]; exact up2_s _ _ _ _
  · intro b hb
    refine ⟨hb, rfl, rfl, rfl, fun hba => ⟨fun f => up2_a _ _ _ _ hba, fun f => rfl⟩, fun hbd => ?_⟩
    exact up2_row _ _ (fun z => hbd (z ▸ hd))
/-- a new row, longer by some, took the old one's place -/
theorem added_grow {G : Nat → Nat} {S : PS} {a d v q k : Nat} {g : Nat → Option Nat} {xs : List Nat} {z : Int32} (ha : isK S 7 a) (hz : z = nI (xs.length + 1)) (hle : xs.length < 1000) (hob : ∀ x ∈ xs, isOb S x) (hv : isOb S v) (hd : pO S 20 a = some d) (hq : q ∉ pL S) (hk : xs.length < k) (hk2 : k ≤ 1500) (hg : ∀ i, i < xs.length → g i = xs[i]?) :
    Added G S (sI (sQ (sO (sQQ (sN S q 10 k) q g) 20 a (some q)) q xs.length (some v)) 20 a z) a xs v := by
  have hne : ∀ b ∈ pL S, b ≠ q := fun b hb z => hq (z ▸ hb)
  have hL : ∀ b ∈ pL S, b ∈ pL (sN S q 10 k) ∧ pK (sN S q 10 k) b = pK S b := fun b hb => ⟨List.mem_append_left _ hb, va_up_ne _ _ (hne b hb)⟩
  refine ⟨⟨isK_old (n := k) (k := 10) ha hq, ?_, by simp; omega, ?_, q, up2_s _ _ _ _, Or.inr ⟨isK_new (S := S) (q := q) (k := 10) (n := k), ?_, ?_, ?_, ?_⟩⟩, ?_, ?_, ?_⟩
  · simp only [List.length_append, List.length_cons, List.length_nil]
    exact (up2_s _ _ _ _).trans hz
  · intro x hx
    rcases List.mem_append.mp hx with h | h
    · exact isOb_K (S' := sN S q 10 k) hL (hob x h)
    · rw [List.mem_singleton] at h; rw [h]; exact isOb_K (S' := sN S q 10 k) hL hv
  · show 0 < va_up (pN S) q k q; rw [va_up_self]; omega
  · show va_up (pN S) q k q ≤ 1500; rw [va_up_self]; exact hk2
  · show _ ≤ va_up (pN S) q k q; rw [va_up_self]; simp; exact hk
  · intro i hi
    rw [get_app hi]
    show up2 (va_up (va_up (pQ S) q (fun _ => none)) q g) q xs.length (some v) q i = _
    by_cases h : i < xs.length
    · rw [if_pos h, up2_a _ _ _ _ (Nat.ne_of_lt h), va_up_self]; exact hg i h
    · simp only [List.length_append, List.length_cons, List.length_nil] at hi
      rw [if_neg h, show i = xs.length by omega]; exact up2_s _ _ _ _
  · intro b hb
    refine ⟨(hL b hb).1, (hL b hb).2, va_up_ne _ _ (hne b hb), va_up_ne _ _ (hne b hb), fun hba => ⟨fun f => ?_, fun f => ?_⟩, fun _ => ?_⟩
    · show up2 (upA (pI S) q 0) 20 a z f b = _
      rw [up2_a _ _ _ _ hba, upA_a _ _ _ (hne b hb)]
    · show up2 (upA (pO S) q none) 20 a (some q) f b = _
      rw [up2_a _ _ _ _ hba, upA_a _ _ _ (hne b hb)]
    · show up2 (va_up (va_up (pQ S) q (fun _ => none)) q g) q xs.length (some v) b = _
      rw [up2_row _ _ (hne b hb), va_up_ne _ _ (hne b hb), va_up_ne _ _ (hne b hb)]
  · intro d' h
    have h' : up2 (upA (pO S) q none) 20 a (some q) 20 a = some d' := h
    rw [up2_s] at h'
    cases h'
    exact Or.inr hq
  · intro b hb
    rcases List.mem_append.mp hb with h | h
    · exact Or.inl h
    · rw [List.mem_singleton] at h; rw [h]; exact Or.inr (va_up_self _ _ _)
theorem added_mod {G : Nat → Nat} {S S' : PS} {a v : Nat} {x : Int32} {xs : List Nat} (h : Added G (sI S 19 a x) S' a xs v) : Added G S S' a xs v := by
  obtain ⟨h1, h2, h3, h4⟩ := h
  refine ⟨h1, fun b hb => ?_, h3, h4⟩
  obtain ⟨g1, g2, g3, g4, g5, g6⟩ := h2 b hb
  exact ⟨g1, g2, g3, g4, fun hba => ⟨fun f => ((g5 hba).1 f).trans (up2_a _ _ _ _ hba), (g5 hba).2⟩, g6⟩
theorem nI_ltof {a b : Nat} (h : ¬ nI b ≤ nI a) (ha : a < 2 ^ 31) : a < b := Nat.lt_of_not_ge (fun g => h (nI_le g ha))
theorem nI_geof {a b : Nat} (h : nI b ≤ nI a) (hb : b < 2 ^ 31) (ha : a < 2 ^ 31) : b ≤ a := (nI_leI hb ha).mp h
theorem AL_row {G : Nat → Nat} {S : PS} {a d i : Nat} {xs : List Nat} (h : AL G S a xs) (hd : pO S 20 a = some d) (hi : i < xs.length) : isK S 10 d ∧ 0 < pN S d ∧ pN S d ≤ 1500 ∧ xs.length ≤ pN S d ∧ ∀ i, i < xs.length → pQ S d i = xs[i]? := by
  obtain ⟨-, -, -, -, d', hd', hcase⟩ := h
  cases Option.some.inj (hd.symm.trans hd')
  rcases hcase with ⟨-, rfl⟩ | h
  · exact absurd hi (Nat.not_lt_zero _)
  · exact h
/-- a new object beside a list leaves it as it was -/
theorem AL_new {G : Nat → Nat} {S : PS} {a q k n : Nat} {xs : List Nat} (h : AL G S a xs) (hq : q ∉ pL S) : AL G (sN S q k n) a xs := by
  obtain ⟨h1, h2, h3, h4, d, hd, hc⟩ := h
  have hne := isK_ne h1 hq
  refine ⟨isK_old h1 hq, (upA_a _ _ _ hne).trans h2, h3, fun x hx => isOb_old (h4 x hx) hq, d, (upA_a _ _ _ hne).trans hd, ?_⟩
  rcases hc with h | ⟨g1, g2, g3, g4, g5⟩
  · exact Or.inl h
  · have hnd := isK_ne g1 hq
    have hN : pN (sN S q k n) d = pN S d := va_up_ne _ _ hnd
    refine Or.inr ⟨isK_old g1 hq, by rw [hN]; exact g2, by rw [hN]; exact g3, by rw [hN]; exact g4, fun i hi => ?_⟩
    rw [show pQ (sN S q k n) d = pQ S d from va_up_ne _ _ hnd]
    exact g5 i hi
/-- a field of another object leaves it too -/
theorem AL_sI {G : Nat → Nat} {S : PS} {a b f : Nat} {v : Int32} {xs : List Nat} (h : AL G S a xs) (hb : a ≠ b ∨ f ≠ 20) : AL G (sI S f b v) a xs := by
  obtain ⟨h1, h2, h3⟩ := h
  refine ⟨h1, Eq.trans ?_ h2, h3⟩
  rcases hb with hb | hb
  · exact up2_a _ _ _ _ hb
  · exact up2_f _ _ _ _ (fun z => hb z.symm)
theorem AL_sO {G : Nat → Nat} {S : PS} {a b f : Nat} {v : Option Nat} {xs : List Nat} (h : AL G S a xs) (hb : a ≠ b ∨ f ≠ 20) : AL G (sO S f b v) a xs := by
  obtain ⟨h1, h2, h3, h4, d, hd, hc⟩ := h
  refine ⟨h1, h2, h3, h4, d, Eq.trans ?_ hd, hc⟩
  rcases hb with hb | hb
  · exact up2_a _ _ _ _ hb
  · exact up2_f _ _ _ _ (fun z => hb z.symm)
theorem AL_ent {G : Nat → Nat} {S : PS} {a q : Nat} {t : Option Nat} {tl : Int32} {xs : List Nat} (h : AL G S a xs) (hq : q ∉ pL S) : AL G (sO (sI (sN S q 1 0) 0 q tl) 1 q t) a xs := AL_sO (AL_sI (AL_new h hq) (Or.inr (by decide))) (Or.inr (by decide))

abbrev rm_J3_checkIndex_8e157 : Room := { frames := 0, cells := 0, slots := 0, locals := 0 }
set_option maxRecDepth 100000 in
set_option maxHeartbeats 4000000 in
theorem c_J3_checkIndex_8e157 {l : Launch} {D : va_G} {cI cZ cO : ClassId} {G : Nat → Nat} {S : PS} {i n : Int32} (hng : ¬ i < 0) (hlt : i < n) : zMi l yJ3_checkIndex_8e157 wsJ3_checkIndex_8e157 rm_J3_checkIndex_8e157 [.int i, .int n, .null] D cI cZ cO G S (fun r S' => S = S' ∧ r = i) := by
  refine z_of (cc := cJ3_checkIndex_8e157) (maxL := 3) (ret := (some .int)) (lo := [some (.int i), some (.int n), some (.null)]) (by decide) rfl rfl (Nat.le_of_ble_eq_true rfl) rfl ?_
  intro pp ee ss mi aa bl mh cd h0 hts hown hr hlk hnm
  have hown : ss.vm.findClass RJ3 = some mi.cls := hown
  refine z_iload_n h0 dJ3_checkIndex_8e157_0 rfl ?_
  refine z_if_lt (tgt := 9) h0 dJ3_checkIndex_8e157_1 (by decide) (fun h1 => absurd h1 hng) (fun h1 => ?_)
  refine z_iload_n h0 dJ3_checkIndex_8e157_4 rfl ?_
  refine z_iload_n h0 dJ3_checkIndex_8e157_5 rfl ?_
  refine z_icmp_lt (tgt := 16) h0 dJ3_checkIndex_8e157_6 (by decide) (fun h6 => ?_) (fun h6 => absurd hlt h6)
  refine z_iload_n h0 dJ3_checkIndex_8e157_16 rfl ?_
  exact z_iret h0 hr hlk dJ3_checkIndex_8e157_17 (Nat.le_of_ble_eq_true rfl) (Nat.le_of_ble_eq_true rfl) ⟨rfl, rfl⟩

abbrev rm_J15_checkIndex_7cf53 : Room := { frames := 1, cells := 0, slots := 0, locals := 22 }
set_option maxRecDepth 100000 in
set_option maxHeartbeats 4000000 in
theorem c_J15_checkIndex_7cf53 {l : Launch} {D : va_G} {cI cZ cO : ClassId} {G : Nat → Nat} {S : PS} {i n : Int32} (hng : ¬ i < 0) (hlt : i < n) : zMi l yJ15_checkIndex_7cf53 wsJ15_checkIndex_7cf53 rm_J15_checkIndex_7cf53 [.int i, .int n] D cI cZ cO G S (fun r S' => S = S' ∧ r = i) := by
  refine z_of (cc := cJ15_checkIndex_7cf53) (maxL := 2) (ret := (some .int)) (lo := [some (.int i), some (.int n)]) (by decide) rfl rfl (Nat.le_of_ble_eq_true rfl) rfl ?_
  intro pp ee ss mi aa bl mh cd h0 hts hown hr hlk hnm
  have hown : ss.vm.findClass RJ15 = some mi.cls := hown
  refine z_iload_n h0 dJ15_checkIndex_7cf53_0 rfl ?_
  refine z_iload_n h0 dJ15_checkIndex_7cf53_1 rfl ?_
  refine z_null h0 dJ15_checkIndex_7cf53_2 ?_
  refine z_cSi (n := 3) (As := [_, _, _]) h0 hts hown (c_J3_checkIndex_8e157 hng hlt) gJ15_checkIndex_7cf53_J3_checkIndex_8e157 rfl (by decide +kernel) ⟨Nat.le_of_ble_eq_true rfl, Nat.le_of_ble_eq_true rfl⟩ dJ15_checkIndex_7cf53_3 rfl rfl (Nat.le_of_ble_eq_true rfl) ⟨Nat.le_of_ble_eq_true rfl, Nat.le_of_ble_eq_true rfl⟩ (fun r3 S3 hp3 => ?_)
  exact z_iret h0 hr hlk dJ15_checkIndex_7cf53_6 (Nat.le_of_ble_eq_true rfl) (Nat.le_of_ble_eq_true rfl) hp3

abbrev rm_Jx4a65c_elementData_915e3 : Room := { frames := 0, cells := 0, slots := 0, locals := 0 }
set_option maxRecDepth 100000 in
set_option maxHeartbeats 4000000 in
theorem c_Jx4a65c_elementData_915e3 {l : Launch} {D : va_G} {cI cZ cO : ClassId} {G : Nat → Nat} {S : PS} {a d j b : Nat} {i : Int32} (ha : isK S 7 a) (hd : pO S 20 a = some d) (hd10 : isK S 10 d) (hi : i.toInt = (j : Int)) (hj : j < pN S d) (hb : pQ S d j = some b) : zMr l yJx4a65c_elementData_915e3 wsJx4a65c_elementData_915e3 rm_Jx4a65c_elementData_915e3 [.ref a, .int i] D cI cZ cO G S (fun r S' => S = S' ∧ r = b) := by
  refine z_of (cc := cJx4a65c_elementData_915e3) (maxL := 2) (ret := (some (.object "java/lang/Object"))) (lo := [some (.ref a), some (.int i)]) (by decide) rfl rfl (Nat.le_of_ble_eq_true rfl) rfl ?_
  intro pp ee ss mi aa bl mh cd h0 hts hown hr hlk hnm
  have hown : ss.vm.findClass RJx4a65c = some mi.cls := hown
  have inJx4a65c : ∀ w ∈ u_ws RJx4a65c TJx4a65c 3, w ∈ wsJx4a65c_elementData_915e3 := by decide +kernel
  have lk_9 : zLk ss mi aa RJx4a65c 9 0 1 := ⟨RJx4a65c, TJx4a65c, 3, "java/util/ArrayList", wsJx4a65c_elementData_915e3, rfl, by decide, hts, inJx4a65c, hown, hts (.fieldLink RJx4a65c 9 "java/util/ArrayList" "elementData" "[Ljava/lang/Object;") (by decide +kernel), fun _ h => h⟩
  refine z_aload_n h0 dJx4a65c_elementData_915e3_0 rfl ?_
  refine z_getO h0 fO20 lk_9 dJx4a65c_elementData_915e3_1 (by assumption) (by assumption) ?_
  refine z_iload_n h0 dJx4a65c_elementData_915e3_4 rfl ?_
  refine z_aldq h0 dJx4a65c_elementData_915e3_5 (by assumption) (by assumption) (by assumption) (by assumption) ?_
  exact z_aret h0 hr (Or.inl ⟨_, rfl⟩) hlk dJx4a65c_elementData_915e3_6 (Nat.le_of_ble_eq_true rfl) (Nat.le_of_ble_eq_true rfl) ⟨rfl, rfl⟩

abbrev rm_Jx4a65c_get_915e3 : Room := { frames := 2, cells := 0, slots := 0, locals := 43 }
set_option maxRecDepth 100000 in
set_option maxHeartbeats 4000000 in
theorem c_Jx4a65c_get_915e3 {l : Launch} {D : va_G} {cI cZ cO : ClassId} {G : Nat → Nat} {S : PS} {a j b : Nat} {i : Int32} {xs : List Nat} (hA : AL G S a xs) (hi : i.toInt = (j : Int)) (hb : xs[j]? = some b) : zMr l yJx4a65c_get_915e3 wsJx4a65c_get_915e3 rm_Jx4a65c_get_915e3 [.ref a, .int i] D cI cZ cO G S (fun r S' => S = S' ∧ r = b) := by
  obtain ⟨ha, hsz, hle, hob, d, hd, hcase⟩ := hA
  have hj : j < xs.length := (List.getElem?_eq_some_iff.mp hb).1
  obtain ⟨hd10, hpos, hcap, hxn, hq⟩ : isK S 10 d ∧ 0 < pN S d ∧ pN S d ≤ 1500 ∧ xs.length ≤ pN S d ∧ ∀ i, i < xs.length → pQ S d i = xs[i]? := by
    rcases hcase with ⟨-, rfl⟩ | h
    · exact absurd hj (Nat.not_lt_zero _)
    · exact h
  have hng : ¬ i < 0 := by rw [Int32.lt_iff_toInt_lt, Int32.toInt_zero]; omega
  have hlt : i < pI S 20 a := by rw [hsz, Int32.lt_iff_toInt_lt, nI_toInt (by omega)]; omega
  have hjn : j < pN S d := by omega
  have hbq : pQ S d j = some b := (hq j hj).trans hb
  refine z_of (cc := cJx4a65c_get_915e3) (maxL := 2) (ret := (some (.object "java/lang/Object"))) (lo := [some (.ref a), some (.int i)]) (by decide) rfl rfl (Nat.le_of_ble_eq_true rfl) rfl ?_
  intro pp ee ss mi aa bl mh cd h0 hts hown hr hlk hnm
  have hown : ss.vm.findClass RJx4a65c = some mi.cls := hown
  have inJx4a65c : ∀ w ∈ u_ws RJx4a65c TJx4a65c 3, w ∈ wsJx4a65c_get_915e3 := by decide +kernel
  have lk_48 : zLk ss mi aa RJx4a65c 48 0 2 := ⟨RJx4a65c, TJx4a65c, 3, "java/util/ArrayList", wsJx4a65c_get_915e3, rfl, by decide, hts, inJx4a65c, hown, hts (.fieldLink RJx4a65c 48 "java/util/ArrayList" "size" "I") (by decide +kernel), fun _ h => h⟩
  refine z_iload_n h0 dJx4a65c_get_915e3_0 rfl ?_
  refine z_aload_n h0 dJx4a65c_get_915e3_1 rfl ?_
  refine z_getI h0 fI20 lk_48 dJx4a65c_get_915e3_2 (by assumption) ?_
  refine z_cSi (n := 2) (As := [_, _]) h0 hts hown (c_J15_checkIndex_7cf53 hng hlt) gJx4a65c_get_915e3_J15_checkIndex_7cf53 rfl (by decide +kernel) ⟨Nat.le_of_ble_eq_true rfl, Nat.le_of_ble_eq_true rfl⟩ dJx4a65c_get_915e3_5 rfl rfl (Nat.le_of_ble_eq_true rfl) ⟨Nat.le_of_ble_eq_true rfl, Nat.le_of_ble_eq_true rfl⟩ (fun r5 S5 hp5 => ?_)
  obtain ⟨rfl, hr5⟩ := hp5
  refine z_pop h0 dJx4a65c_get_915e3_8 rfl ?_
  refine z_aload_n h0 dJx4a65c_get_915e3_9 rfl ?_
  refine z_iload_n h0 dJx4a65c_get_915e3_10 rfl ?_
  refine z_cVr (n := 1) (As := [_]) h0 hts hown (c_Jx4a65c_elementData_915e3 ha hd hd10 hi hjn hbq) gJx4a65c_get_915e3_Jx4a65c_elementData_915e3 rfl (by decide +kernel) ⟨Nat.le_of_ble_eq_true rfl, Nat.le_of_ble_eq_true rfl⟩ kOk7 rfl (by assumption) dJx4a65c_get_915e3_11 rfl rfl (Nat.le_of_ble_eq_true rfl) ⟨Nat.le_of_ble_eq_true rfl, Nat.le_of_ble_eq_true rfl⟩ (fun r11 S11 hp11 => ?_)
  exact z_aret h0 hr (Or.inl ⟨_, rfl⟩) hlk dJx4a65c_get_915e3_14 (Nat.le_of_ble_eq_true rfl) (Nat.le_of_ble_eq_true rfl) hp11

abbrev rm_J8_newLength_cabcc : Room := { frames := 1, cells := 0, slots := 0, locals := 24 }
set_option maxRecDepth 100000 in
set_option maxHeartbeats 4000000 in
theorem c_J8_newLength_cabcc {l : Launch} {D : va_G} {cI cZ cO : ClassId} {G : Nat → Nat} {S : PS} {n : Nat} (hn : 0 < n) (hn2 : n ≤ 1000) : zMi l yJ8_newLength_cabcc wsJ8_newLength_cabcc rm_J8_newLength_cabcc [.int (nI n), .int (nI 1), .int (nI (n / 2))] D cI cZ cO G S (fun r S' => S = S' ∧ r = nI (n + max 1 (n / 2))) := by
  refine z_of (cc := cJ8_newLength_cabcc) (maxL := 4) (ret := (some .int)) (lo := [some (.int (nI n)), some (.int (nI 1)), some (.int (nI (n / 2))), none]) (by decide) rfl rfl (Nat.le_of_ble_eq_true rfl) rfl ?_
  intro pp ee ss mi aa bl mh cd h0 hts hown hr hlk hnm
  have hown : ss.vm.findClass RJ8 = some mi.cls := hown
  refine z_iload_n h0 dJ8_newLength_cabcc_0 rfl ?_
  refine z_iload_n h0 dJ8_newLength_cabcc_1 rfl ?_
  refine z_iload_n h0 dJ8_newLength_cabcc_2 rfl ?_
  refine z_max h0 hown (hts (.methodLink RJ8 194 Lib.Math.max.name) (by decide +kernel)) (hts (.static Lib.Math.max.name) (by decide +kernel)) (hts (.initialized "java/lang/Math") (by decide +kernel)) (hts (.code Lib.Math.max.name Lib.Math.max.code 2 (some .int)) (by decide +kernel)) (Nat.le_of_ble_eq_true rfl) (Nat.le_of_ble_eq_true rfl) (Nat.le_of_ble_eq_true rfl) (Nat.le_of_ble_eq_true rfl) dJ8_newLength_cabcc_3 ?_
  refine z_top (zmax (by decide) (by omega)) ?_
  refine z_iadd h0 dJ8_newLength_cabcc_6 ?_
  refine z_top (nI_add _ _) ?_
  refine z_istore_n (lo' := [_, _, _, _]) h0 dJ8_newLength_cabcc_7 (by decide) rfl rfl ?_
  refine z_iconst (v := 0) h0 dJ8_newLength_cabcc_8 (by decide) ?_
  refine z_iload_n h0 dJ8_newLength_cabcc_9 rfl ?_
  refine z_icmp_ge (tgt := 21) h0 dJ8_newLength_cabcc_10 (by decide) (fun h10 => absurd h10 (nI_nle (by omega) (by omega))) (fun h10 => ?_)
  refine z_iload_n h0 dJ8_newLength_cabcc_13 rfl ?_
  refine z_ldc h0 hown (hts (.constant RJ8 200 (2147483639)) (by decide +kernel)) dJ8_newLength_cabcc_14 ?_
  refine z_icmp_gt (tgt := 21) h0 dJ8_newLength_cabcc_16 (by decide) (fun h16 => absurd h16 (zbig (by omega))) (fun h16 => ?_)
  refine z_iload_n h0 dJ8_newLength_cabcc_19 rfl ?_
  exact z_iret h0 hr hlk dJ8_newLength_cabcc_20 (Nat.le_of_ble_eq_true rfl) (Nat.le_of_ble_eq_true rfl) ⟨rfl, rfl⟩

abbrev rm_J7_copyOf_6403c : Room := { frames := 1, cells := 1, slots := 1500, locals := 60 }
set_option maxRecDepth 100000 in
set_option maxHeartbeats 4000000 in
theorem c_J7_copyOf_6403c {l : Launch} {D : va_G} {cI cZ cO : ClassId} {G : Nat → Nat} {S : PS} {d n k : Nat} (hd : isK S 10 d) (hn : pN S d = n) (hk : n ≤ k) (hk2 : k ≤ 1500) (hob : ∀ i y : Nat, i < n → pQ S d i = some y → isOb S y) : zMr l yJ7_copyOf_6403c wsJ7_copyOf_6403c rm_J7_copyOf_6403c [.ref d, .int (nI k), .ref (G 1)] D cI cZ cO G S (fun q S' => q ∉ pL S ∧ S' = sQQ (sN S q 10 k) q (va_cpy (pQ S d) (fun _ => none) 0 0 n)) := by
  refine z_of (cc := cJ7_copyOf_6403c) (maxL := 4) (ret := (some (.array (.object "java/lang/Object")))) (lo := [some (.ref d), some (.int (nI k)), some (.ref (G 1)), none]) (by decide) rfl rfl (Nat.le_of_ble_eq_true rfl) rfl ?_
  intro pp ee ss mi aa bl mh cd h0 hts hown hr hlk hnm
  have hown : ss.vm.findClass RJ7 = some mi.cls := hown
  refine z_aload_n h0 dJ7_copyOf_6403c_0 rfl ?_
  refine z_ldcM h0 hown (hts (.classLink RJ7 110 "[Ljava/lang/Object;") (by decide +kernel)) dJ7_copyOf_6403c_1 ?_
  refine z_acmp_ne (tgt := 13) h0 dJ7_copyOf_6403c_3 (by decide) (fun h3 => absurd rfl h3) (fun h3 => ?_)
  refine z_iload_n h0 dJ7_copyOf_6403c_6 rfl ?_
  refine z_anew h0 hown (hts (.classLink RJ7 2 "java/lang/Object") (by decide +kernel)) (nI_toInt (by omega)) (by omega) (Nat.le_of_ble_eq_true rfl) (by show 0 + k ≤ 1500; omega) dJ7_copyOf_6403c_7 (fun q7 hq7 => ?_)
  have hq10 : isK (sN S q7 10 k) 10 q7 := isK_new
  have hdo : isK (sN S q7 10 k) 10 d := isK_old hd hq7
  have hne : d ≠ q7 := isK_ne hd hq7
  have hnN : pN (sN S q7 10 k) d = n := (va_up_ne _ _ hne).trans hn
  refine z_goto (tgt := 24) h0 dJ7_copyOf_6403c_10 (by decide) ?_
  refine z_astore_n (lo' := [_, _, _, _]) h0 dJ7_copyOf_6403c_24 (by decide) rfl rfl ?_
  refine z_aload_n h0 dJ7_copyOf_6403c_25 rfl ?_
  refine z_iconst (v := 0) h0 dJ7_copyOf_6403c_26 (by decide) ?_
  refine z_aload_n h0 dJ7_copyOf_6403c_27 rfl ?_
  refine z_iconst (v := 0) h0 dJ7_copyOf_6403c_28 (by decide) ?_
  refine z_aload_n h0 dJ7_copyOf_6403c_29 rfl ?_
  refine z_alen10 h0 dJ7_copyOf_6403c_30 (by assumption) ?_
  refine z_top (y := nI n) (by rw [hnN]) ?_
  refine z_iload_n h0 dJ7_copyOf_6403c_31 rfl ?_
  refine z_min h0 hown (hts (.methodLink RJ7 304 Lib.Math.min.name) (by decide +kernel)) (hts (.static Lib.Math.min.name) (by decide +kernel)) (hts (.initialized "java/lang/Math") (by decide +kernel)) (hts (.code Lib.Math.min.name Lib.Math.min.code 2 (some .int)) (by decide +kernel)) (Nat.le_of_ble_eq_true rfl) (Nat.le_of_ble_eq_true rfl) (Nat.le_of_ble_eq_true rfl) (by show 0 + k ≤ 1500; omega) dJ7_copyOf_6403c_32 ?_
  refine z_top (zmin (by omega) (by omega) hk) ?_
  refine z_copy (j := n) h0 hown (hts (.methodLink RJ7 150 arraycopyName) (by decide +kernel)) (hts (.native arraycopyName) (by decide +kernel)) (hts (.static arraycopyName) (by decide +kernel)) (hts (.initialized "java/lang/System") (by decide +kernel)) hdo hq10 (nI_toInt (by omega)) (by rw [hnN]; exact Nat.le_refl _) (by show n ≤ va_up (pN S) q7 k q7; rw [va_up_self]; exact hk) (fun i y hi hy => isOb_old (hob i y hi ((congrFun (show pQ (sN S q7 10 k) d = pQ S d from va_up_ne _ _ hne) i).symm.trans hy)) hq7) (Nat.le_of_ble_eq_true rfl) (Nat.le_of_ble_eq_true rfl) dJ7_copyOf_6403c_35 ?_
  refine z_aload_n h0 dJ7_copyOf_6403c_38 rfl ?_
  exact z_aret h0 hr (Or.inr ⟨_, rfl⟩) hlk dJ7_copyOf_6403c_39 (Nat.le_of_ble_eq_true rfl) (by show 0 + k ≤ 1500; omega) ⟨hq7, by rw [show pQ (sN S q7 10 k) d = pQ S d from va_up_ne _ _ hne, show pQ (sN S q7 10 k) q7 = (fun _ => none) from va_up_self _ _ _]⟩

abbrev rm_J7_copyOf_1904c : Room := { frames := 2, cells := 1, slots := 1500, locals := 83 }
set_option maxRecDepth 100000 in
set_option maxHeartbeats 4000000 in
theorem c_J7_copyOf_1904c {l : Launch} {D : va_G} {cI cZ cO : ClassId} {G : Nat → Nat} {S : PS} {d n k : Nat} (hd : isK S 10 d) (hn : pN S d = n) (hk : n ≤ k) (hk2 : k ≤ 1500) (hob : ∀ i y : Nat, i < n → pQ S d i = some y → isOb S y) : zMr l yJ7_copyOf_1904c wsJ7_copyOf_1904c rm_J7_copyOf_1904c [.ref d, .int (nI k)] D cI cZ cO G S (fun q S' => q ∉ pL S ∧ S' = sQQ (sN S q 10 k) q (va_cpy (pQ S d) (fun _ => none) 0 0 n)) := by
  refine z_of (cc := cJ7_copyOf_1904c) (maxL := 2) (ret := (some (.array (.object "java/lang/Object")))) (lo := [some (.ref d), some (.int (nI k))]) (by decide) rfl rfl (Nat.le_of_ble_eq_true rfl) rfl ?_
  intro pp ee ss mi aa bl mh cd h0 hts hown hr hlk hnm
  have hown : ss.vm.findClass RJ7 = some mi.cls := hown
  refine z_aload_n h0 dJ7_copyOf_1904c_0 rfl ?_
  refine z_iload_n h0 dJ7_copyOf_1904c_1 rfl ?_
  refine z_aload_n h0 dJ7_copyOf_1904c_2 rfl ?_
  refine z_getClass h0 hown (hts (.methodLink RJ7 86 ⟨"java/lang/Object", "getClass", "()Ljava/lang/Class;"⟩) (by decide +kernel)) (hts (.selects "[Ljava/lang/Object;" ⟨"java/lang/Object", "getClass", "()Ljava/lang/Class;"⟩ ⟨"java/lang/Object", "getClass", "()Ljava/lang/Class;"⟩) (by decide +kernel)) (hts (.instanceMethod ⟨"java/lang/Object", "getClass", "()Ljava/lang/Class;"⟩) (by decide +kernel)) (hts (.native ⟨"java/lang/Object", "getClass", "()Ljava/lang/Class;"⟩) (by decide +kernel)) (by assumption) (Nat.le_of_ble_eq_true rfl) (Nat.le_of_ble_eq_true rfl) dJ7_copyOf_1904c_3 ?_
  refine z_cSr (n := 3) (As := [_, _, _]) h0 hts hown (c_J7_copyOf_6403c hd hn hk hk2 hob) gJ7_copyOf_1904c_J7_copyOf_6403c rfl (by decide +kernel) ⟨Nat.le_of_ble_eq_true rfl, Nat.le_of_ble_eq_true rfl⟩ dJ7_copyOf_1904c_6 rfl rfl (Nat.le_of_ble_eq_true rfl) ⟨Nat.le_of_ble_eq_true rfl, Nat.le_of_ble_eq_true rfl⟩ (fun r6 S6 hp6 => ?_)
  exact z_aret h0 hr (Or.inr ⟨_, rfl⟩) hlk dJ7_copyOf_1904c_9 (Nat.le_of_ble_eq_true rfl) (Nat.le_of_ble_eq_true rfl) hp6

abbrev rm_Jx4a65c_grow_92f84 : Room := { frames := 3, cells := 1, slots := 1500, locals := 104 }
set_option maxRecDepth 100000 in
set_option maxHeartbeats 4000000 in
theorem c_Jx4a65c_grow_92f84_b {l : Launch} {D : va_G} {cI cZ cO : ClassId} {G : Nat → Nat} {S : PS} {a d n : Nat} (ha : isK S 7 a) (hd : pO S 20 a = some d) (hd10 : isK S 10 d) (hpos : 0 < n) (hlen : pN S d = n) (hob : ∀ i y : Nat, i < n → pQ S d i = some y → isOb S y) (hn : n < 1000) : zMr l yJx4a65c_grow_92f84 wsJx4a65c_grow_92f84 rm_Jx4a65c_grow_92f84 [.ref a, .int (nI (n + 1))] D cI cZ cO G S (fun q S' => q ∉ pL S ∧ ∃ (k : Nat) (g : Nat → Option Nat), n < k ∧ k ≤ 1500 ∧ (∀ i, i < n → g i = pQ S d i) ∧ S' = sO (sQQ (sN S q 10 k) q g) 20 a (some q)) := by
  refine z_of (cc := cJx4a65c_grow_92f84) (maxL := 4) (ret := (some (.array (.object "java/lang/Object")))) (lo := [some (.ref a), some (.int (nI (n + 1))), none, none]) (by decide) rfl rfl (Nat.le_of_ble_eq_true rfl) rfl ?_
  intro pp ee ss mi aa bl mh cd h0 hts hown hr hlk hnm
  have hown : ss.vm.findClass RJx4a65c = some mi.cls := hown
  have inJx4a65c : ∀ w ∈ u_ws RJx4a65c TJx4a65c 3, w ∈ wsJx4a65c_grow_92f84 := by decide +kernel
  have lk_9 : zLk ss mi aa RJx4a65c 9 0 1 := ⟨RJx4a65c, TJx4a65c, 3, "java/util/ArrayList", wsJx4a65c_grow_92f84, rfl, by decide, hts, inJx4a65c, hown, hts (.fieldLink RJx4a65c 9 "java/util/ArrayList" "elementData" "[Ljava/lang/Object;") (by decide +kernel), fun _ h => h⟩
  have lp_9 : zLp ss mi aa mh RJx4a65c 9 0 1 (.array (.object "java/lang/Object")) := ⟨RJx4a65c, TJx4a65c, 3, "java/util/ArrayList", wsJx4a65c_grow_92f84, tyJx4a65c, rfl, by decide, hts, inJx4a65c, hown, hts (.fieldLink RJx4a65c 9 "java/util/ArrayList" "elementData" "[Ljava/lang/Object;") (by decide +kernel), fun _ h => h, tyJx4a65c_ok, nmJx4a65c, by decide +kernel, Or.inl rfl⟩
  refine z_aload_n h0 dJx4a65c_grow_92f84_0 rfl ?_
  refine z_getO h0 fO20 lk_9 dJx4a65c_grow_92f84_1 (by assumption) (by assumption) ?_
  refine z_alen10 h0 dJx4a65c_grow_92f84_4 (by assumption) ?_
  refine z_top (y := nI n) (by rw [hlen]) ?_
  refine z_istore_n (lo' := [_, _, _, _]) h0 dJx4a65c_grow_92f84_5 (by decide) rfl rfl ?_
  refine z_iload_n h0 dJx4a65c_grow_92f84_6 rfl ?_
  refine z_if_gt (tgt := 20) h0 dJx4a65c_grow_92f84_7 (by decide) (fun h7 => ?_) (fun h7 => absurd (by rw [← nI_0]; exact nI_lt hpos (by omega)) h7)
  refine z_iload_n h0 dJx4a65c_grow_92f84_20 rfl ?_
  refine z_iload_n h0 dJx4a65c_grow_92f84_21 rfl ?_
  refine z_iload_n h0 dJx4a65c_grow_92f84_22 rfl ?_
  refine z_isub h0 dJx4a65c_grow_92f84_23 ?_
  refine z_top (y := nI 1) (by rw [pk_sub (by omega), show n + 1 - n = 1 by omega]) ?_
  refine z_iload_n h0 dJx4a65c_grow_92f84_24 rfl ?_
  refine z_iconst (v := 1) h0 dJx4a65c_grow_92f84_25 (by decide) ?_
  refine z_ishr h0 dJx4a65c_grow_92f84_26 ?_
  refine z_top (y := nI (n / 2)) (by exact pk_shrN (by omega) _ 1 (by decide)) ?_
  refine z_cSi (n := 3) (As := [_, _, _]) h0 hts hown (c_J8_newLength_cabcc hpos (by omega)) gJx4a65c_grow_92f84_J8_newLength_cabcc rfl (by decide +kernel) ⟨Nat.le_of_ble_eq_true rfl, Nat.le_of_ble_eq_true rfl⟩ dJx4a65c_grow_92f84_27 rfl rfl (Nat.le_of_ble_eq_true rfl) ⟨Nat.le_of_ble_eq_true rfl, Nat.le_of_ble_eq_true rfl⟩ (fun r27 S27 hp27 => ?_)
  obtain ⟨rfl, rfl⟩ := hp27
  refine z_istore_n (lo' := [_, _, _, _]) h0 dJx4a65c_grow_92f84_30 (by decide) rfl rfl ?_
  refine z_aload_n h0 dJx4a65c_grow_92f84_31 rfl ?_
  refine z_aload_n h0 dJx4a65c_grow_92f84_32 rfl ?_
  refine z_getO h0 fO20 lk_9 dJx4a65c_grow_92f84_33 (by assumption) (by assumption) ?_
  refine z_iload_n h0 dJx4a65c_grow_92f84_36 rfl ?_
  refine z_cSr (n := 2) (As := [_, _]) h0 hts hown (c_J7_copyOf_1904c (n := n) (k := n + max 1 (n / 2)) hd10 hlen (by omega) (by omega) hob) gJx4a65c_grow_92f84_J7_copyOf_1904c rfl (by decide +kernel) ⟨Nat.le_of_ble_eq_true rfl, Nat.le_of_ble_eq_true rfl⟩ dJx4a65c_grow_92f84_37 rfl rfl (Nat.le_of_ble_eq_true rfl) ⟨Nat.le_of_ble_eq_true rfl, Nat.le_of_ble_eq_true rfl⟩ (fun r37 S37 hp37 => ?_)
  obtain ⟨hq37, rfl⟩ := hp37
  have hao := isK_old (k := 10) (n := n + max 1 (n / 2)) ha hq37
  refine z_dup_x1 h0 dJx4a65c_grow_92f84_40 rfl rfl ?_
  refine z_putO h0 fO20 lp_9 dJx4a65c_grow_92f84_41 hao rfl rfl ?_
  exact z_aret h0 hr (Or.inr ⟨_, rfl⟩) hlk dJx4a65c_grow_92f84_44 (Nat.le_of_ble_eq_true rfl) (Nat.le_of_ble_eq_true rfl) ⟨hq37, n + max 1 (n / 2), va_cpy (pQ S d) (fun _ => none) 0 0 n, by omega, by omega, fun i hi => by rw [pk_cpy_in (Nat.zero_le _) (by omega)]; simp, rfl⟩

set_option maxRecDepth 100000 in
set_option maxHeartbeats 4000000 in
theorem c_Jx4a65c_grow_92f84_a {l : Launch} {D : va_G} {cI cZ cO : ClassId} {G : Nat → Nat} {S : PS} {a : Nat} (ha : isK S 7 a) (hd : pO S 20 a = some (G 0)) : zMr l yJx4a65c_grow_92f84 wsJx4a65c_grow_92f84 rm_Jx4a65c_grow_92f84 [.ref a, .int (nI 1)] D cI cZ cO G S (fun q S' => q ∉ pL S ∧ ∃ (k : Nat) (g : Nat → Option Nat), 0 < k ∧ k ≤ 1500 ∧ (∀ i, i < 0 → g i = pQ S (G 0) i) ∧ S' = sO (sQQ (sN S q 10 k) q g) 20 a (some q)) := by
  refine z_of (cc := cJx4a65c_grow_92f84) (maxL := 4) (ret := (some (.array (.object "java/lang/Object")))) (lo := [some (.ref a), some (.int (nI 1)), none, none]) (by decide) rfl rfl (Nat.le_of_ble_eq_true rfl) rfl ?_
  intro pp ee ss mi aa bl mh cd h0 hts hown hr hlk hnm
  have hown : ss.vm.findClass RJx4a65c = some mi.cls := hown
  have inJx4a65c : ∀ w ∈ u_ws RJx4a65c TJx4a65c 3, w ∈ wsJx4a65c_grow_92f84 := by decide +kernel
  have lk_9 : zLk ss mi aa RJx4a65c 9 0 1 := ⟨RJx4a65c, TJx4a65c, 3, "java/util/ArrayList", wsJx4a65c_grow_92f84, rfl, by decide, hts, inJx4a65c, hown, hts (.fieldLink RJx4a65c 9 "java/util/ArrayList" "elementData" "[Ljava/lang/Object;") (by decide +kernel), fun _ h => h⟩
  have lp_9 : zLp ss mi aa mh RJx4a65c 9 0 1 (.array (.object "java/lang/Object")) := ⟨RJx4a65c, TJx4a65c, 3, "java/util/ArrayList", wsJx4a65c_grow_92f84, tyJx4a65c, rfl, by decide, hts, inJx4a65c, hown, hts (.fieldLink RJx4a65c 9 "java/util/ArrayList" "elementData" "[Ljava/lang/Object;") (by decide +kernel), fun _ h => h, tyJx4a65c_ok, nmJx4a65c, by decide +kernel, Or.inl rfl⟩
  refine z_aload_n h0 dJx4a65c_grow_92f84_0 rfl ?_
  refine z_getO h0 fO20 lk_9 dJx4a65c_grow_92f84_1 (by assumption) (by assumption) ?_
  refine z_alen0 h0 dJx4a65c_grow_92f84_4 ?_
  refine z_istore_n (lo' := [_, _, _, _]) h0 dJx4a65c_grow_92f84_5 (by decide) rfl rfl ?_
  refine z_iload_n h0 dJx4a65c_grow_92f84_6 rfl ?_
  refine z_if_gt (tgt := 20) h0 dJx4a65c_grow_92f84_7 (by decide) (fun h7 => absurd h7 (by decide)) (fun h7 => ?_)
  refine z_aload_n h0 dJx4a65c_grow_92f84_10 rfl ?_
  refine z_getO h0 fO20 lk_9 dJx4a65c_grow_92f84_11 (by assumption) (by assumption) ?_
  refine z_empty h0 hown (hts (.fieldLink RJx4a65c 39 "java/util/ArrayList" "DEFAULTCAPACITY_EMPTY_ELEMENTDATA" "[Ljava/lang/Object;") (by decide +kernel)) dJx4a65c_grow_92f84_14 ?_
  refine z_acmp_eq (tgt := 45) h0 dJx4a65c_grow_92f84_17 (by decide) (fun h17 => ?_) (fun h17 => absurd rfl h17)
  refine z_aload_n h0 dJx4a65c_grow_92f84_45 rfl ?_
  refine z_bipush (v := 10) h0 dJx4a65c_grow_92f84_46 (by decide) ?_
  refine z_iload_n h0 dJx4a65c_grow_92f84_48 rfl ?_
  refine z_max h0 hown (hts (.methodLink RJx4a65c 79 Lib.Math.max.name) (by decide +kernel)) (hts (.static Lib.Math.max.name) (by decide +kernel)) (hts (.initialized "java/lang/Math") (by decide +kernel)) (hts (.code Lib.Math.max.name Lib.Math.max.code 2 (some .int)) (by decide +kernel)) (Nat.le_of_ble_eq_true rfl) (Nat.le_of_ble_eq_true rfl) (Nat.le_of_ble_eq_true rfl) (Nat.le_of_ble_eq_true rfl) dJx4a65c_grow_92f84_49 ?_
  refine z_top (y := nI 10) (by decide) ?_
  refine z_anew h0 hown (hts (.classLink RJx4a65c 7 "java/lang/Object") (by decide +kernel)) (nI_toInt (by omega)) (by omega) (Nat.le_of_ble_eq_true rfl) (by show 0 + 10 ≤ 1500; omega) dJx4a65c_grow_92f84_52 (fun q52 hq52 => ?_)
  have hao := isK_old (k := 10) (n := 10) ha hq52
  refine z_dup_x1 h0 dJx4a65c_grow_92f84_55 rfl rfl ?_
  refine z_putO h0 fO20 lp_9 dJx4a65c_grow_92f84_56 hao rfl rfl ?_
  exact z_aret h0 hr (Or.inr ⟨_, rfl⟩) hlk dJx4a65c_grow_92f84_59 (Nat.le_of_ble_eq_true rfl) (by show 0 + 10 ≤ 1500; omega) ⟨hq52, 10, fun _ => none, by omega, by omega, fun i hi => absurd hi (Nat.not_lt_zero _), by simp only [sO, sQQ, sN, pL, pK, pN, pI, pO, pR, pQ, bx_uu]⟩

theorem c_Jx4a65c_grow_92f84 {l : Launch} {D : va_G} {cI cZ cO : ClassId} {G : Nat → Nat} {S : PS} {a d n : Nat} (ha : isK S 7 a) (hd : pO S 20 a = some d) (hc : (d = G 0 ∧ n = 0) ∨ (isK S 10 d ∧ 0 < n ∧ pN S d = n ∧ ∀ i y : Nat, i < n → pQ S d i = some y → isOb S y)) (hn : n < 1000) :
    zMr l yJx4a65c_grow_92f84 wsJx4a65c_grow_92f84 rm_Jx4a65c_grow_92f84 [.ref a, .int (nI (n + 1))] D cI cZ cO G S (fun q S' => q ∉ pL S ∧ ∃ (k : Nat) (g : Nat → Option Nat), n < k ∧ k ≤ 1500 ∧ (∀ i, i < n → g i = pQ S d i) ∧ S' = sO (sQQ (sN S q 10 k) q g) 20 a (some q)) := by
  rcases hc with ⟨rfl, rfl⟩ | ⟨h1, h2, h3, h4⟩
  · exact c_Jx4a65c_grow_92f84_a ha hd
  · exact c_Jx4a65c_grow_92f84_b ha hd h1 h2 h3 h4 hn

abbrev rm_Jx4a65c_grow_d5877 : Room := { frames := 4, cells := 1, slots := 1500, locals := 127 }
set_option maxRecDepth 100000 in
set_option maxHeartbeats 4000000 in
theorem c_Jx4a65c_grow_d5877 {l : Launch} {D : va_G} {cI cZ cO : ClassId} {G : Nat → Nat} {S : PS} {a d n : Nat} (ha : isK S 7 a) (hsz : pI S 20 a = nI n) (hd : pO S 20 a = some d) (hc : (d = G 0 ∧ n = 0) ∨ (isK S 10 d ∧ 0 < n ∧ pN S d = n ∧ ∀ i y : Nat, i < n → pQ S d i = some y → isOb S y)) (hn : n < 1000) : zMr l yJx4a65c_grow_d5877 wsJx4a65c_grow_d5877 rm_Jx4a65c_grow_d5877 [.ref a] D cI cZ cO G S (fun q S' => q ∉ pL S ∧ ∃ (k : Nat) (g : Nat → Option Nat), n < k ∧ k ≤ 1500 ∧ (∀ i, i < n → g i = pQ S d i) ∧ S' = sO (sQQ (sN S q 10 k) q g) 20 a (some q)) := by
  refine z_of (cc := cJx4a65c_grow_d5877) (maxL := 1) (ret := (some (.array (.object "java/lang/Object")))) (lo := [some (.ref a)]) (by decide) rfl rfl (Nat.le_of_ble_eq_true rfl) rfl ?_
  intro pp ee ss mi aa bl mh cd h0 hts hown hr hlk hnm
  have hown : ss.vm.findClass RJx4a65c = some mi.cls := hown
  have inJx4a65c : ∀ w ∈ u_ws RJx4a65c TJx4a65c 3, w ∈ wsJx4a65c_grow_d5877 := by decide +kernel
  have lk_48 : zLk ss mi aa RJx4a65c 48 0 2 := ⟨RJx4a65c, TJx4a65c, 3, "java/util/ArrayList", wsJx4a65c_grow_d5877, rfl, by decide, hts, inJx4a65c, hown, hts (.fieldLink RJx4a65c 48 "java/util/ArrayList" "size" "I") (by decide +kernel), fun _ h => h⟩
  refine z_aload_n h0 dJx4a65c_grow_d5877_0 rfl ?_
  refine z_aload_n h0 dJx4a65c_grow_d5877_1 rfl ?_
  refine z_getI h0 fI20 lk_48 dJx4a65c_grow_d5877_2 (by assumption) ?_
  refine z_iconst (v := 1) h0 dJx4a65c_grow_d5877_5 (by decide) ?_
  refine z_iadd h0 dJx4a65c_grow_d5877_6 ?_
  refine z_top (y := nI (n + 1)) (by rw [hsz]; exact nI_1 n) ?_
  refine z_cVr (n := 1) (As := [_]) h0 hts hown (c_Jx4a65c_grow_92f84 ha hd hc hn) gJx4a65c_grow_d5877_Jx4a65c_grow_92f84 rfl (by decide +kernel) ⟨Nat.le_of_ble_eq_true rfl, Nat.le_of_ble_eq_true rfl⟩ kOk7 rfl (by assumption) dJx4a65c_grow_d5877_7 rfl rfl (Nat.le_of_ble_eq_true rfl) ⟨Nat.le_of_ble_eq_true rfl, Nat.le_of_ble_eq_true rfl⟩ (fun r7 S7 hp7 => ?_)
  exact z_aret h0 hr (Or.inr ⟨_, rfl⟩) hlk dJx4a65c_grow_d5877_10 (Nat.le_of_ble_eq_true rfl) (Nat.le_of_ble_eq_true rfl) hp7

abbrev rm_Jx4a65c_add_72be8 : Room := { frames := 5, cells := 1, slots := 1500, locals := 147 }
set_option maxRecDepth 100000 in
set_option maxHeartbeats 4000000 in
theorem c_Jx4a65c_add_72be8_b {l : Launch} {D : va_G} {cI cZ cO : ClassId} {G : Nat → Nat} {S : PS} {a d v : Nat} {xs : List Nat} (ha : isK S 7 a) (hsz : pI S 20 a = nI xs.length) (hle : xs.length < 1000) (hob : ∀ x ∈ xs, isOb S x) (hv : isOb S v) (hd : pO S 20 a = some d) (hd10 : isK S 10 d) (hpos : 0 < pN S d) (hcap : pN S d ≤ 1500) (hn : xs.length ≤ pN S d) (hq : ∀ i, i < xs.length → pQ S d i = xs[i]?) : zMv l yJx4a65c_add_72be8 wsJx4a65c_add_72be8 rm_Jx4a65c_add_72be8 [.ref a, .ref v, .ref d, .int (nI xs.length)] D cI cZ cO G S (fun S' => Added G S S' a xs v) := by
  refine z_of (cc := cJx4a65c_add_72be8) (maxL := 4) (ret := none) (lo := [some (.ref a), some (.ref v), some (.ref d), some (.int (nI xs.length))]) (by decide) rfl rfl (Nat.le_of_ble_eq_true rfl) rfl ?_
  intro pp ee ss mi aa bl mh cd h0 hts hown hr hlk hnm
  have hown : ss.vm.findClass RJx4a65c = some mi.cls := hown
  have inJx4a65c : ∀ w ∈ u_ws RJx4a65c TJx4a65c 3, w ∈ wsJx4a65c_add_72be8 := by decide +kernel
  have lp_48 : zLp ss mi aa mh RJx4a65c 48 0 2 .int := ⟨RJx4a65c, TJx4a65c, 3, "java/util/ArrayList", wsJx4a65c_add_72be8, tyJx4a65c, rfl, by decide, hts, inJx4a65c, hown, hts (.fieldLink RJx4a65c 48 "java/util/ArrayList" "size" "I") (by decide +kernel), fun _ h => h, tyJx4a65c_ok, nmJx4a65c, by decide +kernel, Or.inl rfl⟩
  refine z_iload_n h0 dJx4a65c_add_72be8_0 rfl ?_
  refine z_aload_n h0 dJx4a65c_add_72be8_1 rfl ?_
  refine z_alen10 h0 dJx4a65c_add_72be8_2 (by assumption) ?_
  refine z_icmp_ne (tgt := 11) h0 dJx4a65c_add_72be8_3 (by decide) (fun h3 => ?_) (fun h3 => ?_)
  · have hlt : xs.length < pN S d := Nat.lt_of_le_of_ne hn (fun z => h3 (congrArg nI z))
    refine z_aload_n h0 dJx4a65c_add_72be8_11 rfl ?_
    refine z_iload_n h0 dJx4a65c_add_72be8_12 rfl ?_
    refine z_aload_n h0 dJx4a65c_add_72be8_13 rfl ?_
    refine z_astq h0 (by assumption) dJx4a65c_add_72be8_14 (by assumption) (nI_toInt (by omega)) hlt ?_
    refine z_aload_n h0 dJx4a65c_add_72be8_15 rfl ?_
    refine z_iload_n h0 dJx4a65c_add_72be8_16 rfl ?_
    refine z_iconst (v := 1) h0 dJx4a65c_add_72be8_17 (by decide) ?_
    refine z_iadd h0 dJx4a65c_add_72be8_18 ?_
    refine z_putI h0 fI20 lp_48 dJx4a65c_add_72be8_19 (by assumption) rfl rfl ?_
    exact z_vret h0 hr hlk dJx4a65c_add_72be8_22 (Nat.le_of_ble_eq_true rfl) (Nat.le_of_ble_eq_true rfl) (added_plain ha (nI_1 _) hle hob hv hd hd10 hcap hlt hq)
  · have hfull : pN S d = xs.length := ((nI_eq (by omega) (by omega)).mp h3).symm
    refine z_aload_n h0 dJx4a65c_add_72be8_6 rfl ?_
    refine z_cVr (n := 0) (As := []) h0 hts hown (c_Jx4a65c_grow_d5877 (n := xs.length) ha hsz hd (Or.inr ⟨hd10, by omega, hfull, fun i y hi hy => hob y (List.mem_of_getElem? ((hq i hi).symm.trans hy))⟩) hle) gJx4a65c_add_72be8_Jx4a65c_grow_d5877 rfl (by decide +kernel) ⟨Nat.le_of_ble_eq_true rfl, Nat.le_of_ble_eq_true rfl⟩ kOk7 rfl (by assumption) dJx4a65c_add_72be8_7 rfl rfl (Nat.le_of_ble_eq_true rfl) ⟨Nat.le_of_ble_eq_true rfl, Nat.le_of_ble_eq_true rfl⟩ (fun r7 S7 hp7 => ?_)
    obtain ⟨hq7, k7, g7, hk7, hk7b, hg7, rfl⟩ := hp7
    refine z_astore_n (lo' := [_, _, _, _]) h0 dJx4a65c_add_72be8_10 (by decide) rfl rfl ?_
    refine z_aload_n h0 dJx4a65c_add_72be8_11 rfl ?_
    refine z_iload_n h0 dJx4a65c_add_72be8_12 rfl ?_
    refine z_aload_n h0 dJx4a65c_add_72be8_13 rfl ?_
    refine z_astq h0 (isOb_old (k := 10) (n := k7) hv hq7) dJx4a65c_add_72be8_14 (isK_new (S := S) (q := r7) (k := 10) (n := k7)) (j := xs.length) (nI_toInt (by omega)) (by show xs.length < va_up (pN S) r7 k7 r7; rw [va_up_self]; exact hk7) ?_
    refine z_aload_n h0 dJx4a65c_add_72be8_15 rfl ?_
    refine z_iload_n h0 dJx4a65c_add_72be8_16 rfl ?_
    refine z_iconst (v := 1) h0 dJx4a65c_add_72be8_17 (by decide) ?_
    refine z_iadd h0 dJx4a65c_add_72be8_18 ?_
    refine z_putI h0 fI20 lp_48 dJx4a65c_add_72be8_19 (isK_old (k := 10) (n := k7) ha hq7) rfl rfl ?_
    exact z_vret h0 hr hlk dJx4a65c_add_72be8_22 (Nat.le_of_ble_eq_true rfl) (Nat.le_of_ble_eq_true rfl) (added_grow ha (nI_1 _) hle hob hv hd hq7 hk7 hk7b (fun i hi => (hg7 i hi).trans (hq i hi)))

set_option maxRecDepth 100000 in
set_option maxHeartbeats 4000000 in
theorem c_Jx4a65c_add_72be8_a {l : Launch} {D : va_G} {cI cZ cO : ClassId} {G : Nat → Nat} {S : PS} {a v : Nat} (ha : isK S 7 a) (hsz : pI S 20 a = nI 0) (hv : isOb S v) (hd : pO S 20 a = some (G 0)) : zMv l yJx4a65c_add_72be8 wsJx4a65c_add_72be8 rm_Jx4a65c_add_72be8 [.ref a, .ref v, .ref (G 0), .int (nI 0)] D cI cZ cO G S (fun S' => Added G S S' a [] v) := by
  refine z_of (cc := cJx4a65c_add_72be8) (maxL := 4) (ret := none) (lo := [some (.ref a), some (.ref v), some (.ref (G 0)), some (.int (nI 0))]) (by decide) rfl rfl (Nat.le_of_ble_eq_true rfl) rfl ?_
  intro pp ee ss mi aa bl mh cd h0 hts hown hr hlk hnm
  have hown : ss.vm.findClass RJx4a65c = some mi.cls := hown
  have inJx4a65c : ∀ w ∈ u_ws RJx4a65c TJx4a65c 3, w ∈ wsJx4a65c_add_72be8 := by decide +kernel
  have lp_48 : zLp ss mi aa mh RJx4a65c 48 0 2 .int := ⟨RJx4a65c, TJx4a65c, 3, "java/util/ArrayList", wsJx4a65c_add_72be8, tyJx4a65c, rfl, by decide, hts, inJx4a65c, hown, hts (.fieldLink RJx4a65c 48 "java/util/ArrayList" "size" "I") (by decide +kernel), fun _ h => h, tyJx4a65c_ok, nmJx4a65c, by decide +kernel, Or.inl rfl⟩
  refine z_iload_n h0 dJx4a65c_add_72be8_0 rfl ?_
  refine z_aload_n h0 dJx4a65c_add_72be8_1 rfl ?_
  refine z_alen0 h0 dJx4a65c_add_72be8_2 ?_
  refine z_icmp_ne (tgt := 11) h0 dJx4a65c_add_72be8_3 (by decide) (fun h3 => absurd nI_0 h3) (fun h3 => ?_)
  refine z_aload_n h0 dJx4a65c_add_72be8_6 rfl ?_
  refine z_cVr (n := 0) (As := []) h0 hts hown (c_Jx4a65c_grow_d5877 (n := 0) ha hsz hd (Or.inl ⟨rfl, rfl⟩) (by omega)) gJx4a65c_add_72be8_Jx4a65c_grow_d5877 rfl (by decide +kernel) ⟨Nat.le_of_ble_eq_true rfl, Nat.le_of_ble_eq_true rfl⟩ kOk7 rfl (by assumption) dJx4a65c_add_72be8_7 rfl rfl (Nat.le_of_ble_eq_true rfl) ⟨Nat.le_of_ble_eq_true rfl, Nat.le_of_ble_eq_true rfl⟩ (fun r7 S7 hp7 => ?_)
  obtain ⟨hq7, k7, g7, hk7, hk7b, hg7, rfl⟩ := hp7
  refine z_astore_n (lo' := [_, _, _, _]) h0 dJx4a65c_add_72be8_10 (by decide) rfl rfl ?_
  refine z_aload_n h0 dJx4a65c_add_72be8_11 rfl ?_
  refine z_iload_n h0 dJx4a65c_add_72be8_12 rfl ?_
  refine z_aload_n h0 dJx4a65c_add_72be8_13 rfl ?_
  refine z_astq h0 (isOb_old (k := 10) (n := k7) hv hq7) dJx4a65c_add_72be8_14 (isK_new (S := S) (q := r7) (k := 10) (n := k7)) (j := 0) (nI_toInt (by omega)) (by show 0 < va_up (pN S) r7 k7 r7; rw [va_up_self]; exact hk7) ?_
  refine z_aload_n h0 dJx4a65c_add_72be8_15 rfl ?_
  refine z_iload_n h0 dJx4a65c_add_72be8_16 rfl ?_
  refine z_iconst (v := 1) h0 dJx4a65c_add_72be8_17 (by decide) ?_
  refine z_iadd h0 dJx4a65c_add_72be8_18 ?_
  refine z_putI h0 fI20 lp_48 dJx4a65c_add_72be8_19 (isK_old (k := 10) (n := k7) ha hq7) rfl rfl ?_
  exact z_vret h0 hr hlk dJx4a65c_add_72be8_22 (Nat.le_of_ble_eq_true rfl) (Nat.le_of_ble_eq_true rfl) (added_grow (xs := []) ha (nI_1 0) (by decide) (fun x hx => nomatch hx) hv hd hq7 hk7 hk7b (fun i hi => absurd hi (Nat.not_lt_zero _)))

theorem c_Jx4a65c_add_72be8 {l : Launch} {D : va_G} {cI cZ cO : ClassId} {G : Nat → Nat} {S : PS} {a d v : Nat} {xs : List Nat} (hA : AL G S a xs) (hd : pO S 20 a = some d) (hle : xs.length < 1000) (hv : isOb S v) :
    zMv l yJx4a65c_add_72be8 wsJx4a65c_add_72be8 rm_Jx4a65c_add_72be8 [.ref a, .ref v, .ref d, .int (nI xs.length)] D cI cZ cO G S (fun S' => Added G S S' a xs v) := by
  obtain ⟨ha, hsz, hle2, hob, d', hd', hcase⟩ := hA
  cases Option.some.inj (hd.symm.trans hd')
  rcases hcase with ⟨rfl, rfl⟩ | ⟨h1, h2, h3, h4, h5⟩
  · exact c_Jx4a65c_add_72be8_a ha hsz hv hd
  · exact c_Jx4a65c_add_72be8_b ha hsz hle hob hv hd h1 h2 h3 h4 h5
theorem AL_mod {G : Nat → Nat} {S : PS} {a : Nat} {z : Int32} {xs : List Nat} (h : AL G S a xs) : AL G (sI S 19 a z) a xs := by
  obtain ⟨h1, h2, h3, h4, h5⟩ := h
  exact ⟨h1, (pI_f (by decide)).trans h2, h3, h4, h5⟩

abbrev rm_Jx4a65c_add_9ea2d : Room := { frames := 6, cells := 1, slots := 1500, locals := 170 }
set_option maxRecDepth 100000 in
set_option maxHeartbeats 4000000 in
theorem c_Jx4a65c_add_9ea2d {l : Launch} {D : va_G} {cI cZ cO : ClassId} {G : Nat → Nat} {S : PS} {a v : Nat} {xs : List Nat} (hA : AL G S a xs) (hle : xs.length < 1000) (hv : isOb S v) : zMi l yJx4a65c_add_9ea2d wsJx4a65c_add_9ea2d rm_Jx4a65c_add_9ea2d [.ref a, .ref v] D cI cZ cO G S (fun r S' => Added G S S' a xs v ∧ r = 1) := by
  obtain ⟨ha, hsz, hle2, hob, d, hd, hcase⟩ := id hA
  refine z_of (cc := cJx4a65c_add_9ea2d) (maxL := 2) (ret := (some .boolean)) (lo := [some (.ref a), some (.ref v)]) (by decide) rfl rfl (Nat.le_of_ble_eq_true rfl) rfl ?_
  intro pp ee ss mi aa bl mh cd h0 hts hown hr hlk hnm
  have hown : ss.vm.findClass RJx4a65c = some mi.cls := hown
  have inJx4a65c : ∀ w ∈ u_ws RJx4a65c TJx4a65c 3, w ∈ wsJx4a65c_add_9ea2d := by decide +kernel
  have lk_9 : zLk ss mi aa RJx4a65c 9 0 1 := ⟨RJx4a65c, TJx4a65c, 3, "java/util/ArrayList", wsJx4a65c_add_9ea2d, rfl, by decide, hts, inJx4a65c, hown, hts (.fieldLink RJx4a65c 9 "java/util/ArrayList" "elementData" "[Ljava/lang/Object;") (by decide +kernel), fun _ h => h⟩
  have lk_48 : zLk ss mi aa RJx4a65c 48 0 2 := ⟨RJx4a65c, TJx4a65c, 3, "java/util/ArrayList", wsJx4a65c_add_9ea2d, rfl, by decide, hts, inJx4a65c, hown, hts (.fieldLink RJx4a65c 48 "java/util/ArrayList" "size" "I") (by decide +kernel), fun _ h => h⟩
  have lk_63 : zLk ss mi aa RJx4a65c 63 0 0 := ⟨RJx4a65c, TJx4a65c, 3, "java/util/ArrayList", wsJx4a65c_add_9ea2d, rfl, by decide, hts, inJx4a65c, hown, hts (.fieldLink RJx4a65c 63 "java/util/ArrayList" "modCount" "I") (by decide +kernel), fun x9 h9 => u_same (hts (.sameField "java/util/ArrayList" "java/util/AbstractList" "modCount" "I") (by decide +kernel)) x9 h9⟩
  have lp_63 : zLp ss mi aa mh RJx4a65c 63 0 0 .int := ⟨RJx4a65c, TJx4a65c, 3, "java/util/ArrayList", wsJx4a65c_add_9ea2d, tyJx4a65c, rfl, by decide, hts, inJx4a65c, hown, hts (.fieldLink RJx4a65c 63 "java/util/ArrayList" "modCount" "I") (by decide +kernel), fun x9 h9 => u_same (hts (.sameField "java/util/ArrayList" "java/util/AbstractList" "modCount" "I") (by decide +kernel)) x9 h9, tyJx4a65c_ok, nmJx4a65c, by decide +kernel, Or.inl rfl⟩
  refine z_aload_n h0 dJx4a65c_add_9ea2d_0 rfl ?_
  refine z_dup h0 dJx4a65c_add_9ea2d_1 rfl ?_
  refine z_getI h0 fI19 lk_63 dJx4a65c_add_9ea2d_2 (by assumption) ?_
  refine z_iconst (v := 1) h0 dJx4a65c_add_9ea2d_5 (by decide) ?_
  refine z_iadd h0 dJx4a65c_add_9ea2d_6 ?_
  refine z_putI h0 fI19 lp_63 dJx4a65c_add_9ea2d_7 (by assumption) rfl rfl ?_
  refine z_aload_n h0 dJx4a65c_add_9ea2d_10 rfl ?_
  refine z_aload_n h0 dJx4a65c_add_9ea2d_11 rfl ?_
  refine z_aload_n h0 dJx4a65c_add_9ea2d_12 rfl ?_
  refine z_getO h0 fO20 lk_9 dJx4a65c_add_9ea2d_13 (by assumption) (by assumption) ?_
  refine z_aload_n h0 dJx4a65c_add_9ea2d_16 rfl ?_
  refine z_getI h0 fI20 lk_48 dJx4a65c_add_9ea2d_17 (by assumption) ?_
  refine z_top (y := nI xs.length) ((pI_f (by decide)).trans hsz) ?_
  refine z_cVv (n := 3) (As := [_, _, _]) h0 hts hown (c_Jx4a65c_add_72be8 (AL_mod hA) hd hle hv) gJx4a65c_add_9ea2d_Jx4a65c_add_72be8 rfl (by decide +kernel) ⟨Nat.le_of_ble_eq_true rfl, Nat.le_of_ble_eq_true rfl⟩ kOk7 rfl (by assumption) dJx4a65c_add_9ea2d_20 rfl rfl (Nat.le_of_ble_eq_true rfl) ⟨Nat.le_of_ble_eq_true rfl, Nat.le_of_ble_eq_true rfl⟩ (fun S20 hp20 => ?_)
  refine z_iconst (v := 1) h0 dJx4a65c_add_9ea2d_23 (by decide) ?_
  exact z_zret h0 hr rfl hlk dJx4a65c_add_9ea2d_24 (Nat.le_of_ble_eq_true rfl) (Nat.le_of_ble_eq_true rfl) ⟨added_mod hp20, rfl⟩

abbrev rm_Jxa1e45_init_da8c8 : Room := { frames := 1, cells := 0, slots := 0, locals := 20 }
set_option maxRecDepth 100000 in
set_option maxHeartbeats 4000000 in
theorem c_Jxa1e45_init_da8c8 {l : Launch} {D : va_G} {cI cZ cO : ClassId} {G : Nat → Nat} {S : PS} {a : Nat} : zMv l yJxa1e45_init_da8c8 wsJxa1e45_init_da8c8 rm_Jxa1e45_init_da8c8 [.ref a] D cI cZ cO G S (fun S' => S = S') := by
  refine z_of (cc := cJxa1e45_init_da8c8) (maxL := 1) (ret := none) (lo := [some (.ref a)]) (by decide) rfl rfl (Nat.le_of_ble_eq_true rfl) rfl ?_
  intro pp ee ss mi aa bl mh cd h0 hts hown hr hlk hnm
  have hown : ss.vm.findClass RJxa1e45 = some mi.cls := hown
  refine z_aload_n h0 dJxa1e45_init_da8c8_0 rfl ?_
  refine z_objInit h0 hown (hts (.methodLink RJxa1e45 1 objectInit) (by decide +kernel)) (hts (.instanceMethod objectInit) (by decide +kernel)) (hts (.code objectInit ⟨#[0xb1]⟩ 1 none) (by decide +kernel)) dJxa1e45_init_da8c8_1 (Nat.le_of_ble_eq_true rfl) (Nat.le_of_ble_eq_true rfl) ?_
  exact z_vret h0 hr hlk dJxa1e45_init_da8c8_4 (Nat.le_of_ble_eq_true rfl) (Nat.le_of_ble_eq_true rfl) rfl

abbrev rm_Jxc12de_init_da8c8 : Room := { frames := 2, cells := 0, slots := 0, locals := 40 }
set_option maxRecDepth 100000 in
set_option maxHeartbeats 4000000 in
theorem c_Jxc12de_init_da8c8 {l : Launch} {D : va_G} {cI cZ cO : ClassId} {G : Nat → Nat} {S : PS} {a : Nat} (ha : isK S 7 a) : zMv l yJxc12de_init_da8c8 wsJxc12de_init_da8c8 rm_Jxc12de_init_da8c8 [.ref a] D cI cZ cO G S (fun S' => S' = sI S 19 a 0) := by
  refine z_of (cc := cJxc12de_init_da8c8) (maxL := 1) (ret := none) (lo := [some (.ref a)]) (by decide) rfl rfl (Nat.le_of_ble_eq_true rfl) rfl ?_
  intro pp ee ss mi aa bl mh cd h0 hts hown hr hlk hnm
  have hown : ss.vm.findClass RJxc12de = some mi.cls := hown
  have inJx4a65c : ∀ w ∈ u_ws RJx4a65c TJx4a65c 3, w ∈ wsJxc12de_init_da8c8 := by decide +kernel
  have lp_7 : zLp ss mi aa mh RJxc12de 7 0 0 .int := ⟨RJx4a65c, TJx4a65c, 3, "java/util/AbstractList", wsJxc12de_init_da8c8, tyJx4a65c, rfl, by decide, hts, inJx4a65c, hown, hts (.fieldLink RJxc12de 7 "java/util/AbstractList" "modCount" "I") (by decide +kernel), fun _ h => h, tyJx4a65c_ok, nmJx4a65c, by decide +kernel, Or.inl rfl⟩
  refine z_aload_n h0 dJxc12de_init_da8c8_0 rfl ?_
  refine z_cIv (n := 0) (As := []) h0 hts hown (c_Jxa1e45_init_da8c8) gJxc12de_init_da8c8_Jxa1e45_init_da8c8 rfl (by decide +kernel) ⟨Nat.le_of_ble_eq_true rfl, Nat.le_of_ble_eq_true rfl⟩ (hts (.initialized RJxa1e45) (by decide +kernel)) (hts (.methodLink RJxc12de 1 yJxa1e45_init_da8c8) (by decide +kernel)) (hts (.instanceMethod yJxa1e45_init_da8c8) (by decide +kernel)) rfl dJxc12de_init_da8c8_1 rfl rfl (Nat.le_of_ble_eq_true rfl) ⟨Nat.le_of_ble_eq_true rfl, Nat.le_of_ble_eq_true rfl⟩ (fun S1 hp1 => ?_)
  obtain rfl := hp1
  refine z_aload_n h0 dJxc12de_init_da8c8_4 rfl ?_
  refine z_iconst (v := 0) h0 dJxc12de_init_da8c8_5 (by decide) ?_
  refine z_putI h0 fI19 lp_7 dJxc12de_init_da8c8_6 (by assumption) rfl rfl ?_
  exact z_vret h0 hr hlk dJxc12de_init_da8c8_9 (Nat.le_of_ble_eq_true rfl) (Nat.le_of_ble_eq_true rfl) rfl

abbrev rm_Jx4a65c_init_da8c8 : Room := { frames := 3, cells := 0, slots := 0, locals := 60 }
set_option maxRecDepth 100000 in
set_option maxHeartbeats 4000000 in
theorem c_Jx4a65c_init_da8c8 {l : Launch} {D : va_G} {cI cZ cO : ClassId} {G : Nat → Nat} {S : PS} {a : Nat} (ha : isK S 7 a) : zMv l yJx4a65c_init_da8c8 wsJx4a65c_init_da8c8 rm_Jx4a65c_init_da8c8 [.ref a] D cI cZ cO G S (fun S' => S' = sO (sI S 19 a 0) 20 a (some (G 0))) := by
  refine z_of (cc := cJx4a65c_init_da8c8) (maxL := 1) (ret := none) (lo := [some (.ref a)]) (by decide) rfl rfl (Nat.le_of_ble_eq_true rfl) rfl ?_
  intro pp ee ss mi aa bl mh cd h0 hts hown hr hlk hnm
  have hown : ss.vm.findClass RJx4a65c = some mi.cls := hown
  have inJx4a65c : ∀ w ∈ u_ws RJx4a65c TJx4a65c 3, w ∈ wsJx4a65c_init_da8c8 := by decide +kernel
  have lp_9 : zLp ss mi aa mh RJx4a65c 9 0 1 (.array (.object "java/lang/Object")) := ⟨RJx4a65c, TJx4a65c, 3, "java/util/ArrayList", wsJx4a65c_init_da8c8, tyJx4a65c, rfl, by decide, hts, inJx4a65c, hown, hts (.fieldLink RJx4a65c 9 "java/util/ArrayList" "elementData" "[Ljava/lang/Object;") (by decide +kernel), fun _ h => h, tyJx4a65c_ok, nmJx4a65c, by decide +kernel, Or.inl rfl⟩
  refine z_aload_n h0 dJx4a65c_init_da8c8_0 rfl ?_
  refine z_cIv (n := 0) (As := []) h0 hts hown (c_Jxc12de_init_da8c8 ha) gJx4a65c_init_da8c8_Jxc12de_init_da8c8 rfl (by decide +kernel) ⟨Nat.le_of_ble_eq_true rfl, Nat.le_of_ble_eq_true rfl⟩ (hts (.initialized RJxc12de) (by decide +kernel)) (hts (.methodLink RJx4a65c 1 yJxc12de_init_da8c8) (by decide +kernel)) (hts (.instanceMethod yJxc12de_init_da8c8) (by decide +kernel)) rfl dJx4a65c_init_da8c8_1 rfl rfl (Nat.le_of_ble_eq_true rfl) ⟨Nat.le_of_ble_eq_true rfl, Nat.le_of_ble_eq_true rfl⟩ (fun S1 hp1 => ?_)
  subst hp1
  refine z_aload_n h0 dJx4a65c_init_da8c8_4 rfl ?_
  refine z_empty h0 hown (hts (.fieldLink RJx4a65c 39 "java/util/ArrayList" "DEFAULTCAPACITY_EMPTY_ELEMENTDATA" "[Ljava/lang/Object;") (by decide +kernel)) dJx4a65c_init_da8c8_5 ?_
  refine z_putO h0 fO20 lp_9 dJx4a65c_init_da8c8_8 (by assumption) rfl rfl ?_
  exact z_vret h0 hr hlk dJx4a65c_init_da8c8_11 (Nat.le_of_ble_eq_true rfl) (Nat.le_of_ble_eq_true rfl) rfl

abbrev rm_Jx4a65c_clear_da8c8 : Room := { frames := 0, cells := 0, slots := 0, locals := 0 }
set_option maxRecDepth 100000 in
set_option maxHeartbeats 4000000 in
theorem c_Jx4a65c_clear_da8c8 {l : Launch} {D : va_G} {cI cZ cO : ClassId} {G : Nat → Nat} {S : PS} {a : Nat} {xs : List Nat} (hA : AL G S a xs) : zMv l yJx4a65c_clear_da8c8 wsJx4a65c_clear_da8c8 rm_Jx4a65c_clear_da8c8 [.ref a] D cI cZ cO G S (fun S' => AL G S' a [] ∧ Fr S S' a) := by
  obtain ⟨ha, hsz, hle, hob, d, hd, hcase⟩ := id hA
  refine z_of (cc := cJx4a65c_clear_da8c8) (maxL := 4) (ret := none) (lo := [some (.ref a), none, none, none]) (by decide) rfl rfl (Nat.le_of_ble_eq_true rfl) rfl ?_
  intro pp ee ss mi aa bl mh cd h0 hts hown hr hlk hnm
  have hown : ss.vm.findClass RJx4a65c = some mi.cls := hown
  have inJx4a65c : ∀ w ∈ u_ws RJx4a65c TJx4a65c 3, w ∈ wsJx4a65c_clear_da8c8 := by decide +kernel
  have lk_9 : zLk ss mi aa RJx4a65c 9 0 1 := ⟨RJx4a65c, TJx4a65c, 3, "java/util/ArrayList", wsJx4a65c_clear_da8c8, rfl, by decide, hts, inJx4a65c, hown, hts (.fieldLink RJx4a65c 9 "java/util/ArrayList" "elementData" "[Ljava/lang/Object;") (by decide +kernel), fun _ h => h⟩
  have lk_48 : zLk ss mi aa RJx4a65c 48 0 2 := ⟨RJx4a65c, TJx4a65c, 3, "java/util/ArrayList", wsJx4a65c_clear_da8c8, rfl, by decide, hts, inJx4a65c, hown, hts (.fieldLink RJx4a65c 48 "java/util/ArrayList" "size" "I") (by decide +kernel), fun _ h => h⟩
  have lk_63 : zLk ss mi aa RJx4a65c 63 0 0 := ⟨RJx4a65c, TJx4a65c, 3, "java/util/ArrayList", wsJx4a65c_clear_da8c8, rfl, by decide, hts, inJx4a65c, hown, hts (.fieldLink RJx4a65c 63 "java/util/ArrayList" "modCount" "I") (by decide +kernel), fun x9 h9 => u_same (hts (.sameField "java/util/ArrayList" "java/util/AbstractList" "modCount" "I") (by decide +kernel)) x9 h9⟩
  have lp_48 : zLp ss mi aa mh RJx4a65c 48 0 2 .int := ⟨RJx4a65c, TJx4a65c, 3, "java/util/ArrayList", wsJx4a65c_clear_da8c8, tyJx4a65c, rfl, by decide, hts, inJx4a65c, hown, hts (.fieldLink RJx4a65c 48 "java/util/ArrayList" "size" "I") (by decide +kernel), fun _ h => h, tyJx4a65c_ok, nmJx4a65c, by decide +kernel, Or.inl rfl⟩
  have lp_63 : zLp ss mi aa mh RJx4a65c 63 0 0 .int := ⟨RJx4a65c, TJx4a65c, 3, "java/util/ArrayList", wsJx4a65c_clear_da8c8, tyJx4a65c, rfl, by decide, hts, inJx4a65c, hown, hts (.fieldLink RJx4a65c 63 "java/util/ArrayList" "modCount" "I") (by decide +kernel), fun x9 h9 => u_same (hts (.sameField "java/util/ArrayList" "java/util/AbstractList" "modCount" "I") (by decide +kernel)) x9 h9, tyJx4a65c_ok, nmJx4a65c, by decide +kernel, Or.inl rfl⟩
  have loop : ∀ (n i : Nat) (Q0 : Nat → Nat → Option Nat), xs.length - i < n → i ≤ xs.length → (∀ b, pO S 20 a ≠ some b → Q0 b = pQ S b) → ZW pp l ee rm_Jx4a65c_clear_da8c8 ss mi aa bl mh cd D cI cZ cO (zA cI cZ cO S ss.heap.size) (MQ bl (zQv D cI cZ cO S (fun S' => AL G S' a [] ∧ Fr S S' a) ss.heap.size) aa ss rm_Jx4a65c_clear_da8c8.cells rm_Jx4a65c_clear_da8c8.slots (zA cI cZ cO S ss.heap.size)) [] 4 (pL S, pK S, pN S, up2 (up2 (pI S) 19 a (pI S 19 a + 1)) 20 a 0, pO S, pR S, Q0) 0 0 27 [some (.ref a), some (.ref d), some (.int (nI xs.length)), some (.int (nI i))] [] := by
    intro n
    induction n with
    | zero => intro i Q0 h; exact absurd h (Nat.not_lt_zero _)
    | succ n ih =>
      intro i Q0 hm hi hQ
      refine z_iload_n h0 dJx4a65c_clear_da8c8_27 rfl ?_
      refine z_iload_n h0 dJx4a65c_clear_da8c8_28 rfl ?_
      refine z_icmp_ge (tgt := 42) h0 dJx4a65c_clear_da8c8_29 (by decide) (fun h29 => ?_) (fun h29 => ?_)
      · exact z_vret h0 hr hlk dJx4a65c_clear_da8c8_42 (Nat.le_of_ble_eq_true rfl) (Nat.le_of_ble_eq_true rfl) ⟨⟨ha, up2_s _ _ _ _, by simp, fun x hx => (nomatch hx), d, hd, by
          rcases hcase with ⟨h, -⟩ | ⟨g1, g2, g3, g4, g5⟩
          · exact Or.inl ⟨h, rfl⟩
          · exact Or.inr ⟨g1, g2, g3, Nat.zero_le _, fun i hi => absurd hi (Nat.not_lt_zero _)⟩⟩, fun b hb => ⟨hb, rfl, rfl, rfl, fun hba => ⟨fun f => (up2_a _ _ _ _ hba).trans (up2_a _ _ _ _ hba), fun f => rfl⟩, fun h => hQ b h⟩, fun d h => Or.inl h, fun b hb => Or.inl hb⟩
      · have hlt : i < xs.length := nI_ltof h29 (by omega)
        obtain ⟨hd10, hpos, hcap, hxn, hq⟩ := AL_row hA hd hlt
        refine z_aload_n h0 dJx4a65c_clear_da8c8_32 rfl ?_
        refine z_iload_n h0 dJx4a65c_clear_da8c8_33 rfl ?_
        refine z_null h0 dJx4a65c_clear_da8c8_34 ?_
        refine z_astN h0 dJx4a65c_clear_da8c8_35 (by assumption) (nI_toInt (by omega)) (by show i < pN S d; omega) ?_
        refine z_iinc (lo' := [_, _, _, _]) (v := nI (i + 1)) h0 dJx4a65c_clear_da8c8_36 rfl (nI_1 i) (by decide) rfl rfl ?_
        refine z_goto (tgt := 27) h0 dJx4a65c_clear_da8c8_39 (by decide) ?_
        exact ih (i + 1) _ (by omega) (by omega) (fun b hb => (up2_row _ _ (show b ≠ d from fun z => hb (z ▸ hd))).trans (hQ b hb))
  refine z_aload_n h0 dJx4a65c_clear_da8c8_0 rfl ?_
  refine z_dup h0 dJx4a65c_clear_da8c8_1 rfl ?_
  refine z_getI h0 fI19 lk_63 dJx4a65c_clear_da8c8_2 (by assumption) ?_
  refine z_iconst (v := 1) h0 dJx4a65c_clear_da8c8_5 (by decide) ?_
  refine z_iadd h0 dJx4a65c_clear_da8c8_6 ?_
  refine z_putI h0 fI19 lp_63 dJx4a65c_clear_da8c8_7 (by assumption) rfl rfl ?_
  refine z_aload_n h0 dJx4a65c_clear_da8c8_10 rfl ?_
  refine z_getO h0 fO20 lk_9 dJx4a65c_clear_da8c8_11 (by assumption) (by assumption) ?_
  refine z_astore_n (lo' := [_, _, _, _]) h0 dJx4a65c_clear_da8c8_14 (by decide) rfl rfl ?_
  refine z_aload_n h0 dJx4a65c_clear_da8c8_15 rfl ?_
  refine z_getI h0 fI20 lk_48 dJx4a65c_clear_da8c8_16 (by assumption) ?_
  refine z_top (y := nI xs.length) ((pI_f (by decide)).trans hsz) ?_
  refine z_istore_n (lo' := [_, _, _, _]) h0 dJx4a65c_clear_da8c8_19 (by decide) rfl rfl ?_
  refine z_aload_n h0 dJx4a65c_clear_da8c8_20 rfl ?_
  refine z_iconst (v := 0) h0 dJx4a65c_clear_da8c8_21 (by decide) ?_
  refine z_dup_x1 h0 dJx4a65c_clear_da8c8_22 rfl rfl ?_
  refine z_putI h0 fI20 lp_48 dJx4a65c_clear_da8c8_23 (by assumption) rfl rfl ?_
  refine z_istore_n (lo' := [_, _, _, _]) h0 dJx4a65c_clear_da8c8_26 (by decide) rfl rfl ?_
  exact loop (xs.length + 1) 0 _ (by omega) (Nat.zero_le _) (fun b _ => rfl)

end LISTS
