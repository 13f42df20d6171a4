/-! THE WHOLE. -/
section WHOLE
theorem Rep_Ext {G : Nat → Nat} {S S' : PS} {x m : Nat} {M : MS} (hm : isK S 6 m) (h : Ext S S' m) (hC : RepC G S x M) : RepC G S' x M := by
  obtain ⟨n0, ar, L, C, ⟨⟨x1, x2, x3, x4, x5⟩, ⟨y1, y2⟩, ⟨z1, z2⟩, hl, ls, r1, r2, r3⟩⟩ := hC
  have K : ∀ {k d : Nat}, isK S k d → isK S' k d := fun g => ⟨(h.1 _ g.1).1, (h.1 _ g.1).2.1.trans g.2⟩
  have I : ∀ {k d : Nat} (f : Nat), isK S k d → k ≠ 6 → pI S' f d = pI S f d := fun f g hk => ((h.1 _ g.1).2.2.2.2.2 (isK_neK g hm hk) f).1
  have O : ∀ {k d : Nat} (f : Nat), isK S k d → k ≠ 6 → pO S' f d = pO S f d := fun f g hk => ((h.1 _ g.1).2.2.2.2.2 (isK_neK g hm hk) f).2
  have T : ∀ {d : Nat}, isK S 4 d → tr S' d = tr S d := fun h => by unfold tr; rw [I 10 h (by decide), I 11 h (by decide), I 12 h (by decide), I 13 h (by decide), I 14 h (by decide)]
  refine ⟨n0, ar, L, C, ⟨⟨K x1, (O _ x1 (by decide)).trans x2, (O _ x1 (by decide)).trans x3, (O _ x1 (by decide)).trans x4, (O _ x1 (by decide)).trans x5⟩, ⟨K y1, (T y1).trans y2⟩, ⟨K z1, (O _ z1 (by decide)).trans z2⟩, ⟨fun i hi => ?_, fun i j hi hj hij => ⟨(hl.2 i j hi hj hij).1, fun d h1 h2 => (hl.2 i j hi hj hij).2 d ((O _ (hl.1 i hi).1 (by decide)).symm.trans h1) ((O _ (hl.1 j hj).1 (by decide)).symm.trans h2)⟩⟩, ls, fun i a hi => ?_, fun i a hi => ?_, fun k a hk => ?_⟩⟩
  · obtain ⟨q1, q2, q3, q4, d, e1, e2⟩ := hl.1 i hi
    refine ⟨K q1, (I 20 q1 (by decide)).trans q2, q3, fun y hy => ?_, d, (O _ q1 (by decide)).trans e1, ?_⟩
    · obtain ⟨k, hk, h1⟩ := q4 y hy
      exact ⟨k, hk, K h1⟩
    · rcases e2 with e2 | ⟨w1, w2, w3, w4, w5⟩
      · exact Or.inl e2
      · have hN := (h.1 _ w1.1).2.2.1
        have hQ := (h.1 _ w1.1).2.2.2.2.1
        exact Or.inr ⟨K w1, by rw [hN]; exact w2, by rw [hN]; exact w3, by rw [hN]; exact w4, by rw [hQ]; exact w5⟩
  · obtain ⟨h1, h2, h3, h4, h5, h6, h7, h8, ⟨cu, k1, k2, k3, k4⟩, h9⟩ := r1 i a hi
    exact ⟨K h1, (I 6 h1 (by decide)).trans h2, (O _ h1 (by decide)).trans h3, (O _ h1 (by decide)).trans h4, (I 7 h1 (by decide)).trans h5, (I 8 h1 (by decide)).trans h6, (I 9 h1 (by decide)).trans h7, h8, ⟨cu, (O _ h1 (by decide)).trans k1, K k2, k3, fun z => (T k2).trans (k4 z)⟩, fun j t hj => ⟨K (h9 j t hj).1, (T (h9 j t hj).1).trans (h9 j t hj).2⟩⟩
  · obtain ⟨h1, h2, h3, ⟨t, k1, k2, k3⟩, h4, h5⟩ := r2 i a hi
    exact ⟨K h1, (I 2 h1 (by decide)).trans h2, (I 3 h1 (by decide)).trans h3, ⟨t, (O _ h1 (by decide)).trans k1, K k2, (T k2).trans k3⟩, fun z => (I 4 h1 (by decide)).trans (h4 z), fun z => (I 5 h1 (by decide)).trans (h5 z)⟩
  · obtain ⟨h1, h2, ⟨t, k1, k2, k3⟩, h4⟩ := r3 k a hk
    exact ⟨K h1, (I 0 h1 (by decide)).trans h2, ⟨t, (O _ h1 (by decide)).trans k1, K k2, (T k2).trans k3⟩, (I 1 h1 (by decide)).trans h4⟩
theorem Rep_new {G : Nat → Nat} {S : PS} {x q k n : Nat} {M : MS} (hq : q ∉ pL S) (hC : RepC G S x M) : RepC G (sN S q k n) x M := by
  obtain ⟨n0, ar, L, C, h⟩ := hC
  exact ⟨n0, ar, L, C, RC_same h (KF_new hq) (LS_new h.2.2.2.1 hq) (fun d hd _ => have hne : d ≠ q := fun z => hq (z ▸ hd); ⟨fun f => upA_a _ _ _ hne, fun f => upA_a _ _ _ hne⟩)⟩
section WROWS
variable {p : Program} {l : Launch} {e : Env} {s : State} {mi : MethodId} {args : Array Value} {below : List Frame} {meth : Method} {c : Code} {D : va_G} {cI cZ cO cJ : ClassId} {A : Nat → Prop} {Q : State → Prop} {S : PS} {cells slots pc : Nat} {lo : List (Option Value)} {st : List Value} {G : Nat → Nat} {R : Room} {nL : Nat} {cc : ByteArray} {X : va_W}
theorem z_newJ (h0 : ZC p s c cc nL D cI cZ cO A G) (hJ : va_K D vwCl [(cJ, .long)] s) (harr : (Cond.arrayClass .long).before args s = true) (hcells : cells + 1 ≤ R.cells) (hslots : slots + 1 ≤ R.slots) (hd : decode cc pc = .ok (.newarray .long, 2))
    (kk : ∀ q : Nat, ZW p l e R s mi args below meth c D cI cZ cO A Q (oC cJ q (fun _ => 0)) nL S (cells + 1) (slots + 1) (pc + 2) lo (.ref q :: st)) : ZW p l e R s mi args below meth c D cI cZ cO A Q [] nL S cells slots pc lo (.int 1 :: st) := by
  intro H locs ls hP hD hS hl9
  refine va_newa h0.1 h0.2.1 (atype := .long) harr (ty := .long) rfl h0.2.2.2.1 hP hD hS h0.2.2.2.2.1 (n := 1) (N' := 1) (a0 := (1, .inr (.inl (fun _ => 0)))) (fun _ => rfl) (by decide) (by decide) (by decide) hcells hslots hd (fun q cA H1 gK g1 g2 g3 => ?_)
  have hcA : cA = cJ := by
    have h1 : s.vm.findClass ("[" ++ FieldType.long.toString) = some cA := (gK.2 3 (cA, .long) rfl).2
    have h2 : s.vm.findClass ("[" ++ FieldType.long.toString) = some cJ := (hJ.2 0 (cJ, .long) rfl).2
    exact Option.some.inj (h1.symm.trans h2)
  subst hcA
  have hg : ∀ (k : Nat) (z : Nat × va_E), (oC cA q (fun _ => 0) ++ zw cI cZ cO S)[k]? = some z → (([] ++ zw cI cZ cO S) ++ [(q, .inl (cA, 1, .inr (.inl (fun _ => 0))))])[if k = 0 then (zw cI cZ cO S).length else k - 1]? = some z := by
    intro k z hk
    match k, hk with
    | 0, hk => rw [if_pos rfl]; simpa using hk
    | k + 1, hk =>
      rw [if_neg (Nat.succ_ne_zero _)]
      have hk' : (zw cI cZ cO S)[k]? = some z := hk
      show ((zw cI cZ cO S) ++ [(q, .inl (cA, 1, .inr (.inl (fun _ => 0))))])[k]? = some z
      rw [List.getElem?_append_left (List.getElem?_eq_some_iff.mp hk').1]
      exact hk'
  refine kk q H1 locs ls (g1.by _ hg) (g2.by _ hg (fun i j hi hj h => ?_)) g3 hl9
  have hi' : i < (zw cI cZ cO S).length + 1 := by simpa [Nat.add_comm] using hi
  have hj' : j < (zw cI cZ cO S).length + 1 := by simpa [Nat.add_comm] using hj
  by_cases h1 : i = 0
  · by_cases h2 : j = 0
    · omega
    · rw [if_pos h1, if_neg h2] at h; omega
  · by_cases h2 : j = 0
    · rw [if_neg h1, if_pos h2] at h; omega
    · rw [if_neg h1, if_neg h2] at h; omega
theorem z_lawret {b : Nat} (h0 : ZC p s c code 7 D cI cZ cO (fun q => s.heap.size ≤ q) G) (hr : meth.sig.returnType = ret) (hlocks : meth.locks = false) (hd : decode code pc = .ok (.ireturn, 1)) (hc : cells ≤ 601024) (hs : slots ≤ 7293034) : ZW p l e room_1 s mi #[Value.ref b] below meth c D cI cZ cO (fun q => s.heap.size ≤ q) (lw_Z below #[Value.ref b] s) X nL S cells slots pc lo [.int 1] := fun H locs ls hP hD hS hl9 =>
  W.widen hc hs (va_forget (fun q hq => hS.2.2 q hq) (lw_ret h0.1 h0.2.1 hr hlocks hd))
end WROWS
abbrev PS0 : PS := ([], fun _ => 0, fun _ => 0, fun _ _ => 0, fun _ _ => none, fun _ _ => 0, fun _ _ => none)

set_option maxRecDepth 100000 in
set_option maxHeartbeats 4000000 in
theorem whole_start {p : Program} {e : Env} {s : State} {m : MethodId} {below : List Frame} {meth : Method} {c : Code} (l : Launch) (hl : l.stackTraces = false) {b L : Nat} {xs : Nat → Int32} (hL : L ≤ 2048) (C0 : lw_At p s m meth c b L xs) : W p l e room_1 s m #[Value.ref b] below meth c s.heap [] 0 0 (lw_Z below #[Value.ref b] s) (entryFrame m ([Value.ref b] : List Value).toArray 7) := by
  obtain ⟨hx, hb, hr, hml, hown, htl, hX, hbl, hlocks, hgv⟩ := C0
  have hown : s.vm.findClass RL = some m.cls := hown
  have htw : ∀ w ∈ wsL_law, w.before #[Value.ref b] s = true := fun w h => htl w (wsL_law_in w h)
  obtain ⟨D, cI, cZ, cO, cJ, hK, hJ⟩ := start_K htl
  obtain ⟨G, hG⟩ := start_G htl hgv
  have hbA : ¬ (fun q => s.heap.size ≤ q) b := Nat.not_le.mpr hbl
  have h0 : ZC p s c code 7 D cI cZ cO (fun q => s.heap.size ≤ q) G := ⟨hx, hb, hml, hK, fun _ h => h, hG⟩
  have loop : ∀ (n k x mo o cs sl : Nat) (S : PS) (f : Nat → Int64) (M : MS) (Am : Nat → Nat) (z5 z6 : Option Value), L - 4 * k < n → k ≤ 512 → LI G S x mo Am M k → cs ≤ 100 + 1010 * k → sl ≤ 20000 + 13000 * k → ZW p l e room_1 s m #[Value.ref b] below meth c D cI cZ cO (fun q => s.heap.size ≤ q) (lw_Z below #[Value.ref b] s) (oC cJ o f) 7 S cs sl 23 [some (.ref b), some (.ref x), some (.ref mo), some (.ref o), some (.int (nI (4 * k))), z5, z6] [] := by
    intro n
    induction n with
    | zero => intro k x mo o cs sl S f M Am z5 z6 h; exact absurd h (Nat.not_lt_zero _)
    | succ n ih =>
      intro k x mo o cs sl S f M Am z5 z6 hn hk5 hI hcs hsl
      refine z_iload h0 dL_law_23 rfl ?_
      refine z_aload_n h0 dL_law_25 rfl ?_
      refine z_slen h0 hX hbl hbA dL_law_26 ?_
      refine z_iconst (v := 4) h0 dL_law_27 (by decide) ?_
      refine z_isub h0 dL_law_28 ?_
      refine z_icmp_gt (tgt := 968) h0 dL_law_29 (by decide) (fun hgt => ?_) (fun hle => ?_)
      · refine z_iconst (v := 1) h0 dL_law_968 (by decide) ?_
        exact z_lawret h0 hr hlocks dL_law_969 (by omega) (by omega)
      · have hk4 : 4 * k + 4 ≤ L := by
          have hle' : ¬ (nI L - nI 4) < nI (4 * k) := hle
          rw [Int32.lt_iff_toInt_lt, nI_toInt (by omega), pk_sub_toInt (by omega) (by decide)] at hle'
          omega
        have next : ∀ (S' : PS) (f' : Nat → Int64) (M' : MS) (cs' sl' : Nat) (z5 z6 : Option Value), LI G S' x mo Am M' (k + 1) → cs' ≤ 100 + 1010 * (k + 1) → sl' ≤ 20000 + 13000 * (k + 1) → ZW p l e room_1 s m #[Value.ref b] below meth c D cI cZ cO (fun q => s.heap.size ≤ q) (lw_Z below #[Value.ref b] s) (oC cJ o f') 7 S' cs' sl' 962 [some (.ref b), some (.ref x), some (.ref mo), some (.ref o), some (.int (nI (4 * k))), z5, z6] [] := by
          intro S' f' M' cs' sl' z5 z6 hI' hcs' hsl'
          refine z_iinc (lo' := [_, _, _, _, _, _, _]) (v := nI (4 * (k + 1))) h0 dL_law_962 rfl (nI_add (4 * k) 4) (by decide) rfl rfl ?_
          refine z_goto (tgt := 23) h0 dL_law_965 (by decide) ?_
          exact ih (k + 1) x mo o cs' sl' S' f' M' Am z5 z6 (by omega) (by omega) hI' hcs' hsl'
        refine z_aload_n h0 dL_law_32 rfl ?_
        refine z_iload h0 dL_law_33 rfl ?_
        refine z_sld h0 hX hbl hbA (j := 4 * k) (nI_toInt (by omega)) (by omega) dL_law_35 ?_
        refine z_bipush (v := 31) h0 dL_law_36 (by decide) ?_
        refine z_iand h0 dL_law_38 ?_
        obtain ⟨j, hj, ej⟩ := pk_andE (xs (4 * k)) (m := 31) 5 (by decide)
        refine z_top ej ?_
        rcases (show j = 0 ∨ j = 1 ∨ j = 2 ∨ j = 3 ∨ j = 4 ∨ j = 5 ∨ j = 6 ∨ j = 7 ∨ j = 8 ∨ j = 9 ∨ j = 10 ∨ j = 11 ∨ j = 12 ∨ j = 13 ∨ j = 14 ∨ j = 15 ∨ j = 16 ∨ 17 ≤ j by omega) with rfl | rfl | rfl | rfl | rfl | rfl | rfl | rfl | rfl | rfl | rfl | rfl | rfl | rfl | rfl | rfl | rfl | hj17
        · refine z_tableIn (off := 81) (tgt := 120) h0 dL_law_39 (by decide) (by decide) (by decide) (by decide) ?_
          exact law_0 h0 hJ htw hown hl hX hbl hbA hk4 hL hI hcs hsl next
        · refine z_tableIn (off := 137) (tgt := 176) h0 dL_law_39 (by decide) (by decide) (by decide) (by decide) ?_
          exact law_1 h0 hJ htw hown hl hX hbl hbA hk4 hL hI hcs hsl next
        · refine z_tableIn (off := 217) (tgt := 256) h0 dL_law_39 (by decide) (by decide) (by decide) (by decide) ?_
          exact law_2 h0 hJ htw hown hl hX hbl hbA hk4 hL hI hcs hsl next
        · refine z_tableIn (off := 280) (tgt := 319) h0 dL_law_39 (by decide) (by decide) (by decide) (by decide) ?_
          exact law_3 h0 hJ htw hown hl hX hbl hbA hk4 hL hI hcs hsl next
        · refine z_tableIn (off := 336) (tgt := 375) h0 dL_law_39 (by decide) (by decide) (by decide) (by decide) ?_
          exact law_4 h0 hJ htw hown hl hX hbl hbA hk4 hL hI hcs hsl next
        · refine z_tableIn (off := 392) (tgt := 431) h0 dL_law_39 (by decide) (by decide) (by decide) (by decide) ?_
          exact law_5 h0 hJ htw hown hl hX hbl hbA hk4 hL hI hcs hsl next
        · refine z_tableIn (off := 448) (tgt := 487) h0 dL_law_39 (by decide) (by decide) (by decide) (by decide) ?_
          exact law_6 h0 hJ htw hown hl hX hbl hbA hk4 hL hI hcs hsl next
        · refine z_tableIn (off := 504) (tgt := 543) h0 dL_law_39 (by decide) (by decide) (by decide) (by decide) ?_
          exact law_7 h0 hJ htw hown hl hX hbl hbA hk4 hL hI hcs hsl next
        · refine z_tableIn (off := 572) (tgt := 611) h0 dL_law_39 (by decide) (by decide) (by decide) (by decide) ?_
          exact law_8 h0 hJ htw hown hl hX hbl hbA hk4 hL hI hcs hsl next
        · refine z_tableIn (off := 640) (tgt := 679) h0 dL_law_39 (by decide) (by decide) (by decide) (by decide) ?_
          exact law_9 h0 hJ htw hown hl hX hbl hbA hk4 hL hI hcs hsl next
        · refine z_tableIn (off := 720) (tgt := 759) h0 dL_law_39 (by decide) (by decide) (by decide) (by decide) ?_
          exact law_10 h0 hJ htw hown hl hX hbl hbA hk4 hL hI hcs hsl next
        · refine z_tableIn (off := 733) (tgt := 772) h0 dL_law_39 (by decide) (by decide) (by decide) (by decide) ?_
          exact law_11 h0 hJ htw hown hl hX hbl hbA hk4 hL hI hcs hsl next
        · refine z_tableIn (off := 801) (tgt := 840) h0 dL_law_39 (by decide) (by decide) (by decide) (by decide) ?_
          exact law_12 h0 hJ htw hown hl hX hbl hbA hk4 hL hI hcs hsl next
        · refine z_tableIn (off := 814) (tgt := 853) h0 dL_law_39 (by decide) (by decide) (by decide) (by decide) ?_
          exact law_13 h0 hJ htw hown hl hX hbl hbA hk4 hL hI hcs hsl next
        · refine z_tableIn (off := 882) (tgt := 921) h0 dL_law_39 (by decide) (by decide) (by decide) (by decide) ?_
          exact law_14 h0 hJ htw hown hl hX hbl hbA hk4 hL hI hcs hsl next
        · refine z_tableIn (off := 896) (tgt := 935) h0 dL_law_39 (by decide) (by decide) (by decide) (by decide) ?_
          exact law_15 h0 hJ htw hown hl hX hbl hbA hk4 hL hI hcs hsl next
        · refine z_tableIn (off := 910) (tgt := 949) h0 dL_law_39 (by decide) (by decide) (by decide) (by decide) ?_
          exact law_16 h0 hJ htw hown hl hX hbl hbA hk4 hL hI hcs hsl next
        · refine z_tableOut (tgt := 962) h0 dL_law_39 (Or.inr (by rw [nI_toInt (by omega)]; omega)) (by decide) ?_
          exact next S f M cs sl z5 z6 ⟨hI.1, hI.2.1, MI_up hI.2.2⟩ (by omega) (by omega)
  have hP : va_P D vwCl ([] ++ zw cI cZ cO PS0) s.heap := fun k q h => by have h9 : ([] : va_W)[k]? = some q := h; simp at h9
  have hD : va_D (fun q => s.heap.size ≤ q) ([] ++ zw cI cZ cO PS0) := ⟨fun i j p q h => by have h9 : ([] : va_W)[i]? = some p := h; simp at h9, fun k q h => by have h9 : ([] : va_W)[k]? = some q := h; simp at h9⟩
  rw [lg_entry_eq]
  refine (show ZW p l e room_1 s m #[Value.ref b] below meth c D cI cZ cO (fun q => s.heap.size ≤ q) (lw_Z below #[Value.ref b] s) [] 7 PS0 0 0 0 [some (.ref b), none, none, none, none, none, none] [] from ?_) s.heap [] _ hP hD va_S.rf (zl_entry (vs := [.ref b]) (n := 7) rfl (lv_entry [.ref b] (Nat.le_of_ble_eq_true rfl)))
  refine z_new h0 nOk5 htl lin_X50 tyX5 tyX5_ok hown (htl (.classLink RL 8 RX5) (by decide +kernel)) (htl (.instantiable RX5 4) (by decide +kernel)) (htl (.initialized RX5) (by decide +kernel)) rfl (fun j hj => by rcases (show j = 0 ∨ j = 1 ∨ j = 2 ∨ j = 3 by omega) with rfl | rfl | rfl | rfl <;> rfl) (Nat.le_of_ble_eq_true rfl) (Nat.le_of_ble_eq_true rfl) dL_law_0 (fun q0 hq0 => ?_)
  refine z_dup h0 dL_law_3 rfl ?_
  refine z_cIv (n := 0) (As := []) h0 htw hown (c_X5_init (isK_new (S := PS0) (q := q0) (k := 5) (n := 0))) gL_law_X5_init rfl (by decide +kernel) ⟨Nat.le_of_ble_eq_true rfl, Nat.le_of_ble_eq_true rfl⟩ (htl (.initialized RX5) (by decide +kernel)) (htl (.methodLink RL 57 yX5_init) (by decide +kernel)) (htl (.instanceMethod yX5_init) (by decide +kernel)) rfl dL_law_4 rfl rfl (Nat.le_of_ble_eq_true rfl) ⟨Nat.le_of_ble_eq_true rfl, Nat.le_of_ble_eq_true rfl⟩ (fun S4 hp4 => ?_)
  refine z_astore_n (lo' := [_, _, _, _, _, _, _]) h0 dL_law_7 (by decide) rfl rfl ?_
  refine z_new h0 nOk6 htl lin_X60 tyX6 tyX6_ok hown (htl (.classLink RL 58 RX6) (by decide +kernel)) (htl (.instantiable RX6 14) (by decide +kernel)) (htl (.initialized RX6) (by decide +kernel)) rfl (fun j hj => by rcases (show j = 0 ∨ j = 1 ∨ j = 2 ∨ j = 3 ∨ j = 4 ∨ j = 5 ∨ j = 6 ∨ j = 7 ∨ j = 8 ∨ j = 9 ∨ j = 10 ∨ j = 11 ∨ j = 12 ∨ j = 13 by omega) with rfl | rfl | rfl | rfl | rfl | rfl | rfl | rfl | rfl | rfl | rfl | rfl | rfl | rfl <;> rfl) (Nat.le_of_ble_eq_true rfl) (Nat.le_of_ble_eq_true rfl) dL_law_8 (fun q8 hq8 => ?_)
  refine z_dup h0 dL_law_11 rfl ?_
  have hm6 := isK_new (S := S4) (q := q8) (k := 6) (n := 0)
  refine z_cIv (n := 0) (As := []) h0 htw hown (c_X6_init hm6 (fun f _ _ => upA_s _ _ _ _)) gL_law_X6_init rfl (by decide +kernel) ⟨Nat.le_of_ble_eq_true rfl, Nat.le_of_ble_eq_true rfl⟩ (htl (.initialized RX6) (by decide +kernel)) (htl (.methodLink RL 60 yX6_init) (by decide +kernel)) (htl (.instanceMethod yX6_init) (by decide +kernel)) rfl dL_law_12 rfl rfl (Nat.le_of_ble_eq_true rfl) ⟨Nat.le_of_ble_eq_true rfl, Nat.le_of_ble_eq_true rfl⟩ (fun S12 hp12 => ?_)
  obtain ⟨Am, hRX, hExt⟩ := hp12
  have hC12 := Rep_Ext hm6 hExt (Rep_new hq8 hp4)
  refine z_astore_n (lo' := [_, _, _, _, _, _, _]) h0 dL_law_15 (by decide) rfl rfl ?_
  refine z_iconst (v := 1) h0 dL_law_16 (by decide) ?_
  refine z_newJ h0 hJ (htl (.arrayClass .long) (by decide +kernel)) (Nat.le_of_ble_eq_true rfl) (Nat.le_of_ble_eq_true rfl) dL_law_17 (fun o => ?_)
  refine z_astore_n (lo' := [_, _, _, _, _, _, _]) h0 dL_law_19 (by decide) rfl rfl ?_
  refine z_iconst (v := 0) h0 dL_law_20 (by decide) ?_
  refine z_istore (lo' := [_, _, _, _, _, _, _]) h0 dL_law_21 (by decide) rfl rfl ?_
  exact loop (L + 1) 0 q0 q8 o _ _ S12 (fun _ => 0) M0 Am none none (by omega) (by omega) ⟨hC12, RX_base hRX, MI_0⟩ (Nat.le_of_ble_eq_true rfl) (Nat.le_of_ble_eq_true rfl)
end WHOLE
