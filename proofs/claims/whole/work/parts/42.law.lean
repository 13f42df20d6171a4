/-! THE LAW'S STEPS. -/
section LAW
theorem cmp_self (x : Int64) : lg_cmp x x = 0 := by simp [lg_cmp]
/-- what the class does leaves the reference -/
theorem RF_KF {S S' : PS} {m : Nat} {A : Nat → Nat} {M : MS} (hF : KF S S') (h : RF S S m A M) : RF S' S' m A M := by
  obtain ⟨⟨a1, a2, a3, a4, a5, a6, a7, a8, -⟩, -⟩ := h
  have k6 : ∀ f, pI S' f m = pI S f m := fun f => KF_I hF a1 (by decide) (by decide) (by decide)
  have o6 : ∀ f, pO S' f m = pO S f m := fun f => KF_O hF a1 (by decide) (by decide) (by decide)
  have ar : ∀ k, k < 10 → pN S' (A k) = pN S (A k) ∧ pR S' (A k) = pR S (A k) := fun k hk => ⟨(hF _ (a3 k hk).1).2.2.1, (hF _ (a3 k hk).1).2.2.2.1⟩
  exact ⟨⟨KF_K hF a1, fun k hk => (o6 _).trans (a2 k hk), fun k hk => KF_K hF (a3 k hk), fun k hk => (ar k hk).1.trans (a4 k hk), a5, ⟨(k6 _).trans a6.1, (k6 _).trans a6.2.1, (k6 _).trans a6.2.2⟩, fun k j hk => by rw [(ar k (by omega)).2]; exact a7 k j hk, fun p k hk => by rw [(ar 9 (by omega)).2]; exact a8 p k hk, rfl, rfl, rfl, rfl, rfl, fun _ _ _ => rfl⟩, rfl⟩
/-- what the reference does leaves the class -/
theorem Rep_RX {G : Nat → Nat} {S S' : PS} {x m : Nat} {A : Nat → Nat} {M M' : MS} (hm : isK S 6 m) (h : RX S S' m A M') (hC : RepC G S x M) : RepC G S' x M := by
  obtain ⟨b1, b2, b3, b4, b5, b6⟩ := h.2.2.2.2.2.2.2.2
  obtain ⟨n0, ar, L, C, ⟨⟨x1, x2, x3, x4, x5⟩, ⟨y1, y2⟩, ⟨z1, z2⟩, hl, ls, r1, r2, r3⟩⟩ := hC
  have K : ∀ {k d : Nat}, isK S k d → isK S' k d := fun h => ⟨b1 ▸ h.1, b2 ▸ h.2⟩
  have I : ∀ {k d : Nat} (f : Nat), isK S k d → k ≠ 6 → pI S' f d = pI S f d := fun f h hk => b6 f _ (isK_neK h hm hk)
  have T : ∀ {d : Nat}, isK S 4 d → tr S' d = tr S d := fun h => by unfold tr; rw [I 10 h (by decide), I 11 h (by decide), I 12 h (by decide), I 13 h (by decide), I 14 h (by decide)]
  have O : ∀ (f d : Nat), pO S' f d = pO S f d := fun f d => by rw [b4]
  refine ⟨n0, ar, L, C, ⟨⟨K x1, (O _ _).trans x2, (O _ _).trans x3, (O _ _).trans x4, (O _ _).trans x5⟩, ⟨K y1, (T y1).trans y2⟩, ⟨K z1, (O _ _).trans z2⟩, ⟨fun i hi => ?_, fun i j hi hj hij => ⟨(hl.2 i j hi hj hij).1, fun d h1 h2 => (hl.2 i j hi hj hij).2 d ((O _ _).symm.trans h1) ((O _ _).symm.trans h2)⟩⟩, ls, fun i a hi => ?_, fun i a hi => ?_, fun k a hk => ?_⟩⟩
  · obtain ⟨q1, q2, q3, q4, d, e1, e2⟩ := hl.1 i hi
    refine ⟨K q1, (I 20 q1 (by decide)).trans q2, q3, fun y hy => ?_, d, (O _ _).trans e1, ?_⟩
    · obtain ⟨k, hk, h1⟩ := q4 y hy
      exact ⟨k, hk, K h1⟩
    · rcases e2 with e2 | ⟨w1, w2, w3, w4, w5⟩
      · exact Or.inl e2
      · exact Or.inr ⟨K w1, by rw [b3]; exact w2, by rw [b3]; exact w3, by rw [b3]; exact w4, by rw [b5]; exact w5⟩
  · obtain ⟨h1, h2, h3, h4, h5, h6, h7, h8, ⟨cu, k1, k2, k3, k4⟩, h9⟩ := r1 i a hi
    exact ⟨K h1, (I 6 h1 (by decide)).trans h2, (O _ _).trans h3, (O _ _).trans h4, (I 7 h1 (by decide)).trans h5, (I 8 h1 (by decide)).trans h6, (I 9 h1 (by decide)).trans h7, h8, ⟨cu, (O _ _).trans k1, K k2, k3, fun z => (T k2).trans (k4 z)⟩, fun j t hj => ⟨K (h9 j t hj).1, (T (h9 j t hj).1).trans (h9 j t hj).2⟩⟩
  · obtain ⟨h1, h2, h3, ⟨t, k1, k2, k3⟩, h4, h5⟩ := r2 i a hi
    exact ⟨K h1, (I 2 h1 (by decide)).trans h2, (I 3 h1 (by decide)).trans h3, ⟨t, (O _ _).trans k1, K k2, (T k2).trans k3⟩, fun z => (I 4 h1 (by decide)).trans (h4 z), fun z => (I 5 h1 (by decide)).trans (h5 z)⟩
  · obtain ⟨h1, h2, ⟨t, k1, k2, k3⟩, h4⟩ := r3 k a hk
    exact ⟨K h1, (I 0 h1 (by decide)).trans h2, ⟨t, (O _ _).trans k1, K k2, (T k2).trans k3⟩, (I 1 h1 (by decide)).trans h4⟩
/-- class and reference are of one state, which keeps the invariant -/
def LI (G : Nat → Nat) (S : PS) (x m : Nat) (Am : Nat → Nat) (M : MS) (k : Nat) : Prop := RepC G S x M ∧ RF S S m Am M ∧ MI k M
variable {p : Program} {l : Launch} {e : Env} {s : State} {mi : MethodId} {args : Array Value} {below : List Frame} {meth : Method} {c : Code} {D : va_G} {cI cZ cO cJ : ClassId} {A : Nat → Prop} {Q : State → Prop} {S : PS} {cs sl pc : Nat} {lo : List (Option Value)} {st : List Value} {G : Nat → Nat} {o : Nat} {f : Nat → Int64} {X : va_W} {R : Room} {nL : Nat} {cc : ByteArray} {cells slots : Nat}
theorem z_sld (h0 : ZC p s c cc nL D cI cZ cO A G) {b L : Nat} {xs : Nat → Int32} (hX : va_X b L xs s s.heap) (hbl : b < s.heap.size) (hbA : ¬ A b) {i : Int32} {j : Nat} (hi : i.toInt = (j : Int)) (hj : j < L) (hd : decode cc pc = .ok (.iaload, 1))
    (kk : ZW p l e R s mi args below meth c D cI cZ cO A Q X nL S cells slots (pc + 1) lo (.int (xs j) :: st)) : ZW p l e R s mi args below meth c D cI cZ cO A Q X nL S cells slots pc lo (.int i :: .ref b :: st) := by
  intro H locs ls hP hD hS hl9
  refine va_sld h0.1 h0.2.1 hX hbl hbA hS (zi_in hi hj) hd ?_
  rw [zi_clamp hi]
  exact kk H locs ls hP hD hS hl9
theorem z_slen (h0 : ZC p s c cc nL D cI cZ cO A G) {b L : Nat} {xs : Nat → Int32} (hX : va_X b L xs s s.heap) (hbl : b < s.heap.size) (hbA : ¬ A b) (hd : decode cc pc = .ok (.arraylength, 1))
    (kk : ZW p l e R s mi args below meth c D cI cZ cO A Q X nL S cells slots (pc + 1) lo (.int (nI L) :: st)) : ZW p l e R s mi args below meth c D cI cZ cO A Q X nL S cells slots pc lo (.ref b :: st) := by
  intro H locs ls hP hD hS hl9
  exact va_slen h0.1 h0.2.1 hX hbl hbA hS hd (kk H locs ls hP hD hS hl9)

theorem le_oPurse {M : MS} {y : Int32} : (oPurse M y).1 ≤ 3 := by
  unfold oPurse
  repeat' split
  all_goals (dsimp only; decide)
theorem le_oBegin {M : MS} {y1 y2 z : Int32} : (oBegin M y1 y2 z).1 ≤ 3 := by
  unfold oBegin
  repeat' split
  all_goals (dsimp only; decide)
theorem le_oDeliver {M : MS} {y : Int32} : (oDeliver M y).1 ≤ 3 := by
  unfold oDeliver
  repeat' split
  all_goals (dsimp only; decide)
theorem le_oAbort {M : MS} {y : Int32} : (oAbort M y).1 ≤ 3 := by
  unfold oAbort
  repeat' split
  all_goals (dsimp only; decide)
theorem le_oReadLog {M : MS} {y : Int32} : (oReadLog M y).1 ≤ 3 := by
  unfold oReadLog
  repeat' split
  all_goals (dsimp only; decide)
theorem le_oAuth {M : MS} {y : Int32} : (oAuth M y).1 ≤ 3 := by
  unfold oAuth
  repeat' split
  all_goals (dsimp only; decide)
theorem le_oRefund {M : MS} {y : Int32} : (oRefund M y).1 ≤ 3 := by
  unfold oRefund
  repeat' split
  all_goals (dsimp only; decide)
theorem le_oTold {M : MS} {y w : Int32} : (oTold M y w).1 ≤ 3 := by
  unfold oTold
  repeat' split
  all_goals (dsimp only; decide)
theorem le_oTransfer {M : MS} {y w : Int32} : (oTransfer M y w).1 ≤ 3 := by
  unfold oTransfer
  repeat' split
  all_goals (dsimp only; decide)
theorem le_oLog {M : MS} {y i w : Int32} : (oLog M y i w).1 ≤ 3 := by
  unfold oLog
  repeat' split
  all_goals (dsimp only; decide)
theorem le_oMessage {M : MS} {y w : Int32} : (oMessage M y w).1 ≤ 3 := by
  unfold oMessage
  repeat' split
  all_goals (dsimp only; decide)
theorem le_oEntry {M : MS} {y w : Int32} : (oEntry M y w).1 ≤ 3 := by
  unfold oEntry
  repeat' split
  all_goals (dsimp only; decide)
theorem same_oTold {M : MS} {y w : Int32} : (oTold M y w).2.2 = M := by
  unfold oTold
  repeat' split
  all_goals rfl
theorem same_oTransfer {M : MS} {y w : Int32} : (oTransfer M y w).2.2 = M := by
  unfold oTransfer
  repeat' split
  all_goals rfl
theorem same_oLog {M : MS} {y i w : Int32} : (oLog M y i w).2.2 = M := by
  unfold oLog
  repeat' split
  all_goals rfl
theorem same_oMessage {M : MS} {y w : Int32} : (oMessage M y w).2.2 = M := by
  unfold oMessage
  repeat' split
  all_goals rfl
theorem same_oEntry {M : MS} {y w : Int32} : (oEntry M y w).2.2 = M := by
  unfold oEntry
  repeat' split
  all_goals rfl
theorem code_0 {n : Nat} (h : nI n = 0) (hn : n ≤ 3) : n = 0 := (nI_eq (b := 0) (by omega) (by decide)).mp h
theorem del_b2 {M : MS} {y : Int32} : ∃ b, (oDeliver M y).2.1 = bI b := by
  unfold oDeliver
  split
  · exact ⟨false, rfl⟩
  split
  · exact ⟨false, rfl⟩
  exact ⟨_, rfl⟩

set_option maxRecDepth 100000 in
set_option maxHeartbeats 4000000 in
theorem law_0 (h0 : ZC p s c code 7 D cI cZ cO A G) (hJ : va_K D vwCl [(cJ, .long)] s) (hts : ∀ w ∈ wsL_law, w.before args s = true) (hown : s.vm.findClass RL = some mi.cls) (hl : l.stackTraces = false) {b Ln : Nat} {xs : Nat → Int32} (hX : va_X b Ln xs s s.heap) (hbl : b < s.heap.size) (hbA : ¬ A b) {k x m : Nat} {Am : Nat → Nat} {M : MS} (hk : 4 * k + 4 ≤ Ln) (hL : Ln ≤ 2048) (hI : LI G S x m Am M k) (hcs : cs ≤ 100 + 1010 * k) (hsl : sl ≤ 20000 + 13000 * k) {z5 z6 : Option Value} (kk : ∀ (S' : PS) (f' : Nat → Int64) (M' : MS) (cs' sl' : Nat) (z5 z6 : Option Value), LI G S' x m Am M' (k + 1) → cs' ≤ 100 + 1010 * (k + 1) → sl' ≤ 20000 + 13000 * (k + 1) → ZW p l e room_1 s mi args below meth c D cI cZ cO A Q (oC cJ o f') 7 S' cs' sl' 962 [some (.ref b), some (.ref x), some (.ref m), some (.ref o), some (.int (nI (4 * k))), z5, z6] []) : ZW p l e room_1 s mi args below meth c D cI cZ cO A Q (oC cJ o f) 7 S cs sl 120 [some (.ref b), some (.ref x), some (.ref m), some (.ref o), some (.int (nI (4 * k))), z5, z6] [] := by
  obtain ⟨⟨n0, ar, L, C, hC⟩, hR, hMI⟩ := hI
  have hc : k < 512 := by omega
  refine z_aload_n h0 dL_law_120 rfl ?_
  refine z_aload_n h0 dL_law_121 rfl ?_
  refine z_iload h0 dL_law_122 rfl ?_
  refine z_iconst (v := 1) h0 dL_law_124 (by decide) ?_
  refine z_iadd h0 dL_law_125 ?_
  refine z_top (y := nI (4 * k + 1)) (nI_add _ _) ?_
  refine z_sld h0 hX hbl hbA (j := 4 * k + 1) (nI_toInt (by omega)) (by omega) dL_law_126 ?_
  refine z_aload_n h0 dL_law_127 rfl ?_
  refine z_hS (n := 3) (As := [_, _, _]) h0 hJ hts hown (c_L_purse hl hC hMI hc) gL_law_L_purse rfl (by decide +kernel) ⟨Nat.le_of_ble_eq_true rfl, Nat.le_of_ble_eq_true rfl⟩ dL_law_128 rfl rfl (Nat.le_of_ble_eq_true rfl) ⟨by show cs + 4 ≤ 601024; omega, by show sl + 1520 ≤ 7293034; omega⟩ (fun r1 S1 f1 hp1 => ?_)
  obtain ⟨hr1, hf1, hC1, hF1⟩ := hp1
  have hR1 := RF_KF hF1 hR
  subst hr1
  refine z_istore (lo' := [_, _, _, _, _, _, _]) h0 dL_law_131 (by decide) rfl rfl ?_
  refine z_aload_n h0 dL_law_133 rfl ?_
  refine z_aload_n h0 dL_law_134 rfl ?_
  refine z_iload h0 dL_law_135 rfl ?_
  refine z_iconst (v := 1) h0 dL_law_137 (by decide) ?_
  refine z_iadd h0 dL_law_138 ?_
  refine z_top (y := nI (4 * k + 1)) (nI_add _ _) ?_
  refine z_sld h0 hX hbl hbA (j := 4 * k + 1) (nI_toInt (by omega)) (by omega) dL_law_139 ?_
  refine z_hCi (n := 1) (As := [_]) h0 hts hown (c_X6_purse hR1 hMI hc) gL_law_X6_purse rfl (by decide +kernel) ⟨Nat.le_of_ble_eq_true rfl, Nat.le_of_ble_eq_true rfl⟩ kOk6 rfl (RF_m hR1) dL_law_140 rfl rfl (Nat.le_of_ble_eq_true rfl) ⟨by show cs + 4 + 0 ≤ 601024; omega, by show sl + 1520 + 0 ≤ 7293034; omega⟩ (fun r2 S2 hp140 => ?_)
  obtain ⟨hX2, hcd2, hr2⟩ := hp140
  have hC2 := Rep_RX (RF_m hR1) hX2 hC1
  have hR2 := RX_base hX2
  refine z_istore (lo' := [_, _, _, _, _, _, _]) h0 dL_law_143 (by decide) rfl rfl ?_
  refine z_aload_n h0 dL_law_145 rfl ?_
  refine z_hCi (n := 0) (As := []) h0 hts hown (c_X6_thrown (RF_m hR2)) gL_law_X6_thrown rfl (by decide +kernel) ⟨Nat.le_of_ble_eq_true rfl, Nat.le_of_ble_eq_true rfl⟩ kOk6 rfl (RF_m hR2) dL_law_146 rfl rfl (Nat.le_of_ble_eq_true rfl) ⟨by show cs + 4 + 0 + 0 ≤ 601024; omega, by show sl + 1520 + 0 + 0 ≤ 7293034; omega⟩ (fun r3 S3 hp146 => ?_)
  obtain ⟨rfl, hr3⟩ := hp146
  rw [hcd2] at hr3
  subst hr3
  refine z_iload h0 dL_law_149 rfl ?_
  refine z_icmp_eq (tgt := 156) h0 dL_law_151 (by decide) (fun _ => ?_) (fun h => absurd rfl h)
  refine z_iload h0 dL_law_156 rfl ?_
  refine z_if_ne (tgt := 173) h0 dL_law_158 (by decide) (fun _ => ?_) (fun h5 => ?_)
  · refine z_goto (tgt := 962) h0 dL_law_173 (by decide) ?_
    exact kk S2 f1 (oPurse M (xs (4 * k + 1))).2.2 _ _ _ _ ⟨hC2, hR2, MI_purse _ hMI⟩ (by show cs + 4 + 0 + 0 ≤ _; omega) (by show sl + 1520 + 0 + 0 ≤ _; omega)
  · have h00 := code_0 h5 le_oPurse
    have hv : f1 0 = (oPurse M (xs (4 * k + 1))).2.1.toInt64 := hf1 h00
    have hr := hr2 h00
    refine z_aload_n h0 dL_law_161 rfl ?_
    refine z_iconst (v := 0) h0 dL_law_162 (by decide) ?_
    refine z_hald h0 hJ dL_law_163 ?_
    refine z_iload h0 dL_law_164 rfl ?_
    refine z_i2l h0 dL_law_166 ?_
    refine z_lcmp h0 dL_law_167 ?_
    refine z_top (y := 0) (by rw [hv, hr]; exact cmp_self _) ?_
    refine z_if_eq (tgt := 173) h0 dL_law_168 (by decide) (fun _ => ?_) (fun h => absurd rfl h)
    refine z_goto (tgt := 962) h0 dL_law_173 (by decide) ?_
    exact kk S2 f1 (oPurse M (xs (4 * k + 1))).2.2 _ _ _ _ ⟨hC2, hR2, MI_purse _ hMI⟩ (by show cs + 4 + 0 + 0 ≤ _; omega) (by show sl + 1520 + 0 + 0 ≤ _; omega)

set_option maxRecDepth 100000 in
set_option maxHeartbeats 4000000 in
theorem law_1 (h0 : ZC p s c code 7 D cI cZ cO A G) (hJ : va_K D vwCl [(cJ, .long)] s) (hts : ∀ w ∈ wsL_law, w.before args s = true) (hown : s.vm.findClass RL = some mi.cls) (hl : l.stackTraces = false) {b Ln : Nat} {xs : Nat → Int32} (hX : va_X b Ln xs s s.heap) (hbl : b < s.heap.size) (hbA : ¬ A b) {k x m : Nat} {Am : Nat → Nat} {M : MS} (hk : 4 * k + 4 ≤ Ln) (hL : Ln ≤ 2048) (hI : LI G S x m Am M k) (hcs : cs ≤ 100 + 1010 * k) (hsl : sl ≤ 20000 + 13000 * k) {z5 z6 : Option Value} (kk : ∀ (S' : PS) (f' : Nat → Int64) (M' : MS) (cs' sl' : Nat) (z5 z6 : Option Value), LI G S' x m Am M' (k + 1) → cs' ≤ 100 + 1010 * (k + 1) → sl' ≤ 20000 + 13000 * (k + 1) → ZW p l e room_1 s mi args below meth c D cI cZ cO A Q (oC cJ o f') 7 S' cs' sl' 962 [some (.ref b), some (.ref x), some (.ref m), some (.ref o), some (.int (nI (4 * k))), z5, z6] []) : ZW p l e room_1 s mi args below meth c D cI cZ cO A Q (oC cJ o f) 7 S cs sl 176 [some (.ref b), some (.ref x), some (.ref m), some (.ref o), some (.int (nI (4 * k))), z5, z6] [] := by
  obtain ⟨⟨n0, ar, L, C, hC⟩, hR, hMI⟩ := hI
  have hc : k < 512 := by omega
  refine z_aload_n h0 dL_law_176 rfl ?_
  refine z_aload_n h0 dL_law_177 rfl ?_
  refine z_iload h0 dL_law_178 rfl ?_
  refine z_iconst (v := 1) h0 dL_law_180 (by decide) ?_
  refine z_iadd h0 dL_law_181 ?_
  refine z_top (y := nI (4 * k + 1)) (nI_add _ _) ?_
  refine z_sld h0 hX hbl hbA (j := 4 * k + 1) (nI_toInt (by omega)) (by omega) dL_law_182 ?_
  refine z_aload_n h0 dL_law_183 rfl ?_
  refine z_iload h0 dL_law_184 rfl ?_
  refine z_iconst (v := 2) h0 dL_law_186 (by decide) ?_
  refine z_iadd h0 dL_law_187 ?_
  refine z_top (y := nI (4 * k + 2)) (nI_add _ _) ?_
  refine z_sld h0 hX hbl hbA (j := 4 * k + 2) (nI_toInt (by omega)) (by omega) dL_law_188 ?_
  refine z_aload_n h0 dL_law_189 rfl ?_
  refine z_iload h0 dL_law_190 rfl ?_
  refine z_iconst (v := 3) h0 dL_law_192 (by decide) ?_
  refine z_iadd h0 dL_law_193 ?_
  refine z_top (y := nI (4 * k + 3)) (nI_add _ _) ?_
  refine z_sld h0 hX hbl hbA (j := 4 * k + 3) (nI_toInt (by omega)) (by omega) dL_law_194 ?_
  refine z_aload_n h0 dL_law_195 rfl ?_
  refine z_hS (n := 5) (As := [_, _, _, _, _]) h0 hJ hts hown (c_L_begin hl hC hMI hc) gL_law_L_begin rfl (by decide +kernel) ⟨Nat.le_of_ble_eq_true rfl, Nat.le_of_ble_eq_true rfl⟩ dL_law_196 rfl rfl (Nat.le_of_ble_eq_true rfl) ⟨by show cs + 10 ≤ 601024; omega, by show sl + 3080 ≤ 7293034; omega⟩ (fun r1 S1 f1 hp1 => ?_)
  obtain ⟨hr1, hf1, hC1, hF1⟩ := hp1
  have hR1 := RF_KF hF1 hR
  subst hr1
  refine z_istore (lo' := [_, _, _, _, _, _, _]) h0 dL_law_199 (by decide) rfl rfl ?_
  refine z_aload_n h0 dL_law_201 rfl ?_
  refine z_aload_n h0 dL_law_202 rfl ?_
  refine z_iload h0 dL_law_203 rfl ?_
  refine z_iconst (v := 1) h0 dL_law_205 (by decide) ?_
  refine z_iadd h0 dL_law_206 ?_
  refine z_top (y := nI (4 * k + 1)) (nI_add _ _) ?_
  refine z_sld h0 hX hbl hbA (j := 4 * k + 1) (nI_toInt (by omega)) (by omega) dL_law_207 ?_
  refine z_aload_n h0 dL_law_208 rfl ?_
  refine z_iload h0 dL_law_209 rfl ?_
  refine z_iconst (v := 2) h0 dL_law_211 (by decide) ?_
  refine z_iadd h0 dL_law_212 ?_
  refine z_top (y := nI (4 * k + 2)) (nI_add _ _) ?_
  refine z_sld h0 hX hbl hbA (j := 4 * k + 2) (nI_toInt (by omega)) (by omega) dL_law_213 ?_
  refine z_aload_n h0 dL_law_214 rfl ?_
  refine z_iload h0 dL_law_215 rfl ?_
  refine z_iconst (v := 3) h0 dL_law_217 (by decide) ?_
  refine z_iadd h0 dL_law_218 ?_
  refine z_top (y := nI (4 * k + 3)) (nI_add _ _) ?_
  refine z_sld h0 hX hbl hbA (j := 4 * k + 3) (nI_toInt (by omega)) (by omega) dL_law_219 ?_
  refine z_hCi (n := 3) (As := [_, _, _]) h0 hts hown (c_X6_begin hR1 hMI hc) gL_law_X6_begin rfl (by decide +kernel) ⟨Nat.le_of_ble_eq_true rfl, Nat.le_of_ble_eq_true rfl⟩ kOk6 rfl (RF_m hR1) dL_law_220 rfl rfl (Nat.le_of_ble_eq_true rfl) ⟨by show cs + 10 + 0 ≤ 601024; omega, by show sl + 3080 + 0 ≤ 7293034; omega⟩ (fun r2 S2 hp220 => ?_)
  obtain ⟨hX2, hcd2, hr2⟩ := hp220
  have hC2 := Rep_RX (RF_m hR1) hX2 hC1
  have hR2 := RX_base hX2
  refine z_istore (lo' := [_, _, _, _, _, _, _]) h0 dL_law_223 (by decide) rfl rfl ?_
  refine z_aload_n h0 dL_law_225 rfl ?_
  refine z_hCi (n := 0) (As := []) h0 hts hown (c_X6_thrown (RF_m hR2)) gL_law_X6_thrown rfl (by decide +kernel) ⟨Nat.le_of_ble_eq_true rfl, Nat.le_of_ble_eq_true rfl⟩ kOk6 rfl (RF_m hR2) dL_law_226 rfl rfl (Nat.le_of_ble_eq_true rfl) ⟨by show cs + 10 + 0 + 0 ≤ 601024; omega, by show sl + 3080 + 0 + 0 ≤ 7293034; omega⟩ (fun r3 S3 hp226 => ?_)
  obtain ⟨rfl, hr3⟩ := hp226
  rw [hcd2] at hr3
  subst hr3
  refine z_iload h0 dL_law_229 rfl ?_
  refine z_icmp_eq (tgt := 236) h0 dL_law_231 (by decide) (fun _ => ?_) (fun h => absurd rfl h)
  refine z_iload h0 dL_law_236 rfl ?_
  refine z_if_ne (tgt := 253) h0 dL_law_238 (by decide) (fun _ => ?_) (fun h5 => ?_)
  · refine z_goto (tgt := 962) h0 dL_law_253 (by decide) ?_
    exact kk S2 f1 (oBegin M (xs (4 * k + 1)) (xs (4 * k + 2)) (xs (4 * k + 3))).2.2 _ _ _ _ ⟨hC2, hR2, MI_begin _ _ _ hMI⟩ (by show cs + 10 + 0 + 0 ≤ _; omega) (by show sl + 3080 + 0 + 0 ≤ _; omega)
  · have h00 := code_0 h5 le_oBegin
    have hv : f1 0 = (oBegin M (xs (4 * k + 1)) (xs (4 * k + 2)) (xs (4 * k + 3))).2.1.toInt64 := hf1 h00
    have hr := hr2 h00
    refine z_aload_n h0 dL_law_241 rfl ?_
    refine z_iconst (v := 0) h0 dL_law_242 (by decide) ?_
    refine z_hald h0 hJ dL_law_243 ?_
    refine z_iload h0 dL_law_244 rfl ?_
    refine z_i2l h0 dL_law_246 ?_
    refine z_lcmp h0 dL_law_247 ?_
    refine z_top (y := 0) (by rw [hv, hr]; exact cmp_self _) ?_
    refine z_if_eq (tgt := 253) h0 dL_law_248 (by decide) (fun _ => ?_) (fun h => absurd rfl h)
    refine z_goto (tgt := 962) h0 dL_law_253 (by decide) ?_
    exact kk S2 f1 (oBegin M (xs (4 * k + 1)) (xs (4 * k + 2)) (xs (4 * k + 3))).2.2 _ _ _ _ ⟨hC2, hR2, MI_begin _ _ _ hMI⟩ (by show cs + 10 + 0 + 0 ≤ _; omega) (by show sl + 3080 + 0 + 0 ≤ _; omega)

set_option maxRecDepth 100000 in
set_option maxHeartbeats 4000000 in
theorem law_2 (h0 : ZC p s c code 7 D cI cZ cO A G) (hJ : va_K D vwCl [(cJ, .long)] s) (hts : ∀ w ∈ wsL_law, w.before args s = true) (hown : s.vm.findClass RL = some mi.cls) (hl : l.stackTraces = false) {b Ln : Nat} {xs : Nat → Int32} (hX : va_X b Ln xs s s.heap) (hbl : b < s.heap.size) (hbA : ¬ A b) {k x m : Nat} {Am : Nat → Nat} {M : MS} (hk : 4 * k + 4 ≤ Ln) (hL : Ln ≤ 2048) (hI : LI G S x m Am M k) (hcs : cs ≤ 100 + 1010 * k) (hsl : sl ≤ 20000 + 13000 * k) {z5 z6 : Option Value} (kk : ∀ (S' : PS) (f' : Nat → Int64) (M' : MS) (cs' sl' : Nat) (z5 z6 : Option Value), LI G S' x m Am M' (k + 1) → cs' ≤ 100 + 1010 * (k + 1) → sl' ≤ 20000 + 13000 * (k + 1) → ZW p l e room_1 s mi args below meth c D cI cZ cO A Q (oC cJ o f') 7 S' cs' sl' 962 [some (.ref b), some (.ref x), some (.ref m), some (.ref o), some (.int (nI (4 * k))), z5, z6] []) : ZW p l e room_1 s mi args below meth c D cI cZ cO A Q (oC cJ o f) 7 S cs sl 256 [some (.ref b), some (.ref x), some (.ref m), some (.ref o), some (.int (nI (4 * k))), z5, z6] [] := by
  obtain ⟨⟨n0, ar, L, C, hC⟩, hR, hMI⟩ := hI
  have hc : k < 512 := by omega
  refine z_aload_n h0 dL_law_256 rfl ?_
  refine z_aload_n h0 dL_law_257 rfl ?_
  refine z_iload h0 dL_law_258 rfl ?_
  refine z_iconst (v := 1) h0 dL_law_260 (by decide) ?_
  refine z_iadd h0 dL_law_261 ?_
  refine z_top (y := nI (4 * k + 1)) (nI_add _ _) ?_
  refine z_sld h0 hX hbl hbA (j := 4 * k + 1) (nI_toInt (by omega)) (by omega) dL_law_262 ?_
  refine z_aload_n h0 dL_law_263 rfl ?_
  refine z_hS (n := 3) (As := [_, _, _]) h0 hJ hts hown (c_L_deliver hl hC hMI hc) gL_law_L_deliver rfl (by decide +kernel) ⟨Nat.le_of_ble_eq_true rfl, Nat.le_of_ble_eq_true rfl⟩ dL_law_264 rfl rfl (Nat.le_of_ble_eq_true rfl) ⟨by show cs + 10 ≤ 601024; omega, by show sl + 3060 ≤ 7293034; omega⟩ (fun r1 S1 f1 hp1 => ?_)
  obtain ⟨hr1, hf1, hC1, hF1⟩ := hp1
  have hR1 := RF_KF hF1 hR
  subst hr1
  refine z_istore (lo' := [_, _, _, _, _, _, _]) h0 dL_law_267 (by decide) rfl rfl ?_
  refine z_aload_n h0 dL_law_269 rfl ?_
  refine z_aload_n h0 dL_law_270 rfl ?_
  refine z_iload h0 dL_law_271 rfl ?_
  refine z_iconst (v := 1) h0 dL_law_273 (by decide) ?_
  refine z_iadd h0 dL_law_274 ?_
  refine z_top (y := nI (4 * k + 1)) (nI_add _ _) ?_
  refine z_sld h0 hX hbl hbA (j := 4 * k + 1) (nI_toInt (by omega)) (by omega) dL_law_275 ?_
  refine z_hCi (n := 1) (As := [_]) h0 hts hown (c_X6_deliver hR1 hMI hc) gL_law_X6_deliver rfl (by decide +kernel) ⟨Nat.le_of_ble_eq_true rfl, Nat.le_of_ble_eq_true rfl⟩ kOk6 rfl (RF_m hR1) dL_law_276 rfl rfl (Nat.le_of_ble_eq_true rfl) ⟨by show cs + 10 + 0 ≤ 601024; omega, by show sl + 3060 + 0 ≤ 7293034; omega⟩ (fun r2 S2 hp276 => ?_)
  obtain ⟨hX2, hcd2, hr2⟩ := hp276
  have hC2 := Rep_RX (RF_m hR1) hX2 hC1
  have hR2 := RX_base hX2
  refine z_istore (lo' := [_, _, _, _, _, _, _]) h0 dL_law_279 (by decide) rfl rfl ?_
  refine z_aload_n h0 dL_law_281 rfl ?_
  refine z_hCi (n := 0) (As := []) h0 hts hown (c_X6_thrown (RF_m hR2)) gL_law_X6_thrown rfl (by decide +kernel) ⟨Nat.le_of_ble_eq_true rfl, Nat.le_of_ble_eq_true rfl⟩ kOk6 rfl (RF_m hR2) dL_law_282 rfl rfl (Nat.le_of_ble_eq_true rfl) ⟨by show cs + 10 + 0 + 0 ≤ 601024; omega, by show sl + 3060 + 0 + 0 ≤ 7293034; omega⟩ (fun r3 S3 hp282 => ?_)
  obtain ⟨rfl, hr3⟩ := hp282
  rw [hcd2] at hr3
  subst hr3
  refine z_iload h0 dL_law_285 rfl ?_
  refine z_icmp_eq (tgt := 292) h0 dL_law_287 (by decide) (fun _ => ?_) (fun h => absurd rfl h)
  refine z_iload h0 dL_law_292 rfl ?_
  refine z_if_ne (tgt := 316) h0 dL_law_294 (by decide) (fun _ => ?_) (fun h5 => ?_)
  · refine z_goto (tgt := 962) h0 dL_law_316 (by decide) ?_
    exact kk S2 f1 (oDeliver M (xs (4 * k + 1))).2.2 _ _ _ _ ⟨hC2, hR2, MI_deliver _ hc hMI⟩ (by show cs + 10 + 0 + 0 ≤ _; omega) (by show sl + 3060 + 0 + 0 ≤ _; omega)
  · have h00 := code_0 h5 le_oDeliver
    have hv : f1 0 = (oDeliver M (xs (4 * k + 1))).2.1.toInt64 := hf1 h00
    have hr := hr2 h00
    refine z_aload_n h0 dL_law_297 rfl ?_
    refine z_iconst (v := 0) h0 dL_law_298 (by decide) ?_
    refine z_hald h0 hJ dL_law_299 ?_
    refine z_iload h0 dL_law_300 rfl ?_
    obtain ⟨bb, hbb⟩ := del_b2 (M := M) (y := xs (4 * k + 1))
    refine z_if_eq (tgt := 309) h0 dL_law_302 (by decide) (fun h6 => ?_) (fun h6 => ?_)
    · refine z_lconst (v := 0) h0 dL_law_309 (by decide) ?_
      refine z_lcmp h0 dL_law_310 ?_
      refine z_top (y := 0) (by rw [hv, ← hr, h6]; exact cmp_self _) ?_
      refine z_if_eq (tgt := 316) h0 dL_law_311 (by decide) (fun _ => ?_) (fun h => absurd rfl h)
      refine z_goto (tgt := 962) h0 dL_law_316 (by decide) ?_
      exact kk S2 f1 (oDeliver M (xs (4 * k + 1))).2.2 _ _ _ _ ⟨hC2, hR2, MI_deliver _ hc hMI⟩ (by show cs + 10 + 0 + 0 ≤ _; omega) (by show sl + 3060 + 0 + 0 ≤ _; omega)
    · refine z_lconst (v := 1) h0 dL_law_305 (by decide) ?_
      refine z_goto (tgt := 310) h0 dL_law_306 (by decide) ?_
      refine z_lcmp h0 dL_law_310 ?_
      refine z_top (y := 0) (by rw [hr, hbb] at h6; rw [hv, hbb, bI_tt h6]; exact cmp_self _) ?_
      refine z_if_eq (tgt := 316) h0 dL_law_311 (by decide) (fun _ => ?_) (fun h => absurd rfl h)
      refine z_goto (tgt := 962) h0 dL_law_316 (by decide) ?_
      exact kk S2 f1 (oDeliver M (xs (4 * k + 1))).2.2 _ _ _ _ ⟨hC2, hR2, MI_deliver _ hc hMI⟩ (by show cs + 10 + 0 + 0 ≤ _; omega) (by show sl + 3060 + 0 + 0 ≤ _; omega)

set_option maxRecDepth 100000 in
set_option maxHeartbeats 4000000 in
theorem law_3 (h0 : ZC p s c code 7 D cI cZ cO A G) (hJ : va_K D vwCl [(cJ, .long)] s) (hts : ∀ w ∈ wsL_law, w.before args s = true) (hown : s.vm.findClass RL = some mi.cls) (hl : l.stackTraces = false) {b Ln : Nat} {xs : Nat → Int32} (hX : va_X b Ln xs s s.heap) (hbl : b < s.heap.size) (hbA : ¬ A b) {k x m : Nat} {Am : Nat → Nat} {M : MS} (hk : 4 * k + 4 ≤ Ln) (hL : Ln ≤ 2048) (hI : LI G S x m Am M k) (hcs : cs ≤ 100 + 1010 * k) (hsl : sl ≤ 20000 + 13000 * k) {z5 z6 : Option Value} (kk : ∀ (S' : PS) (f' : Nat → Int64) (M' : MS) (cs' sl' : Nat) (z5 z6 : Option Value), LI G S' x m Am M' (k + 1) → cs' ≤ 100 + 1010 * (k + 1) → sl' ≤ 20000 + 13000 * (k + 1) → ZW p l e room_1 s mi args below meth c D cI cZ cO A Q (oC cJ o f') 7 S' cs' sl' 962 [some (.ref b), some (.ref x), some (.ref m), some (.ref o), some (.int (nI (4 * k))), z5, z6] []) : ZW p l e room_1 s mi args below meth c D cI cZ cO A Q (oC cJ o f) 7 S cs sl 319 [some (.ref b), some (.ref x), some (.ref m), some (.ref o), some (.int (nI (4 * k))), z5, z6] [] := by
  obtain ⟨⟨n0, ar, L, C, hC⟩, hR, hMI⟩ := hI
  have hc : k < 512 := by omega
  refine z_aload_n h0 dL_law_319 rfl ?_
  refine z_aload_n h0 dL_law_320 rfl ?_
  refine z_iload h0 dL_law_321 rfl ?_
  refine z_iconst (v := 1) h0 dL_law_323 (by decide) ?_
  refine z_iadd h0 dL_law_324 ?_
  refine z_top (y := nI (4 * k + 1)) (nI_add _ _) ?_
  refine z_sld h0 hX hbl hbA (j := 4 * k + 1) (nI_toInt (by omega)) (by omega) dL_law_325 ?_
  refine z_aload_n h0 dL_law_326 rfl ?_
  refine z_hS (n := 3) (As := [_, _, _]) h0 hJ hts hown (c_L_abort hl hC hMI hc) gL_law_L_abort rfl (by decide +kernel) ⟨Nat.le_of_ble_eq_true rfl, Nat.le_of_ble_eq_true rfl⟩ dL_law_327 rfl rfl (Nat.le_of_ble_eq_true rfl) ⟨by show cs + 2 ≤ 601024; omega, by show sl + 1506 ≤ 7293034; omega⟩ (fun r1 S1 f1 hp1 => ?_)
  obtain ⟨hr1, hf1, hC1, hF1⟩ := hp1
  have hR1 := RF_KF hF1 hR
  subst hr1
  refine z_istore (lo' := [_, _, _, _, _, _, _]) h0 dL_law_330 (by decide) rfl rfl ?_
  refine z_aload_n h0 dL_law_332 rfl ?_
  refine z_aload_n h0 dL_law_333 rfl ?_
  refine z_iload h0 dL_law_334 rfl ?_
  refine z_iconst (v := 1) h0 dL_law_336 (by decide) ?_
  refine z_iadd h0 dL_law_337 ?_
  refine z_top (y := nI (4 * k + 1)) (nI_add _ _) ?_
  refine z_sld h0 hX hbl hbA (j := 4 * k + 1) (nI_toInt (by omega)) (by omega) dL_law_338 ?_
  refine z_hCi (n := 1) (As := [_]) h0 hts hown (c_X6_abort hR1 hMI hc) gL_law_X6_abort rfl (by decide +kernel) ⟨Nat.le_of_ble_eq_true rfl, Nat.le_of_ble_eq_true rfl⟩ kOk6 rfl (RF_m hR1) dL_law_339 rfl rfl (Nat.le_of_ble_eq_true rfl) ⟨by show cs + 2 + 0 ≤ 601024; omega, by show sl + 1506 + 0 ≤ 7293034; omega⟩ (fun r2 S2 hp339 => ?_)
  obtain ⟨hX2, hcd2, hr2⟩ := hp339
  have hC2 := Rep_RX (RF_m hR1) hX2 hC1
  have hR2 := RX_base hX2
  refine z_istore (lo' := [_, _, _, _, _, _, _]) h0 dL_law_342 (by decide) rfl rfl ?_
  refine z_aload_n h0 dL_law_344 rfl ?_
  refine z_hCi (n := 0) (As := []) h0 hts hown (c_X6_thrown (RF_m hR2)) gL_law_X6_thrown rfl (by decide +kernel) ⟨Nat.le_of_ble_eq_true rfl, Nat.le_of_ble_eq_true rfl⟩ kOk6 rfl (RF_m hR2) dL_law_345 rfl rfl (Nat.le_of_ble_eq_true rfl) ⟨by show cs + 2 + 0 + 0 ≤ 601024; omega, by show sl + 1506 + 0 + 0 ≤ 7293034; omega⟩ (fun r3 S3 hp345 => ?_)
  obtain ⟨rfl, hr3⟩ := hp345
  rw [hcd2] at hr3
  subst hr3
  refine z_iload h0 dL_law_348 rfl ?_
  refine z_icmp_eq (tgt := 355) h0 dL_law_350 (by decide) (fun _ => ?_) (fun h => absurd rfl h)
  refine z_iload h0 dL_law_355 rfl ?_
  refine z_if_ne (tgt := 372) h0 dL_law_357 (by decide) (fun _ => ?_) (fun h5 => ?_)
  · refine z_goto (tgt := 962) h0 dL_law_372 (by decide) ?_
    exact kk S2 f1 (oAbort M (xs (4 * k + 1))).2.2 _ _ _ _ ⟨hC2, hR2, MI_abort _ hc hMI⟩ (by show cs + 2 + 0 + 0 ≤ _; omega) (by show sl + 1506 + 0 + 0 ≤ _; omega)
  · have h00 := code_0 h5 le_oAbort
    have hv : f1 0 = (oAbort M (xs (4 * k + 1))).2.1.toInt64 := hf1 h00
    have hr := hr2 h00
    refine z_aload_n h0 dL_law_360 rfl ?_
    refine z_iconst (v := 0) h0 dL_law_361 (by decide) ?_
    refine z_hald h0 hJ dL_law_362 ?_
    refine z_iload h0 dL_law_363 rfl ?_
    refine z_i2l h0 dL_law_365 ?_
    refine z_lcmp h0 dL_law_366 ?_
    refine z_top (y := 0) (by rw [hv, hr]; exact cmp_self _) ?_
    refine z_if_eq (tgt := 372) h0 dL_law_367 (by decide) (fun _ => ?_) (fun h => absurd rfl h)
    refine z_goto (tgt := 962) h0 dL_law_372 (by decide) ?_
    exact kk S2 f1 (oAbort M (xs (4 * k + 1))).2.2 _ _ _ _ ⟨hC2, hR2, MI_abort _ hc hMI⟩ (by show cs + 2 + 0 + 0 ≤ _; omega) (by show sl + 1506 + 0 + 0 ≤ _; omega)

set_option maxRecDepth 100000 in
set_option maxHeartbeats 4000000 in
theorem law_4 (h0 : ZC p s c code 7 D cI cZ cO A G) (hJ : va_K D vwCl [(cJ, .long)] s) (hts : ∀ w ∈ wsL_law, w.before args s = true) (hown : s.vm.findClass RL = some mi.cls) (hl : l.stackTraces = false) {b Ln : Nat} {xs : Nat → Int32} (hX : va_X b Ln xs s s.heap) (hbl : b < s.heap.size) (hbA : ¬ A b) {k x m : Nat} {Am : Nat → Nat} {M : MS} (hk : 4 * k + 4 ≤ Ln) (hL : Ln ≤ 2048) (hI : LI G S x m Am M k) (hcs : cs ≤ 100 + 1010 * k) (hsl : sl ≤ 20000 + 13000 * k) {z5 z6 : Option Value} (kk : ∀ (S' : PS) (f' : Nat → Int64) (M' : MS) (cs' sl' : Nat) (z5 z6 : Option Value), LI G S' x m Am M' (k + 1) → cs' ≤ 100 + 1010 * (k + 1) → sl' ≤ 20000 + 13000 * (k + 1) → ZW p l e room_1 s mi args below meth c D cI cZ cO A Q (oC cJ o f') 7 S' cs' sl' 962 [some (.ref b), some (.ref x), some (.ref m), some (.ref o), some (.int (nI (4 * k))), z5, z6] []) : ZW p l e room_1 s mi args below meth c D cI cZ cO A Q (oC cJ o f) 7 S cs sl 375 [some (.ref b), some (.ref x), some (.ref m), some (.ref o), some (.int (nI (4 * k))), z5, z6] [] := by
  obtain ⟨⟨n0, ar, L, C, hC⟩, hR, hMI⟩ := hI
  have hc : k < 512 := by omega
  refine z_aload_n h0 dL_law_375 rfl ?_
  refine z_aload_n h0 dL_law_376 rfl ?_
  refine z_iload h0 dL_law_377 rfl ?_
  refine z_iconst (v := 1) h0 dL_law_379 (by decide) ?_
  refine z_iadd h0 dL_law_380 ?_
  refine z_top (y := nI (4 * k + 1)) (nI_add _ _) ?_
  refine z_sld h0 hX hbl hbA (j := 4 * k + 1) (nI_toInt (by omega)) (by omega) dL_law_381 ?_
  refine z_aload_n h0 dL_law_382 rfl ?_
  refine z_hS (n := 3) (As := [_, _, _]) h0 hJ hts hown (c_L_readLog hl hC hMI hc) gL_law_L_readLog rfl (by decide +kernel) ⟨Nat.le_of_ble_eq_true rfl, Nat.le_of_ble_eq_true rfl⟩ dL_law_383 rfl rfl (Nat.le_of_ble_eq_true rfl) ⟨by show cs + 20 ≤ 601024; omega, by show sl + 9000 ≤ 7293034; omega⟩ (fun r1 S1 f1 hp1 => ?_)
  obtain ⟨hr1, hf1, hC1, hF1⟩ := hp1
  have hR1 := RF_KF hF1 hR
  subst hr1
  refine z_istore (lo' := [_, _, _, _, _, _, _]) h0 dL_law_386 (by decide) rfl rfl ?_
  refine z_aload_n h0 dL_law_388 rfl ?_
  refine z_aload_n h0 dL_law_389 rfl ?_
  refine z_iload h0 dL_law_390 rfl ?_
  refine z_iconst (v := 1) h0 dL_law_392 (by decide) ?_
  refine z_iadd h0 dL_law_393 ?_
  refine z_top (y := nI (4 * k + 1)) (nI_add _ _) ?_
  refine z_sld h0 hX hbl hbA (j := 4 * k + 1) (nI_toInt (by omega)) (by omega) dL_law_394 ?_
  refine z_hCi (n := 1) (As := [_]) h0 hts hown (c_X6_readLog hR1 hMI hc) gL_law_X6_readLog rfl (by decide +kernel) ⟨Nat.le_of_ble_eq_true rfl, Nat.le_of_ble_eq_true rfl⟩ kOk6 rfl (RF_m hR1) dL_law_395 rfl rfl (Nat.le_of_ble_eq_true rfl) ⟨by show cs + 20 + 0 ≤ 601024; omega, by show sl + 9000 + 0 ≤ 7293034; omega⟩ (fun r2 S2 hp395 => ?_)
  obtain ⟨hX2, hcd2, hr2⟩ := hp395
  have hC2 := Rep_RX (RF_m hR1) hX2 hC1
  have hR2 := RX_base hX2
  refine z_istore (lo' := [_, _, _, _, _, _, _]) h0 dL_law_398 (by decide) rfl rfl ?_
  refine z_aload_n h0 dL_law_400 rfl ?_
  refine z_hCi (n := 0) (As := []) h0 hts hown (c_X6_thrown (RF_m hR2)) gL_law_X6_thrown rfl (by decide +kernel) ⟨Nat.le_of_ble_eq_true rfl, Nat.le_of_ble_eq_true rfl⟩ kOk6 rfl (RF_m hR2) dL_law_401 rfl rfl (Nat.le_of_ble_eq_true rfl) ⟨by show cs + 20 + 0 + 0 ≤ 601024; omega, by show sl + 9000 + 0 + 0 ≤ 7293034; omega⟩ (fun r3 S3 hp401 => ?_)
  obtain ⟨rfl, hr3⟩ := hp401
  rw [hcd2] at hr3
  subst hr3
  refine z_iload h0 dL_law_404 rfl ?_
  refine z_icmp_eq (tgt := 411) h0 dL_law_406 (by decide) (fun _ => ?_) (fun h => absurd rfl h)
  refine z_iload h0 dL_law_411 rfl ?_
  refine z_if_ne (tgt := 428) h0 dL_law_413 (by decide) (fun _ => ?_) (fun h5 => ?_)
  · refine z_goto (tgt := 962) h0 dL_law_428 (by decide) ?_
    exact kk S2 f1 (oReadLog M (xs (4 * k + 1))).2.2 _ _ _ _ ⟨hC2, hR2, MI_readLog _ hMI⟩ (by show cs + 20 + 0 + 0 ≤ _; omega) (by show sl + 9000 + 0 + 0 ≤ _; omega)
  · have h00 := code_0 h5 le_oReadLog
    have hv : f1 0 = (oReadLog M (xs (4 * k + 1))).2.1.toInt64 := hf1 h00
    have hr := hr2 h00
    refine z_aload_n h0 dL_law_416 rfl ?_
    refine z_iconst (v := 0) h0 dL_law_417 (by decide) ?_
    refine z_hald h0 hJ dL_law_418 ?_
    refine z_iload h0 dL_law_419 rfl ?_
    refine z_i2l h0 dL_law_421 ?_
    refine z_lcmp h0 dL_law_422 ?_
    refine z_top (y := 0) (by rw [hv, hr]; exact cmp_self _) ?_
    refine z_if_eq (tgt := 428) h0 dL_law_423 (by decide) (fun _ => ?_) (fun h => absurd rfl h)
    refine z_goto (tgt := 962) h0 dL_law_428 (by decide) ?_
    exact kk S2 f1 (oReadLog M (xs (4 * k + 1))).2.2 _ _ _ _ ⟨hC2, hR2, MI_readLog _ hMI⟩ (by show cs + 20 + 0 + 0 ≤ _; omega) (by show sl + 9000 + 0 + 0 ≤ _; omega)

set_option maxRecDepth 100000 in
set_option maxHeartbeats 4000000 in
theorem law_5 (h0 : ZC p s c code 7 D cI cZ cO A G) (hJ : va_K D vwCl [(cJ, .long)] s) (hts : ∀ w ∈ wsL_law, w.before args s = true) (hown : s.vm.findClass RL = some mi.cls) (hl : l.stackTraces = false) {b Ln : Nat} {xs : Nat → Int32} (hX : va_X b Ln xs s s.heap) (hbl : b < s.heap.size) (hbA : ¬ A b) {k x m : Nat} {Am : Nat → Nat} {M : MS} (hk : 4 * k + 4 ≤ Ln) (hL : Ln ≤ 2048) (hI : LI G S x m Am M k) (hcs : cs ≤ 100 + 1010 * k) (hsl : sl ≤ 20000 + 13000 * k) {z5 z6 : Option Value} (kk : ∀ (S' : PS) (f' : Nat → Int64) (M' : MS) (cs' sl' : Nat) (z5 z6 : Option Value), LI G S' x m Am M' (k + 1) → cs' ≤ 100 + 1010 * (k + 1) → sl' ≤ 20000 + 13000 * (k + 1) → ZW p l e room_1 s mi args below meth c D cI cZ cO A Q (oC cJ o f') 7 S' cs' sl' 962 [some (.ref b), some (.ref x), some (.ref m), some (.ref o), some (.int (nI (4 * k))), z5, z6] []) : ZW p l e room_1 s mi args below meth c D cI cZ cO A Q (oC cJ o f) 7 S cs sl 431 [some (.ref b), some (.ref x), some (.ref m), some (.ref o), some (.int (nI (4 * k))), z5, z6] [] := by
  obtain ⟨⟨n0, ar, L, C, hC⟩, hR, hMI⟩ := hI
  have hc : k < 512 := by omega
  refine z_aload_n h0 dL_law_431 rfl ?_
  refine z_aload_n h0 dL_law_432 rfl ?_
  refine z_iload h0 dL_law_433 rfl ?_
  refine z_iconst (v := 1) h0 dL_law_435 (by decide) ?_
  refine z_iadd h0 dL_law_436 ?_
  refine z_top (y := nI (4 * k + 1)) (nI_add _ _) ?_
  refine z_sld h0 hX hbl hbA (j := 4 * k + 1) (nI_toInt (by omega)) (by omega) dL_law_437 ?_
  refine z_aload_n h0 dL_law_438 rfl ?_
  refine z_hS (n := 3) (As := [_, _, _]) h0 hJ hts hown (c_L_authorise hl hC hMI hc) gL_law_L_authorise rfl (by decide +kernel) ⟨Nat.le_of_ble_eq_true rfl, Nat.le_of_ble_eq_true rfl⟩ dL_law_439 rfl rfl (Nat.le_of_ble_eq_true rfl) ⟨by show cs + 6 ≤ 601024; omega, by show sl + 1540 ≤ 7293034; omega⟩ (fun r1 S1 f1 hp1 => ?_)
  obtain ⟨hr1, hf1, hC1, hF1⟩ := hp1
  have hR1 := RF_KF hF1 hR
  subst hr1
  refine z_istore (lo' := [_, _, _, _, _, _, _]) h0 dL_law_442 (by decide) rfl rfl ?_
  refine z_aload_n h0 dL_law_444 rfl ?_
  refine z_aload_n h0 dL_law_445 rfl ?_
  refine z_iload h0 dL_law_446 rfl ?_
  refine z_iconst (v := 1) h0 dL_law_448 (by decide) ?_
  refine z_iadd h0 dL_law_449 ?_
  refine z_top (y := nI (4 * k + 1)) (nI_add _ _) ?_
  refine z_sld h0 hX hbl hbA (j := 4 * k + 1) (nI_toInt (by omega)) (by omega) dL_law_450 ?_
  refine z_hCi (n := 1) (As := [_]) h0 hts hown (c_X6_authorise hR1 hMI hc) gL_law_X6_authorise rfl (by decide +kernel) ⟨Nat.le_of_ble_eq_true rfl, Nat.le_of_ble_eq_true rfl⟩ kOk6 rfl (RF_m hR1) dL_law_451 rfl rfl (Nat.le_of_ble_eq_true rfl) ⟨by show cs + 6 + 0 ≤ 601024; omega, by show sl + 1540 + 0 ≤ 7293034; omega⟩ (fun r2 S2 hp451 => ?_)
  obtain ⟨hX2, hcd2, hr2⟩ := hp451
  have hC2 := Rep_RX (RF_m hR1) hX2 hC1
  have hR2 := RX_base hX2
  refine z_istore (lo' := [_, _, _, _, _, _, _]) h0 dL_law_454 (by decide) rfl rfl ?_
  refine z_aload_n h0 dL_law_456 rfl ?_
  refine z_hCi (n := 0) (As := []) h0 hts hown (c_X6_thrown (RF_m hR2)) gL_law_X6_thrown rfl (by decide +kernel) ⟨Nat.le_of_ble_eq_true rfl, Nat.le_of_ble_eq_true rfl⟩ kOk6 rfl (RF_m hR2) dL_law_457 rfl rfl (Nat.le_of_ble_eq_true rfl) ⟨by show cs + 6 + 0 + 0 ≤ 601024; omega, by show sl + 1540 + 0 + 0 ≤ 7293034; omega⟩ (fun r3 S3 hp457 => ?_)
  obtain ⟨rfl, hr3⟩ := hp457
  rw [hcd2] at hr3
  subst hr3
  refine z_iload h0 dL_law_460 rfl ?_
  refine z_icmp_eq (tgt := 467) h0 dL_law_462 (by decide) (fun _ => ?_) (fun h => absurd rfl h)
  refine z_iload h0 dL_law_467 rfl ?_
  refine z_if_ne (tgt := 484) h0 dL_law_469 (by decide) (fun _ => ?_) (fun h5 => ?_)
  · refine z_goto (tgt := 962) h0 dL_law_484 (by decide) ?_
    exact kk S2 f1 (oAuth M (xs (4 * k + 1))).2.2 _ _ _ _ ⟨hC2, hR2, MI_auth _ hMI⟩ (by show cs + 6 + 0 + 0 ≤ _; omega) (by show sl + 1540 + 0 + 0 ≤ _; omega)
  · have h00 := code_0 h5 le_oAuth
    have hv : f1 0 = (oAuth M (xs (4 * k + 1))).2.1.toInt64 := hf1 h00
    have hr := hr2 h00
    refine z_aload_n h0 dL_law_472 rfl ?_
    refine z_iconst (v := 0) h0 dL_law_473 (by decide) ?_
    refine z_hald h0 hJ dL_law_474 ?_
    refine z_iload h0 dL_law_475 rfl ?_
    refine z_i2l h0 dL_law_477 ?_
    refine z_lcmp h0 dL_law_478 ?_
    refine z_top (y := 0) (by rw [hv, hr]; exact cmp_self _) ?_
    refine z_if_eq (tgt := 484) h0 dL_law_479 (by decide) (fun _ => ?_) (fun h => absurd rfl h)
    refine z_goto (tgt := 962) h0 dL_law_484 (by decide) ?_
    exact kk S2 f1 (oAuth M (xs (4 * k + 1))).2.2 _ _ _ _ ⟨hC2, hR2, MI_auth _ hMI⟩ (by show cs + 6 + 0 + 0 ≤ _; omega) (by show sl + 1540 + 0 + 0 ≤ _; omega)

set_option maxRecDepth 100000 in
set_option maxHeartbeats 4000000 in
theorem law_6 (h0 : ZC p s c code 7 D cI cZ cO A G) (hJ : va_K D vwCl [(cJ, .long)] s) (hts : ∀ w ∈ wsL_law, w.before args s = true) (hown : s.vm.findClass RL = some mi.cls) (hl : l.stackTraces = false) {b Ln : Nat} {xs : Nat → Int32} (hX : va_X b Ln xs s s.heap) (hbl : b < s.heap.size) (hbA : ¬ A b) {k x m : Nat} {Am : Nat → Nat} {M : MS} (hk : 4 * k + 4 ≤ Ln) (hL : Ln ≤ 2048) (hI : LI G S x m Am M k) (hcs : cs ≤ 100 + 1010 * k) (hsl : sl ≤ 20000 + 13000 * k) {z5 z6 : Option Value} (kk : ∀ (S' : PS) (f' : Nat → Int64) (M' : MS) (cs' sl' : Nat) (z5 z6 : Option Value), LI G S' x m Am M' (k + 1) → cs' ≤ 100 + 1010 * (k + 1) → sl' ≤ 20000 + 13000 * (k + 1) → ZW p l e room_1 s mi args below meth c D cI cZ cO A Q (oC cJ o f') 7 S' cs' sl' 962 [some (.ref b), some (.ref x), some (.ref m), some (.ref o), some (.int (nI (4 * k))), z5, z6] []) : ZW p l e room_1 s mi args below meth c D cI cZ cO A Q (oC cJ o f) 7 S cs sl 487 [some (.ref b), some (.ref x), some (.ref m), some (.ref o), some (.int (nI (4 * k))), z5, z6] [] := by
  obtain ⟨⟨n0, ar, L, C, hC⟩, hR, hMI⟩ := hI
  have hc : k < 512 := by omega
  refine z_aload_n h0 dL_law_487 rfl ?_
  refine z_aload_n h0 dL_law_488 rfl ?_
  refine z_iload h0 dL_law_489 rfl ?_
  refine z_iconst (v := 1) h0 dL_law_491 (by decide) ?_
  refine z_iadd h0 dL_law_492 ?_
  refine z_top (y := nI (4 * k + 1)) (nI_add _ _) ?_
  refine z_sld h0 hX hbl hbA (j := 4 * k + 1) (nI_toInt (by omega)) (by omega) dL_law_493 ?_
  refine z_aload_n h0 dL_law_494 rfl ?_
  refine z_hS (n := 3) (As := [_, _, _]) h0 hJ hts hown (c_L_refund hl hC hMI hc) gL_law_L_refund rfl (by decide +kernel) ⟨Nat.le_of_ble_eq_true rfl, Nat.le_of_ble_eq_true rfl⟩ dL_law_495 rfl rfl (Nat.le_of_ble_eq_true rfl) ⟨by show cs + 4 ≤ 601024; omega, by show sl + 24 ≤ 7293034; omega⟩ (fun r1 S1 f1 hp1 => ?_)
  obtain ⟨hr1, hf1, hC1, hF1⟩ := hp1
  have hR1 := RF_KF hF1 hR
  subst hr1
  refine z_istore (lo' := [_, _, _, _, _, _, _]) h0 dL_law_498 (by decide) rfl rfl ?_
  refine z_aload_n h0 dL_law_500 rfl ?_
  refine z_aload_n h0 dL_law_501 rfl ?_
  refine z_iload h0 dL_law_502 rfl ?_
  refine z_iconst (v := 1) h0 dL_law_504 (by decide) ?_
  refine z_iadd h0 dL_law_505 ?_
  refine z_top (y := nI (4 * k + 1)) (nI_add _ _) ?_
  refine z_sld h0 hX hbl hbA (j := 4 * k + 1) (nI_toInt (by omega)) (by omega) dL_law_506 ?_
  refine z_hCi (n := 1) (As := [_]) h0 hts hown (c_X6_refund hR1 hMI hc) gL_law_X6_refund rfl (by decide +kernel) ⟨Nat.le_of_ble_eq_true rfl, Nat.le_of_ble_eq_true rfl⟩ kOk6 rfl (RF_m hR1) dL_law_507 rfl rfl (Nat.le_of_ble_eq_true rfl) ⟨by show cs + 4 + 0 ≤ 601024; omega, by show sl + 24 + 0 ≤ 7293034; omega⟩ (fun r2 S2 hp507 => ?_)
  obtain ⟨hX2, hcd2, hr2⟩ := hp507
  have hC2 := Rep_RX (RF_m hR1) hX2 hC1
  have hR2 := RX_base hX2
  refine z_istore (lo' := [_, _, _, _, _, _, _]) h0 dL_law_510 (by decide) rfl rfl ?_
  refine z_aload_n h0 dL_law_512 rfl ?_
  refine z_hCi (n := 0) (As := []) h0 hts hown (c_X6_thrown (RF_m hR2)) gL_law_X6_thrown rfl (by decide +kernel) ⟨Nat.le_of_ble_eq_true rfl, Nat.le_of_ble_eq_true rfl⟩ kOk6 rfl (RF_m hR2) dL_law_513 rfl rfl (Nat.le_of_ble_eq_true rfl) ⟨by show cs + 4 + 0 + 0 ≤ 601024; omega, by show sl + 24 + 0 + 0 ≤ 7293034; omega⟩ (fun r3 S3 hp513 => ?_)
  obtain ⟨rfl, hr3⟩ := hp513
  rw [hcd2] at hr3
  subst hr3
  refine z_iload h0 dL_law_516 rfl ?_
  refine z_icmp_eq (tgt := 523) h0 dL_law_518 (by decide) (fun _ => ?_) (fun h => absurd rfl h)
  refine z_iload h0 dL_law_523 rfl ?_
  refine z_if_ne (tgt := 540) h0 dL_law_525 (by decide) (fun _ => ?_) (fun h5 => ?_)
  · refine z_goto (tgt := 962) h0 dL_law_540 (by decide) ?_
    exact kk S2 f1 (oRefund M (xs (4 * k + 1))).2.2 _ _ _ _ ⟨hC2, hR2, MI_refund _ hc hMI⟩ (by show cs + 4 + 0 + 0 ≤ _; omega) (by show sl + 24 + 0 + 0 ≤ _; omega)
  · have h00 := code_0 h5 le_oRefund
    have hv : f1 0 = (oRefund M (xs (4 * k + 1))).2.1.toInt64 := hf1 h00
    have hr := hr2 h00
    refine z_aload_n h0 dL_law_528 rfl ?_
    refine z_iconst (v := 0) h0 dL_law_529 (by decide) ?_
    refine z_hald h0 hJ dL_law_530 ?_
    refine z_iload h0 dL_law_531 rfl ?_
    refine z_i2l h0 dL_law_533 ?_
    refine z_lcmp h0 dL_law_534 ?_
    refine z_top (y := 0) (by rw [hv, hr]; exact cmp_self _) ?_
    refine z_if_eq (tgt := 540) h0 dL_law_535 (by decide) (fun _ => ?_) (fun h => absurd rfl h)
    refine z_goto (tgt := 962) h0 dL_law_540 (by decide) ?_
    exact kk S2 f1 (oRefund M (xs (4 * k + 1))).2.2 _ _ _ _ ⟨hC2, hR2, MI_refund _ hc hMI⟩ (by show cs + 4 + 0 + 0 ≤ _; omega) (by show sl + 24 + 0 + 0 ≤ _; omega)

set_option maxRecDepth 100000 in
set_option maxHeartbeats 4000000 in
theorem law_7 (h0 : ZC p s c code 7 D cI cZ cO A G) (hJ : va_K D vwCl [(cJ, .long)] s) (hts : ∀ w ∈ wsL_law, w.before args s = true) (hown : s.vm.findClass RL = some mi.cls) (hl : l.stackTraces = false) {b Ln : Nat} {xs : Nat → Int32} (hX : va_X b Ln xs s s.heap) (hbl : b < s.heap.size) (hbA : ¬ A b) {k x m : Nat} {Am : Nat → Nat} {M : MS} (hk : 4 * k + 4 ≤ Ln) (hL : Ln ≤ 2048) (hI : LI G S x m Am M k) (hcs : cs ≤ 100 + 1010 * k) (hsl : sl ≤ 20000 + 13000 * k) {z5 z6 : Option Value} (kk : ∀ (S' : PS) (f' : Nat → Int64) (M' : MS) (cs' sl' : Nat) (z5 z6 : Option Value), LI G S' x m Am M' (k + 1) → cs' ≤ 100 + 1010 * (k + 1) → sl' ≤ 20000 + 13000 * (k + 1) → ZW p l e room_1 s mi args below meth c D cI cZ cO A Q (oC cJ o f') 7 S' cs' sl' 962 [some (.ref b), some (.ref x), some (.ref m), some (.ref o), some (.int (nI (4 * k))), z5, z6] []) : ZW p l e room_1 s mi args below meth c D cI cZ cO A Q (oC cJ o f) 7 S cs sl 543 [some (.ref b), some (.ref x), some (.ref m), some (.ref o), some (.int (nI (4 * k))), z5, z6] [] := by
  obtain ⟨⟨n0, ar, L, C, hC⟩, hR, hMI⟩ := hI
  have hc : k < 512 := by omega
  refine z_aload_n h0 dL_law_543 rfl ?_
  refine z_aload_n h0 dL_law_544 rfl ?_
  refine z_iload h0 dL_law_545 rfl ?_
  refine z_iconst (v := 1) h0 dL_law_547 (by decide) ?_
  refine z_iadd h0 dL_law_548 ?_
  refine z_top (y := nI (4 * k + 1)) (nI_add _ _) ?_
  refine z_sld h0 hX hbl hbA (j := 4 * k + 1) (nI_toInt (by omega)) (by omega) dL_law_549 ?_
  refine z_aload_n h0 dL_law_550 rfl ?_
  refine z_iload h0 dL_law_551 rfl ?_
  refine z_iconst (v := 2) h0 dL_law_553 (by decide) ?_
  refine z_iadd h0 dL_law_554 ?_
  refine z_top (y := nI (4 * k + 2)) (nI_add _ _) ?_
  refine z_sld h0 hX hbl hbA (j := 4 * k + 2) (nI_toInt (by omega)) (by omega) dL_law_555 ?_
  refine z_aload_n h0 dL_law_556 rfl ?_
  refine z_hS (n := 4) (As := [_, _, _, _]) h0 hJ hts hown (c_L_told hl hC hMI hc) gL_law_L_told rfl (by decide +kernel) ⟨Nat.le_of_ble_eq_true rfl, Nat.le_of_ble_eq_true rfl⟩ dL_law_557 rfl rfl (Nat.le_of_ble_eq_true rfl) ⟨by show cs + 2 ≤ 601024; omega, by show sl + 12 ≤ 7293034; omega⟩ (fun r1 S1 f1 hp1 => ?_)
  obtain ⟨hr1, hf1, hC1, hF1⟩ := hp1
  have hR1 := RF_KF hF1 hR
  subst hr1
  refine z_istore (lo' := [_, _, _, _, _, _, _]) h0 dL_law_560 (by decide) rfl rfl ?_
  refine z_aload_n h0 dL_law_562 rfl ?_
  refine z_aload_n h0 dL_law_563 rfl ?_
  refine z_iload h0 dL_law_564 rfl ?_
  refine z_iconst (v := 1) h0 dL_law_566 (by decide) ?_
  refine z_iadd h0 dL_law_567 ?_
  refine z_top (y := nI (4 * k + 1)) (nI_add _ _) ?_
  refine z_sld h0 hX hbl hbA (j := 4 * k + 1) (nI_toInt (by omega)) (by omega) dL_law_568 ?_
  refine z_aload_n h0 dL_law_569 rfl ?_
  refine z_iload h0 dL_law_570 rfl ?_
  refine z_iconst (v := 2) h0 dL_law_572 (by decide) ?_
  refine z_iadd h0 dL_law_573 ?_
  refine z_top (y := nI (4 * k + 2)) (nI_add _ _) ?_
  refine z_sld h0 hX hbl hbA (j := 4 * k + 2) (nI_toInt (by omega)) (by omega) dL_law_574 ?_
  refine z_hCi (n := 2) (As := [_, _]) h0 hts hown (c_X6_told hR1 hMI hc) gL_law_X6_told rfl (by decide +kernel) ⟨Nat.le_of_ble_eq_true rfl, Nat.le_of_ble_eq_true rfl⟩ kOk6 rfl (RF_m hR1) dL_law_575 rfl rfl (Nat.le_of_ble_eq_true rfl) ⟨by show cs + 2 + 0 ≤ 601024; omega, by show sl + 12 + 0 ≤ 7293034; omega⟩ (fun r2 S2 hp575 => ?_)
  obtain ⟨hX2, hcd2, hr2⟩ := hp575
  have hC2 := Rep_RX (RF_m hR1) hX2 hC1
  have hR2 := RX_base hX2
  refine z_istore (lo' := [_, _, _, _, _, _, _]) h0 dL_law_578 (by decide) rfl rfl ?_
  refine z_aload_n h0 dL_law_580 rfl ?_
  refine z_hCi (n := 0) (As := []) h0 hts hown (c_X6_thrown (RF_m hR2)) gL_law_X6_thrown rfl (by decide +kernel) ⟨Nat.le_of_ble_eq_true rfl, Nat.le_of_ble_eq_true rfl⟩ kOk6 rfl (RF_m hR2) dL_law_581 rfl rfl (Nat.le_of_ble_eq_true rfl) ⟨by show cs + 2 + 0 + 0 ≤ 601024; omega, by show sl + 12 + 0 + 0 ≤ 7293034; omega⟩ (fun r3 S3 hp581 => ?_)
  obtain ⟨rfl, hr3⟩ := hp581
  rw [hcd2] at hr3
  subst hr3
  refine z_iload h0 dL_law_584 rfl ?_
  refine z_icmp_eq (tgt := 591) h0 dL_law_586 (by decide) (fun _ => ?_) (fun h => absurd rfl h)
  refine z_iload h0 dL_law_591 rfl ?_
  refine z_if_ne (tgt := 608) h0 dL_law_593 (by decide) (fun _ => ?_) (fun h5 => ?_)
  · refine z_goto (tgt := 962) h0 dL_law_608 (by decide) ?_
    exact kk S2 f1 (oTold M (xs (4 * k + 1)) (xs (4 * k + 2))).2.2 _ _ _ _ ⟨hC2, hR2, (by rw [same_oTold]; exact MI_up hMI)⟩ (by show cs + 2 + 0 + 0 ≤ _; omega) (by show sl + 12 + 0 + 0 ≤ _; omega)
  · have h00 := code_0 h5 le_oTold
    have hv : f1 0 = (oTold M (xs (4 * k + 1)) (xs (4 * k + 2))).2.1.toInt64 := hf1 h00
    have hr := hr2 h00
    refine z_aload_n h0 dL_law_596 rfl ?_
    refine z_iconst (v := 0) h0 dL_law_597 (by decide) ?_
    refine z_hald h0 hJ dL_law_598 ?_
    refine z_iload h0 dL_law_599 rfl ?_
    refine z_i2l h0 dL_law_601 ?_
    refine z_lcmp h0 dL_law_602 ?_
    refine z_top (y := 0) (by rw [hv, hr]; exact cmp_self _) ?_
    refine z_if_eq (tgt := 608) h0 dL_law_603 (by decide) (fun _ => ?_) (fun h => absurd rfl h)
    refine z_goto (tgt := 962) h0 dL_law_608 (by decide) ?_
    exact kk S2 f1 (oTold M (xs (4 * k + 1)) (xs (4 * k + 2))).2.2 _ _ _ _ ⟨hC2, hR2, (by rw [same_oTold]; exact MI_up hMI)⟩ (by show cs + 2 + 0 + 0 ≤ _; omega) (by show sl + 12 + 0 + 0 ≤ _; omega)

set_option maxRecDepth 100000 in
set_option maxHeartbeats 4000000 in
theorem law_8 (h0 : ZC p s c code 7 D cI cZ cO A G) (hJ : va_K D vwCl [(cJ, .long)] s) (hts : ∀ w ∈ wsL_law, w.before args s = true) (hown : s.vm.findClass RL = some mi.cls) (hl : l.stackTraces = false) {b Ln : Nat} {xs : Nat → Int32} (hX : va_X b Ln xs s s.heap) (hbl : b < s.heap.size) (hbA : ¬ A b) {k x m : Nat} {Am : Nat → Nat} {M : MS} (hk : 4 * k + 4 ≤ Ln) (hL : Ln ≤ 2048) (hI : LI G S x m Am M k) (hcs : cs ≤ 100 + 1010 * k) (hsl : sl ≤ 20000 + 13000 * k) {z5 z6 : Option Value} (kk : ∀ (S' : PS) (f' : Nat → Int64) (M' : MS) (cs' sl' : Nat) (z5 z6 : Option Value), LI G S' x m Am M' (k + 1) → cs' ≤ 100 + 1010 * (k + 1) → sl' ≤ 20000 + 13000 * (k + 1) → ZW p l e room_1 s mi args below meth c D cI cZ cO A Q (oC cJ o f') 7 S' cs' sl' 962 [some (.ref b), some (.ref x), some (.ref m), some (.ref o), some (.int (nI (4 * k))), z5, z6] []) : ZW p l e room_1 s mi args below meth c D cI cZ cO A Q (oC cJ o f) 7 S cs sl 611 [some (.ref b), some (.ref x), some (.ref m), some (.ref o), some (.int (nI (4 * k))), z5, z6] [] := by
  obtain ⟨⟨n0, ar, L, C, hC⟩, hR, hMI⟩ := hI
  have hc : k < 512 := by omega
  refine z_aload_n h0 dL_law_611 rfl ?_
  refine z_aload_n h0 dL_law_612 rfl ?_
  refine z_iload h0 dL_law_613 rfl ?_
  refine z_iconst (v := 1) h0 dL_law_615 (by decide) ?_
  refine z_iadd h0 dL_law_616 ?_
  refine z_top (y := nI (4 * k + 1)) (nI_add _ _) ?_
  refine z_sld h0 hX hbl hbA (j := 4 * k + 1) (nI_toInt (by omega)) (by omega) dL_law_617 ?_
  refine z_aload_n h0 dL_law_618 rfl ?_
  refine z_iload h0 dL_law_619 rfl ?_
  refine z_iconst (v := 2) h0 dL_law_621 (by decide) ?_
  refine z_iadd h0 dL_law_622 ?_
  refine z_top (y := nI (4 * k + 2)) (nI_add _ _) ?_
  refine z_sld h0 hX hbl hbA (j := 4 * k + 2) (nI_toInt (by omega)) (by omega) dL_law_623 ?_
  refine z_aload_n h0 dL_law_624 rfl ?_
  refine z_hS (n := 4) (As := [_, _, _, _]) h0 hJ hts hown (c_L_transfer hl hC hMI hc) gL_law_L_transfer rfl (by decide +kernel) ⟨Nat.le_of_ble_eq_true rfl, Nat.le_of_ble_eq_true rfl⟩ dL_law_625 rfl rfl (Nat.le_of_ble_eq_true rfl) ⟨by show cs + 2 ≤ 601024; omega, by show sl + 12 ≤ 7293034; omega⟩ (fun r1 S1 f1 hp1 => ?_)
  obtain ⟨hr1, hf1, hC1, hF1⟩ := hp1
  have hR1 := RF_KF hF1 hR
  subst hr1
  refine z_istore (lo' := [_, _, _, _, _, _, _]) h0 dL_law_628 (by decide) rfl rfl ?_
  refine z_aload_n h0 dL_law_630 rfl ?_
  refine z_aload_n h0 dL_law_631 rfl ?_
  refine z_iload h0 dL_law_632 rfl ?_
  refine z_iconst (v := 1) h0 dL_law_634 (by decide) ?_
  refine z_iadd h0 dL_law_635 ?_
  refine z_top (y := nI (4 * k + 1)) (nI_add _ _) ?_
  refine z_sld h0 hX hbl hbA (j := 4 * k + 1) (nI_toInt (by omega)) (by omega) dL_law_636 ?_
  refine z_aload_n h0 dL_law_637 rfl ?_
  refine z_iload h0 dL_law_638 rfl ?_
  refine z_iconst (v := 2) h0 dL_law_640 (by decide) ?_
  refine z_iadd h0 dL_law_641 ?_
  refine z_top (y := nI (4 * k + 2)) (nI_add _ _) ?_
  refine z_sld h0 hX hbl hbA (j := 4 * k + 2) (nI_toInt (by omega)) (by omega) dL_law_642 ?_
  refine z_hCi (n := 2) (As := [_, _]) h0 hts hown (c_X6_transfer hR1 hMI hc) gL_law_X6_transfer rfl (by decide +kernel) ⟨Nat.le_of_ble_eq_true rfl, Nat.le_of_ble_eq_true rfl⟩ kOk6 rfl (RF_m hR1) dL_law_643 rfl rfl (Nat.le_of_ble_eq_true rfl) ⟨by show cs + 2 + 0 ≤ 601024; omega, by show sl + 12 + 0 ≤ 7293034; omega⟩ (fun r2 S2 hp643 => ?_)
  obtain ⟨hX2, hcd2, hr2⟩ := hp643
  have hC2 := Rep_RX (RF_m hR1) hX2 hC1
  have hR2 := RX_base hX2
  refine z_istore (lo' := [_, _, _, _, _, _, _]) h0 dL_law_646 (by decide) rfl rfl ?_
  refine z_aload_n h0 dL_law_648 rfl ?_
  refine z_hCi (n := 0) (As := []) h0 hts hown (c_X6_thrown (RF_m hR2)) gL_law_X6_thrown rfl (by decide +kernel) ⟨Nat.le_of_ble_eq_true rfl, Nat.le_of_ble_eq_true rfl⟩ kOk6 rfl (RF_m hR2) dL_law_649 rfl rfl (Nat.le_of_ble_eq_true rfl) ⟨by show cs + 2 + 0 + 0 ≤ 601024; omega, by show sl + 12 + 0 + 0 ≤ 7293034; omega⟩ (fun r3 S3 hp649 => ?_)
  obtain ⟨rfl, hr3⟩ := hp649
  rw [hcd2] at hr3
  subst hr3
  refine z_iload h0 dL_law_652 rfl ?_
  refine z_icmp_eq (tgt := 659) h0 dL_law_654 (by decide) (fun _ => ?_) (fun h => absurd rfl h)
  refine z_iload h0 dL_law_659 rfl ?_
  refine z_if_ne (tgt := 676) h0 dL_law_661 (by decide) (fun _ => ?_) (fun h5 => ?_)
  · refine z_goto (tgt := 962) h0 dL_law_676 (by decide) ?_
    exact kk S2 f1 (oTransfer M (xs (4 * k + 1)) (xs (4 * k + 2))).2.2 _ _ _ _ ⟨hC2, hR2, (by rw [same_oTransfer]; exact MI_up hMI)⟩ (by show cs + 2 + 0 + 0 ≤ _; omega) (by show sl + 12 + 0 + 0 ≤ _; omega)
  · have h00 := code_0 h5 le_oTransfer
    have hv : f1 0 = (oTransfer M (xs (4 * k + 1)) (xs (4 * k + 2))).2.1.toInt64 := hf1 h00
    have hr := hr2 h00
    refine z_aload_n h0 dL_law_664 rfl ?_
    refine z_iconst (v := 0) h0 dL_law_665 (by decide) ?_
    refine z_hald h0 hJ dL_law_666 ?_
    refine z_iload h0 dL_law_667 rfl ?_
    refine z_i2l h0 dL_law_669 ?_
    refine z_lcmp h0 dL_law_670 ?_
    refine z_top (y := 0) (by rw [hv, hr]; exact cmp_self _) ?_
    refine z_if_eq (tgt := 676) h0 dL_law_671 (by decide) (fun _ => ?_) (fun h => absurd rfl h)
    refine z_goto (tgt := 962) h0 dL_law_676 (by decide) ?_
    exact kk S2 f1 (oTransfer M (xs (4 * k + 1)) (xs (4 * k + 2))).2.2 _ _ _ _ ⟨hC2, hR2, (by rw [same_oTransfer]; exact MI_up hMI)⟩ (by show cs + 2 + 0 + 0 ≤ _; omega) (by show sl + 12 + 0 + 0 ≤ _; omega)

set_option maxRecDepth 100000 in
set_option maxHeartbeats 4000000 in
theorem law_9 (h0 : ZC p s c code 7 D cI cZ cO A G) (hJ : va_K D vwCl [(cJ, .long)] s) (hts : ∀ w ∈ wsL_law, w.before args s = true) (hown : s.vm.findClass RL = some mi.cls) (hl : l.stackTraces = false) {b Ln : Nat} {xs : Nat → Int32} (hX : va_X b Ln xs s s.heap) (hbl : b < s.heap.size) (hbA : ¬ A b) {k x m : Nat} {Am : Nat → Nat} {M : MS} (hk : 4 * k + 4 ≤ Ln) (hL : Ln ≤ 2048) (hI : LI G S x m Am M k) (hcs : cs ≤ 100 + 1010 * k) (hsl : sl ≤ 20000 + 13000 * k) {z5 z6 : Option Value} (kk : ∀ (S' : PS) (f' : Nat → Int64) (M' : MS) (cs' sl' : Nat) (z5 z6 : Option Value), LI G S' x m Am M' (k + 1) → cs' ≤ 100 + 1010 * (k + 1) → sl' ≤ 20000 + 13000 * (k + 1) → ZW p l e room_1 s mi args below meth c D cI cZ cO A Q (oC cJ o f') 7 S' cs' sl' 962 [some (.ref b), some (.ref x), some (.ref m), some (.ref o), some (.int (nI (4 * k))), z5, z6] []) : ZW p l e room_1 s mi args below meth c D cI cZ cO A Q (oC cJ o f) 7 S cs sl 679 [some (.ref b), some (.ref x), some (.ref m), some (.ref o), some (.int (nI (4 * k))), z5, z6] [] := by
  obtain ⟨⟨n0, ar, L, C, hC⟩, hR, hMI⟩ := hI
  have hc : k < 512 := by omega
  refine z_aload_n h0 dL_law_679 rfl ?_
  refine z_aload_n h0 dL_law_680 rfl ?_
  refine z_iload h0 dL_law_681 rfl ?_
  refine z_iconst (v := 1) h0 dL_law_683 (by decide) ?_
  refine z_iadd h0 dL_law_684 ?_
  refine z_top (y := nI (4 * k + 1)) (nI_add _ _) ?_
  refine z_sld h0 hX hbl hbA (j := 4 * k + 1) (nI_toInt (by omega)) (by omega) dL_law_685 ?_
  refine z_aload_n h0 dL_law_686 rfl ?_
  refine z_iload h0 dL_law_687 rfl ?_
  refine z_iconst (v := 2) h0 dL_law_689 (by decide) ?_
  refine z_iadd h0 dL_law_690 ?_
  refine z_top (y := nI (4 * k + 2)) (nI_add _ _) ?_
  refine z_sld h0 hX hbl hbA (j := 4 * k + 2) (nI_toInt (by omega)) (by omega) dL_law_691 ?_
  refine z_aload_n h0 dL_law_692 rfl ?_
  refine z_iload h0 dL_law_693 rfl ?_
  refine z_iconst (v := 3) h0 dL_law_695 (by decide) ?_
  refine z_iadd h0 dL_law_696 ?_
  refine z_top (y := nI (4 * k + 3)) (nI_add _ _) ?_
  refine z_sld h0 hX hbl hbA (j := 4 * k + 3) (nI_toInt (by omega)) (by omega) dL_law_697 ?_
  refine z_aload_n h0 dL_law_698 rfl ?_
  refine z_hS (n := 5) (As := [_, _, _, _, _]) h0 hJ hts hown (c_L_log hl hC hMI hc) gL_law_L_log rfl (by decide +kernel) ⟨Nat.le_of_ble_eq_true rfl, Nat.le_of_ble_eq_true rfl⟩ dL_law_699 rfl rfl (Nat.le_of_ble_eq_true rfl) ⟨by show cs + 2 ≤ 601024; omega, by show sl + 12 ≤ 7293034; omega⟩ (fun r1 S1 f1 hp1 => ?_)
  obtain ⟨hr1, hf1, hC1, hF1⟩ := hp1
  have hR1 := RF_KF hF1 hR
  subst hr1
  refine z_istore (lo' := [_, _, _, _, _, _, _]) h0 dL_law_702 (by decide) rfl rfl ?_
  refine z_aload_n h0 dL_law_704 rfl ?_
  refine z_aload_n h0 dL_law_705 rfl ?_
  refine z_iload h0 dL_law_706 rfl ?_
  refine z_iconst (v := 1) h0 dL_law_708 (by decide) ?_
  refine z_iadd h0 dL_law_709 ?_
  refine z_top (y := nI (4 * k + 1)) (nI_add _ _) ?_
  refine z_sld h0 hX hbl hbA (j := 4 * k + 1) (nI_toInt (by omega)) (by omega) dL_law_710 ?_
  refine z_aload_n h0 dL_law_711 rfl ?_
  refine z_iload h0 dL_law_712 rfl ?_
  refine z_iconst (v := 2) h0 dL_law_714 (by decide) ?_
  refine z_iadd h0 dL_law_715 ?_
  refine z_top (y := nI (4 * k + 2)) (nI_add _ _) ?_
  refine z_sld h0 hX hbl hbA (j := 4 * k + 2) (nI_toInt (by omega)) (by omega) dL_law_716 ?_
  refine z_aload_n h0 dL_law_717 rfl ?_
  refine z_iload h0 dL_law_718 rfl ?_
  refine z_iconst (v := 3) h0 dL_law_720 (by decide) ?_
  refine z_iadd h0 dL_law_721 ?_
  refine z_top (y := nI (4 * k + 3)) (nI_add _ _) ?_
  refine z_sld h0 hX hbl hbA (j := 4 * k + 3) (nI_toInt (by omega)) (by omega) dL_law_722 ?_
  refine z_hCi (n := 3) (As := [_, _, _]) h0 hts hown (c_X6_log hR1 hMI hc) gL_law_X6_log rfl (by decide +kernel) ⟨Nat.le_of_ble_eq_true rfl, Nat.le_of_ble_eq_true rfl⟩ kOk6 rfl (RF_m hR1) dL_law_723 rfl rfl (Nat.le_of_ble_eq_true rfl) ⟨by show cs + 2 + 0 ≤ 601024; omega, by show sl + 12 + 0 ≤ 7293034; omega⟩ (fun r2 S2 hp723 => ?_)
  obtain ⟨hX2, hcd2, hr2⟩ := hp723
  have hC2 := Rep_RX (RF_m hR1) hX2 hC1
  have hR2 := RX_base hX2
  refine z_istore (lo' := [_, _, _, _, _, _, _]) h0 dL_law_726 (by decide) rfl rfl ?_
  refine z_aload_n h0 dL_law_728 rfl ?_
  refine z_hCi (n := 0) (As := []) h0 hts hown (c_X6_thrown (RF_m hR2)) gL_law_X6_thrown rfl (by decide +kernel) ⟨Nat.le_of_ble_eq_true rfl, Nat.le_of_ble_eq_true rfl⟩ kOk6 rfl (RF_m hR2) dL_law_729 rfl rfl (Nat.le_of_ble_eq_true rfl) ⟨by show cs + 2 + 0 + 0 ≤ 601024; omega, by show sl + 12 + 0 + 0 ≤ 7293034; omega⟩ (fun r3 S3 hp729 => ?_)
  obtain ⟨rfl, hr3⟩ := hp729
  rw [hcd2] at hr3
  subst hr3
  refine z_iload h0 dL_law_732 rfl ?_
  refine z_icmp_eq (tgt := 739) h0 dL_law_734 (by decide) (fun _ => ?_) (fun h => absurd rfl h)
  refine z_iload h0 dL_law_739 rfl ?_
  refine z_if_ne (tgt := 756) h0 dL_law_741 (by decide) (fun _ => ?_) (fun h5 => ?_)
  · refine z_goto (tgt := 962) h0 dL_law_756 (by decide) ?_
    exact kk S2 f1 (oLog M (xs (4 * k + 1)) (xs (4 * k + 2)) (xs (4 * k + 3))).2.2 _ _ _ _ ⟨hC2, hR2, (by rw [same_oLog]; exact MI_up hMI)⟩ (by show cs + 2 + 0 + 0 ≤ _; omega) (by show sl + 12 + 0 + 0 ≤ _; omega)
  · have h00 := code_0 h5 le_oLog
    have hv : f1 0 = (oLog M (xs (4 * k + 1)) (xs (4 * k + 2)) (xs (4 * k + 3))).2.1.toInt64 := hf1 h00
    have hr := hr2 h00
    refine z_aload_n h0 dL_law_744 rfl ?_
    refine z_iconst (v := 0) h0 dL_law_745 (by decide) ?_
    refine z_hald h0 hJ dL_law_746 ?_
    refine z_iload h0 dL_law_747 rfl ?_
    refine z_i2l h0 dL_law_749 ?_
    refine z_lcmp h0 dL_law_750 ?_
    refine z_top (y := 0) (by rw [hv, hr]; exact cmp_self _) ?_
    refine z_if_eq (tgt := 756) h0 dL_law_751 (by decide) (fun _ => ?_) (fun h => absurd rfl h)
    refine z_goto (tgt := 962) h0 dL_law_756 (by decide) ?_
    exact kk S2 f1 (oLog M (xs (4 * k + 1)) (xs (4 * k + 2)) (xs (4 * k + 3))).2.2 _ _ _ _ ⟨hC2, hR2, (by rw [same_oLog]; exact MI_up hMI)⟩ (by show cs + 2 + 0 + 0 ≤ _; omega) (by show sl + 12 + 0 + 0 ≤ _; omega)

set_option maxRecDepth 100000 in
set_option maxHeartbeats 4000000 in
theorem law_10 (h0 : ZC p s c code 7 D cI cZ cO A G) (hJ : va_K D vwCl [(cJ, .long)] s) (hts : ∀ w ∈ wsL_law, w.before args s = true) (hown : s.vm.findClass RL = some mi.cls) (hl : l.stackTraces = false) {b Ln : Nat} {xs : Nat → Int32} (hX : va_X b Ln xs s s.heap) (hbl : b < s.heap.size) (hbA : ¬ A b) {k x m : Nat} {Am : Nat → Nat} {M : MS} (hk : 4 * k + 4 ≤ Ln) (hL : Ln ≤ 2048) (hI : LI G S x m Am M k) (hcs : cs ≤ 100 + 1010 * k) (hsl : sl ≤ 20000 + 13000 * k) {z5 z6 : Option Value} (kk : ∀ (S' : PS) (f' : Nat → Int64) (M' : MS) (cs' sl' : Nat) (z5 z6 : Option Value), LI G S' x m Am M' (k + 1) → cs' ≤ 100 + 1010 * (k + 1) → sl' ≤ 20000 + 13000 * (k + 1) → ZW p l e room_1 s mi args below meth c D cI cZ cO A Q (oC cJ o f') 7 S' cs' sl' 962 [some (.ref b), some (.ref x), some (.ref m), some (.ref o), some (.int (nI (4 * k))), z5, z6] []) : ZW p l e room_1 s mi args below meth c D cI cZ cO A Q (oC cJ o f) 7 S cs sl 759 [some (.ref b), some (.ref x), some (.ref m), some (.ref o), some (.int (nI (4 * k))), z5, z6] [] := by
  obtain ⟨⟨n0, ar, L, C, hC⟩, hR, hMI⟩ := hI
  have hc : k < 512 := by omega
  refine z_aload_n h0 dL_law_759 rfl ?_
  refine z_hCi (n := 0) (As := []) h0 hts hown (c_X5_messages hC hMI hc) gL_law_X5_messages rfl (by decide +kernel) ⟨Nat.le_of_ble_eq_true rfl, Nat.le_of_ble_eq_true rfl⟩ kOk5 rfl hC.1.1 dL_law_760 rfl rfl (Nat.le_of_ble_eq_true rfl) ⟨by show cs + 0 ≤ 601024; omega, by show sl + 0 ≤ 7293034; omega⟩ (fun r1 S1 hp760 => ?_)
  obtain ⟨rfl, hr1⟩ := hp760
  refine z_aload_n h0 dL_law_763 rfl ?_
  refine z_hCi (n := 0) (As := []) h0 hts hown (c_X6_messages hR hMI hc) gL_law_X6_messages rfl (by decide +kernel) ⟨Nat.le_of_ble_eq_true rfl, Nat.le_of_ble_eq_true rfl⟩ kOk6 rfl (RF_m hR) dL_law_764 rfl rfl (Nat.le_of_ble_eq_true rfl) ⟨by show cs + 0 + 0 ≤ 601024; omega, by show sl + 0 + 0 ≤ 7293034; omega⟩ (fun r2 S2 hp764 => ?_)
  obtain ⟨hX2, hr2⟩ := hp764
  have hC2 := Rep_RX (RF_m hR) hX2 ⟨n0, ar, L, C, hC⟩
  have hR2 := RX_base hX2
  refine z_icmp_eq (tgt := 962) h0 dL_law_767 (by decide) (fun _ => ?_) (fun h => absurd (hr1.trans hr2.symm) h)
  exact kk S2 f M _ _ _ _ ⟨hC2, hR2, MI_up hMI⟩ (by show cs + 0 + 0 ≤ _; omega) (by show sl + 0 + 0 ≤ _; omega)

set_option maxRecDepth 100000 in
set_option maxHeartbeats 4000000 in
theorem law_11 (h0 : ZC p s c code 7 D cI cZ cO A G) (hJ : va_K D vwCl [(cJ, .long)] s) (hts : ∀ w ∈ wsL_law, w.before args s = true) (hown : s.vm.findClass RL = some mi.cls) (hl : l.stackTraces = false) {b Ln : Nat} {xs : Nat → Int32} (hX : va_X b Ln xs s s.heap) (hbl : b < s.heap.size) (hbA : ¬ A b) {k x m : Nat} {Am : Nat → Nat} {M : MS} (hk : 4 * k + 4 ≤ Ln) (hL : Ln ≤ 2048) (hI : LI G S x m Am M k) (hcs : cs ≤ 100 + 1010 * k) (hsl : sl ≤ 20000 + 13000 * k) {z5 z6 : Option Value} (kk : ∀ (S' : PS) (f' : Nat → Int64) (M' : MS) (cs' sl' : Nat) (z5 z6 : Option Value), LI G S' x m Am M' (k + 1) → cs' ≤ 100 + 1010 * (k + 1) → sl' ≤ 20000 + 13000 * (k + 1) → ZW p l e room_1 s mi args below meth c D cI cZ cO A Q (oC cJ o f') 7 S' cs' sl' 962 [some (.ref b), some (.ref x), some (.ref m), some (.ref o), some (.int (nI (4 * k))), z5, z6] []) : ZW p l e room_1 s mi args below meth c D cI cZ cO A Q (oC cJ o f) 7 S cs sl 772 [some (.ref b), some (.ref x), some (.ref m), some (.ref o), some (.int (nI (4 * k))), z5, z6] [] := by
  obtain ⟨⟨n0, ar, L, C, hC⟩, hR, hMI⟩ := hI
  have hc : k < 512 := by omega
  refine z_aload_n h0 dL_law_772 rfl ?_
  refine z_aload_n h0 dL_law_773 rfl ?_
  refine z_iload h0 dL_law_774 rfl ?_
  refine z_iconst (v := 1) h0 dL_law_776 (by decide) ?_
  refine z_iadd h0 dL_law_777 ?_
  refine z_top (y := nI (4 * k + 1)) (nI_add _ _) ?_
  refine z_sld h0 hX hbl hbA (j := 4 * k + 1) (nI_toInt (by omega)) (by omega) dL_law_778 ?_
  refine z_aload_n h0 dL_law_779 rfl ?_
  refine z_iload h0 dL_law_780 rfl ?_
  refine z_iconst (v := 2) h0 dL_law_782 (by decide) ?_
  refine z_iadd h0 dL_law_783 ?_
  refine z_top (y := nI (4 * k + 2)) (nI_add _ _) ?_
  refine z_sld h0 hX hbl hbA (j := 4 * k + 2) (nI_toInt (by omega)) (by omega) dL_law_784 ?_
  refine z_aload_n h0 dL_law_785 rfl ?_
  refine z_hS (n := 4) (As := [_, _, _, _]) h0 hJ hts hown (c_L_message hl hC hMI hc) gL_law_L_message rfl (by decide +kernel) ⟨Nat.le_of_ble_eq_true rfl, Nat.le_of_ble_eq_true rfl⟩ dL_law_786 rfl rfl (Nat.le_of_ble_eq_true rfl) ⟨by show cs + 2 ≤ 601024; omega, by show sl + 12 ≤ 7293034; omega⟩ (fun r1 S1 f1 hp1 => ?_)
  obtain ⟨hr1, hf1, hC1, hF1⟩ := hp1
  have hR1 := RF_KF hF1 hR
  subst hr1
  refine z_istore (lo' := [_, _, _, _, _, _, _]) h0 dL_law_789 (by decide) rfl rfl ?_
  refine z_aload_n h0 dL_law_791 rfl ?_
  refine z_aload_n h0 dL_law_792 rfl ?_
  refine z_iload h0 dL_law_793 rfl ?_
  refine z_iconst (v := 1) h0 dL_law_795 (by decide) ?_
  refine z_iadd h0 dL_law_796 ?_
  refine z_top (y := nI (4 * k + 1)) (nI_add _ _) ?_
  refine z_sld h0 hX hbl hbA (j := 4 * k + 1) (nI_toInt (by omega)) (by omega) dL_law_797 ?_
  refine z_aload_n h0 dL_law_798 rfl ?_
  refine z_iload h0 dL_law_799 rfl ?_
  refine z_iconst (v := 2) h0 dL_law_801 (by decide) ?_
  refine z_iadd h0 dL_law_802 ?_
  refine z_top (y := nI (4 * k + 2)) (nI_add _ _) ?_
  refine z_sld h0 hX hbl hbA (j := 4 * k + 2) (nI_toInt (by omega)) (by omega) dL_law_803 ?_
  refine z_hCi (n := 2) (As := [_, _]) h0 hts hown (c_X6_message hR1 hMI hc) gL_law_X6_message rfl (by decide +kernel) ⟨Nat.le_of_ble_eq_true rfl, Nat.le_of_ble_eq_true rfl⟩ kOk6 rfl (RF_m hR1) dL_law_804 rfl rfl (Nat.le_of_ble_eq_true rfl) ⟨by show cs + 2 + 0 ≤ 601024; omega, by show sl + 12 + 0 ≤ 7293034; omega⟩ (fun r2 S2 hp804 => ?_)
  obtain ⟨hX2, hcd2, hr2⟩ := hp804
  have hC2 := Rep_RX (RF_m hR1) hX2 hC1
  have hR2 := RX_base hX2
  refine z_istore (lo' := [_, _, _, _, _, _, _]) h0 dL_law_807 (by decide) rfl rfl ?_
  refine z_aload_n h0 dL_law_809 rfl ?_
  refine z_hCi (n := 0) (As := []) h0 hts hown (c_X6_thrown (RF_m hR2)) gL_law_X6_thrown rfl (by decide +kernel) ⟨Nat.le_of_ble_eq_true rfl, Nat.le_of_ble_eq_true rfl⟩ kOk6 rfl (RF_m hR2) dL_law_810 rfl rfl (Nat.le_of_ble_eq_true rfl) ⟨by show cs + 2 + 0 + 0 ≤ 601024; omega, by show sl + 12 + 0 + 0 ≤ 7293034; omega⟩ (fun r3 S3 hp810 => ?_)
  obtain ⟨rfl, hr3⟩ := hp810
  rw [hcd2] at hr3
  subst hr3
  refine z_iload h0 dL_law_813 rfl ?_
  refine z_icmp_eq (tgt := 820) h0 dL_law_815 (by decide) (fun _ => ?_) (fun h => absurd rfl h)
  refine z_iload h0 dL_law_820 rfl ?_
  refine z_if_ne (tgt := 837) h0 dL_law_822 (by decide) (fun _ => ?_) (fun h5 => ?_)
  · refine z_goto (tgt := 962) h0 dL_law_837 (by decide) ?_
    exact kk S2 f1 (oMessage M (xs (4 * k + 1)) (xs (4 * k + 2))).2.2 _ _ _ _ ⟨hC2, hR2, (by rw [same_oMessage]; exact MI_up hMI)⟩ (by show cs + 2 + 0 + 0 ≤ _; omega) (by show sl + 12 + 0 + 0 ≤ _; omega)
  · have h00 := code_0 h5 le_oMessage
    have hv : f1 0 = (oMessage M (xs (4 * k + 1)) (xs (4 * k + 2))).2.1.toInt64 := hf1 h00
    have hr := hr2 h00
    refine z_aload_n h0 dL_law_825 rfl ?_
    refine z_iconst (v := 0) h0 dL_law_826 (by decide) ?_
    refine z_hald h0 hJ dL_law_827 ?_
    refine z_iload h0 dL_law_828 rfl ?_
    refine z_i2l h0 dL_law_830 ?_
    refine z_lcmp h0 dL_law_831 ?_
    refine z_top (y := 0) (by rw [hv, hr]; exact cmp_self _) ?_
    refine z_if_eq (tgt := 837) h0 dL_law_832 (by decide) (fun _ => ?_) (fun h => absurd rfl h)
    refine z_goto (tgt := 962) h0 dL_law_837 (by decide) ?_
    exact kk S2 f1 (oMessage M (xs (4 * k + 1)) (xs (4 * k + 2))).2.2 _ _ _ _ ⟨hC2, hR2, (by rw [same_oMessage]; exact MI_up hMI)⟩ (by show cs + 2 + 0 + 0 ≤ _; omega) (by show sl + 12 + 0 + 0 ≤ _; omega)

set_option maxRecDepth 100000 in
set_option maxHeartbeats 4000000 in
theorem law_12 (h0 : ZC p s c code 7 D cI cZ cO A G) (hJ : va_K D vwCl [(cJ, .long)] s) (hts : ∀ w ∈ wsL_law, w.before args s = true) (hown : s.vm.findClass RL = some mi.cls) (hl : l.stackTraces = false) {b Ln : Nat} {xs : Nat → Int32} (hX : va_X b Ln xs s s.heap) (hbl : b < s.heap.size) (hbA : ¬ A b) {k x m : Nat} {Am : Nat → Nat} {M : MS} (hk : 4 * k + 4 ≤ Ln) (hL : Ln ≤ 2048) (hI : LI G S x m Am M k) (hcs : cs ≤ 100 + 1010 * k) (hsl : sl ≤ 20000 + 13000 * k) {z5 z6 : Option Value} (kk : ∀ (S' : PS) (f' : Nat → Int64) (M' : MS) (cs' sl' : Nat) (z5 z6 : Option Value), LI G S' x m Am M' (k + 1) → cs' ≤ 100 + 1010 * (k + 1) → sl' ≤ 20000 + 13000 * (k + 1) → ZW p l e room_1 s mi args below meth c D cI cZ cO A Q (oC cJ o f') 7 S' cs' sl' 962 [some (.ref b), some (.ref x), some (.ref m), some (.ref o), some (.int (nI (4 * k))), z5, z6] []) : ZW p l e room_1 s mi args below meth c D cI cZ cO A Q (oC cJ o f) 7 S cs sl 840 [some (.ref b), some (.ref x), some (.ref m), some (.ref o), some (.int (nI (4 * k))), z5, z6] [] := by
  obtain ⟨⟨n0, ar, L, C, hC⟩, hR, hMI⟩ := hI
  have hc : k < 512 := by omega
  refine z_aload_n h0 dL_law_840 rfl ?_
  refine z_hCi (n := 0) (As := []) h0 hts hown (c_X5_entries hC hMI hc) gL_law_X5_entries rfl (by decide +kernel) ⟨Nat.le_of_ble_eq_true rfl, Nat.le_of_ble_eq_true rfl⟩ kOk5 rfl hC.1.1 dL_law_841 rfl rfl (Nat.le_of_ble_eq_true rfl) ⟨by show cs + 0 ≤ 601024; omega, by show sl + 0 ≤ 7293034; omega⟩ (fun r1 S1 hp841 => ?_)
  obtain ⟨rfl, hr1⟩ := hp841
  refine z_aload_n h0 dL_law_844 rfl ?_
  refine z_hCi (n := 0) (As := []) h0 hts hown (c_X6_entries hR hMI hc) gL_law_X6_entries rfl (by decide +kernel) ⟨Nat.le_of_ble_eq_true rfl, Nat.le_of_ble_eq_true rfl⟩ kOk6 rfl (RF_m hR) dL_law_845 rfl rfl (Nat.le_of_ble_eq_true rfl) ⟨by show cs + 0 + 0 ≤ 601024; omega, by show sl + 0 + 0 ≤ 7293034; omega⟩ (fun r2 S2 hp845 => ?_)
  obtain ⟨hX2, hr2⟩ := hp845
  have hC2 := Rep_RX (RF_m hR) hX2 ⟨n0, ar, L, C, hC⟩
  have hR2 := RX_base hX2
  refine z_icmp_eq (tgt := 962) h0 dL_law_848 (by decide) (fun _ => ?_) (fun h => absurd (hr1.trans hr2.symm) h)
  exact kk S2 f M _ _ _ _ ⟨hC2, hR2, MI_up hMI⟩ (by show cs + 0 + 0 ≤ _; omega) (by show sl + 0 + 0 ≤ _; omega)

set_option maxRecDepth 100000 in
set_option maxHeartbeats 4000000 in
theorem law_13 (h0 : ZC p s c code 7 D cI cZ cO A G) (hJ : va_K D vwCl [(cJ, .long)] s) (hts : ∀ w ∈ wsL_law, w.before args s = true) (hown : s.vm.findClass RL = some mi.cls) (hl : l.stackTraces = false) {b Ln : Nat} {xs : Nat → Int32} (hX : va_X b Ln xs s s.heap) (hbl : b < s.heap.size) (hbA : ¬ A b) {k x m : Nat} {Am : Nat → Nat} {M : MS} (hk : 4 * k + 4 ≤ Ln) (hL : Ln ≤ 2048) (hI : LI G S x m Am M k) (hcs : cs ≤ 100 + 1010 * k) (hsl : sl ≤ 20000 + 13000 * k) {z5 z6 : Option Value} (kk : ∀ (S' : PS) (f' : Nat → Int64) (M' : MS) (cs' sl' : Nat) (z5 z6 : Option Value), LI G S' x m Am M' (k + 1) → cs' ≤ 100 + 1010 * (k + 1) → sl' ≤ 20000 + 13000 * (k + 1) → ZW p l e room_1 s mi args below meth c D cI cZ cO A Q (oC cJ o f') 7 S' cs' sl' 962 [some (.ref b), some (.ref x), some (.ref m), some (.ref o), some (.int (nI (4 * k))), z5, z6] []) : ZW p l e room_1 s mi args below meth c D cI cZ cO A Q (oC cJ o f) 7 S cs sl 853 [some (.ref b), some (.ref x), some (.ref m), some (.ref o), some (.int (nI (4 * k))), z5, z6] [] := by
  obtain ⟨⟨n0, ar, L, C, hC⟩, hR, hMI⟩ := hI
  have hc : k < 512 := by omega
  refine z_aload_n h0 dL_law_853 rfl ?_
  refine z_aload_n h0 dL_law_854 rfl ?_
  refine z_iload h0 dL_law_855 rfl ?_
  refine z_iconst (v := 1) h0 dL_law_857 (by decide) ?_
  refine z_iadd h0 dL_law_858 ?_
  refine z_top (y := nI (4 * k + 1)) (nI_add _ _) ?_
  refine z_sld h0 hX hbl hbA (j := 4 * k + 1) (nI_toInt (by omega)) (by omega) dL_law_859 ?_
  refine z_aload_n h0 dL_law_860 rfl ?_
  refine z_iload h0 dL_law_861 rfl ?_
  refine z_iconst (v := 2) h0 dL_law_863 (by decide) ?_
  refine z_iadd h0 dL_law_864 ?_
  refine z_top (y := nI (4 * k + 2)) (nI_add _ _) ?_
  refine z_sld h0 hX hbl hbA (j := 4 * k + 2) (nI_toInt (by omega)) (by omega) dL_law_865 ?_
  refine z_aload_n h0 dL_law_866 rfl ?_
  refine z_hS (n := 4) (As := [_, _, _, _]) h0 hJ hts hown (c_L_entry hl hC hMI hc) gL_law_L_entry rfl (by decide +kernel) ⟨Nat.le_of_ble_eq_true rfl, Nat.le_of_ble_eq_true rfl⟩ dL_law_867 rfl rfl (Nat.le_of_ble_eq_true rfl) ⟨by show cs + 2 ≤ 601024; omega, by show sl + 12 ≤ 7293034; omega⟩ (fun r1 S1 f1 hp1 => ?_)
  obtain ⟨hr1, hf1, hC1, hF1⟩ := hp1
  have hR1 := RF_KF hF1 hR
  subst hr1
  refine z_istore (lo' := [_, _, _, _, _, _, _]) h0 dL_law_870 (by decide) rfl rfl ?_
  refine z_aload_n h0 dL_law_872 rfl ?_
  refine z_aload_n h0 dL_law_873 rfl ?_
  refine z_iload h0 dL_law_874 rfl ?_
  refine z_iconst (v := 1) h0 dL_law_876 (by decide) ?_
  refine z_iadd h0 dL_law_877 ?_
  refine z_top (y := nI (4 * k + 1)) (nI_add _ _) ?_
  refine z_sld h0 hX hbl hbA (j := 4 * k + 1) (nI_toInt (by omega)) (by omega) dL_law_878 ?_
  refine z_aload_n h0 dL_law_879 rfl ?_
  refine z_iload h0 dL_law_880 rfl ?_
  refine z_iconst (v := 2) h0 dL_law_882 (by decide) ?_
  refine z_iadd h0 dL_law_883 ?_
  refine z_top (y := nI (4 * k + 2)) (nI_add _ _) ?_
  refine z_sld h0 hX hbl hbA (j := 4 * k + 2) (nI_toInt (by omega)) (by omega) dL_law_884 ?_
  refine z_hCi (n := 2) (As := [_, _]) h0 hts hown (c_X6_entry hR1 hMI hc) gL_law_X6_entry rfl (by decide +kernel) ⟨Nat.le_of_ble_eq_true rfl, Nat.le_of_ble_eq_true rfl⟩ kOk6 rfl (RF_m hR1) dL_law_885 rfl rfl (Nat.le_of_ble_eq_true rfl) ⟨by show cs + 2 + 0 ≤ 601024; omega, by show sl + 12 + 0 ≤ 7293034; omega⟩ (fun r2 S2 hp885 => ?_)
  obtain ⟨hX2, hcd2, hr2⟩ := hp885
  have hC2 := Rep_RX (RF_m hR1) hX2 hC1
  have hR2 := RX_base hX2
  refine z_istore (lo' := [_, _, _, _, _, _, _]) h0 dL_law_888 (by decide) rfl rfl ?_
  refine z_aload_n h0 dL_law_890 rfl ?_
  refine z_hCi (n := 0) (As := []) h0 hts hown (c_X6_thrown (RF_m hR2)) gL_law_X6_thrown rfl (by decide +kernel) ⟨Nat.le_of_ble_eq_true rfl, Nat.le_of_ble_eq_true rfl⟩ kOk6 rfl (RF_m hR2) dL_law_891 rfl rfl (Nat.le_of_ble_eq_true rfl) ⟨by show cs + 2 + 0 + 0 ≤ 601024; omega, by show sl + 12 + 0 + 0 ≤ 7293034; omega⟩ (fun r3 S3 hp891 => ?_)
  obtain ⟨rfl, hr3⟩ := hp891
  rw [hcd2] at hr3
  subst hr3
  refine z_iload h0 dL_law_894 rfl ?_
  refine z_icmp_eq (tgt := 901) h0 dL_law_896 (by decide) (fun _ => ?_) (fun h => absurd rfl h)
  refine z_iload h0 dL_law_901 rfl ?_
  refine z_if_ne (tgt := 918) h0 dL_law_903 (by decide) (fun _ => ?_) (fun h5 => ?_)
  · refine z_goto (tgt := 962) h0 dL_law_918 (by decide) ?_
    exact kk S2 f1 (oEntry M (xs (4 * k + 1)) (xs (4 * k + 2))).2.2 _ _ _ _ ⟨hC2, hR2, (by rw [same_oEntry]; exact MI_up hMI)⟩ (by show cs + 2 + 0 + 0 ≤ _; omega) (by show sl + 12 + 0 + 0 ≤ _; omega)
  · have h00 := code_0 h5 le_oEntry
    have hv : f1 0 = (oEntry M (xs (4 * k + 1)) (xs (4 * k + 2))).2.1.toInt64 := hf1 h00
    have hr := hr2 h00
    refine z_aload_n h0 dL_law_906 rfl ?_
    refine z_iconst (v := 0) h0 dL_law_907 (by decide) ?_
    refine z_hald h0 hJ dL_law_908 ?_
    refine z_iload h0 dL_law_909 rfl ?_
    refine z_i2l h0 dL_law_911 ?_
    refine z_lcmp h0 dL_law_912 ?_
    refine z_top (y := 0) (by rw [hv, hr]; exact cmp_self _) ?_
    refine z_if_eq (tgt := 918) h0 dL_law_913 (by decide) (fun _ => ?_) (fun h => absurd rfl h)
    refine z_goto (tgt := 962) h0 dL_law_918 (by decide) ?_
    exact kk S2 f1 (oEntry M (xs (4 * k + 1)) (xs (4 * k + 2))).2.2 _ _ _ _ ⟨hC2, hR2, (by rw [same_oEntry]; exact MI_up hMI)⟩ (by show cs + 2 + 0 + 0 ≤ _; omega) (by show sl + 12 + 0 + 0 ≤ _; omega)

set_option maxRecDepth 100000 in
set_option maxHeartbeats 4000000 in
theorem law_14 (h0 : ZC p s c code 7 D cI cZ cO A G) (hJ : va_K D vwCl [(cJ, .long)] s) (hts : ∀ w ∈ wsL_law, w.before args s = true) (hown : s.vm.findClass RL = some mi.cls) (hl : l.stackTraces = false) {b Ln : Nat} {xs : Nat → Int32} (hX : va_X b Ln xs s s.heap) (hbl : b < s.heap.size) (hbA : ¬ A b) {k x m : Nat} {Am : Nat → Nat} {M : MS} (hk : 4 * k + 4 ≤ Ln) (hL : Ln ≤ 2048) (hI : LI G S x m Am M k) (hcs : cs ≤ 100 + 1010 * k) (hsl : sl ≤ 20000 + 13000 * k) {z5 z6 : Option Value} (kk : ∀ (S' : PS) (f' : Nat → Int64) (M' : MS) (cs' sl' : Nat) (z5 z6 : Option Value), LI G S' x m Am M' (k + 1) → cs' ≤ 100 + 1010 * (k + 1) → sl' ≤ 20000 + 13000 * (k + 1) → ZW p l e room_1 s mi args below meth c D cI cZ cO A Q (oC cJ o f') 7 S' cs' sl' 962 [some (.ref b), some (.ref x), some (.ref m), some (.ref o), some (.int (nI (4 * k))), z5, z6] []) : ZW p l e room_1 s mi args below meth c D cI cZ cO A Q (oC cJ o f) 7 S cs sl 921 [some (.ref b), some (.ref x), some (.ref m), some (.ref o), some (.int (nI (4 * k))), z5, z6] [] := by
  obtain ⟨⟨n0, ar, L, C, hC⟩, hR, hMI⟩ := hI
  have hc : k < 512 := by omega
  refine z_aload_n h0 dL_law_921 rfl ?_
  refine z_hCl (n := 0) (As := []) h0 hts hown (c_X5_balances hC hMI hc) gL_law_X5_balances rfl (by decide +kernel) ⟨Nat.le_of_ble_eq_true rfl, Nat.le_of_ble_eq_true rfl⟩ kOk5 rfl hC.1.1 dL_law_922 rfl rfl (Nat.le_of_ble_eq_true rfl) ⟨by show cs + 0 ≤ 601024; omega, by show sl + 0 ≤ 7293034; omega⟩ (fun r1 S1 hp922 => ?_)
  obtain ⟨rfl, hr1⟩ := hp922
  refine z_aload_n h0 dL_law_925 rfl ?_
  refine z_hCl (n := 0) (As := []) h0 hts hown (c_X6_balances hR hMI hc) gL_law_X6_balances rfl (by decide +kernel) ⟨Nat.le_of_ble_eq_true rfl, Nat.le_of_ble_eq_true rfl⟩ kOk6 rfl (RF_m hR) dL_law_926 rfl rfl (Nat.le_of_ble_eq_true rfl) ⟨by show cs + 0 + 0 ≤ 601024; omega, by show sl + 0 + 0 ≤ 7293034; omega⟩ (fun r2 S2 hp926 => ?_)
  obtain ⟨hX2, hr2⟩ := hp926
  have hC2 := Rep_RX (RF_m hR) hX2 ⟨n0, ar, L, C, hC⟩
  have hR2 := RX_base hX2
  refine z_lcmp h0 dL_law_929 ?_
  refine z_top (y := 0) (by rw [hr1, hr2]; exact cmp_self _) ?_
  refine z_if_eq (tgt := 962) h0 dL_law_930 (by decide) (fun _ => ?_) (fun h => absurd rfl h)
  exact kk S2 f M _ _ _ _ ⟨hC2, hR2, MI_up hMI⟩ (by show cs + 0 + 0 ≤ _; omega) (by show sl + 0 + 0 ≤ _; omega)

set_option maxRecDepth 100000 in
set_option maxHeartbeats 4000000 in
theorem law_15 (h0 : ZC p s c code 7 D cI cZ cO A G) (hJ : va_K D vwCl [(cJ, .long)] s) (hts : ∀ w ∈ wsL_law, w.before args s = true) (hown : s.vm.findClass RL = some mi.cls) (hl : l.stackTraces = false) {b Ln : Nat} {xs : Nat → Int32} (hX : va_X b Ln xs s s.heap) (hbl : b < s.heap.size) (hbA : ¬ A b) {k x m : Nat} {Am : Nat → Nat} {M : MS} (hk : 4 * k + 4 ≤ Ln) (hL : Ln ≤ 2048) (hI : LI G S x m Am M k) (hcs : cs ≤ 100 + 1010 * k) (hsl : sl ≤ 20000 + 13000 * k) {z5 z6 : Option Value} (kk : ∀ (S' : PS) (f' : Nat → Int64) (M' : MS) (cs' sl' : Nat) (z5 z6 : Option Value), LI G S' x m Am M' (k + 1) → cs' ≤ 100 + 1010 * (k + 1) → sl' ≤ 20000 + 13000 * (k + 1) → ZW p l e room_1 s mi args below meth c D cI cZ cO A Q (oC cJ o f') 7 S' cs' sl' 962 [some (.ref b), some (.ref x), some (.ref m), some (.ref o), some (.int (nI (4 * k))), z5, z6] []) : ZW p l e room_1 s mi args below meth c D cI cZ cO A Q (oC cJ o f) 7 S cs sl 935 [some (.ref b), some (.ref x), some (.ref m), some (.ref o), some (.int (nI (4 * k))), z5, z6] [] := by
  obtain ⟨⟨n0, ar, L, C, hC⟩, hR, hMI⟩ := hI
  have hc : k < 512 := by omega
  refine z_aload_n h0 dL_law_935 rfl ?_
  refine z_hCl (n := 0) (As := []) h0 hts hown (c_X5_pending hC hMI hc) gL_law_X5_pending rfl (by decide +kernel) ⟨Nat.le_of_ble_eq_true rfl, Nat.le_of_ble_eq_true rfl⟩ kOk5 rfl hC.1.1 dL_law_936 rfl rfl (Nat.le_of_ble_eq_true rfl) ⟨by show cs + 1000 ≤ 601024; omega, by show sl + 4000 ≤ 7293034; omega⟩ (fun r1 S1 hp936 => ?_)
  obtain ⟨rfl, hr1⟩ := hp936
  refine z_aload_n h0 dL_law_939 rfl ?_
  refine z_hCl (n := 0) (As := []) h0 hts hown (c_X6_pending hR hMI hc) gL_law_X6_pending rfl (by decide +kernel) ⟨Nat.le_of_ble_eq_true rfl, Nat.le_of_ble_eq_true rfl⟩ kOk6 rfl (RF_m hR) dL_law_940 rfl rfl (Nat.le_of_ble_eq_true rfl) ⟨by show cs + 1000 + 0 ≤ 601024; omega, by show sl + 4000 + 0 ≤ 7293034; omega⟩ (fun r2 S2 hp940 => ?_)
  obtain ⟨hX2, hr2⟩ := hp940
  have hC2 := Rep_RX (RF_m hR) hX2 ⟨n0, ar, L, C, hC⟩
  have hR2 := RX_base hX2
  refine z_lcmp h0 dL_law_943 ?_
  refine z_top (y := 0) (by rw [hr1, hr2]; exact cmp_self _) ?_
  refine z_if_eq (tgt := 962) h0 dL_law_944 (by decide) (fun _ => ?_) (fun h => absurd rfl h)
  exact kk S2 f M _ _ _ _ ⟨hC2, hR2, MI_up hMI⟩ (by show cs + 1000 + 0 ≤ _; omega) (by show sl + 4000 + 0 ≤ _; omega)

set_option maxRecDepth 100000 in
set_option maxHeartbeats 4000000 in
theorem law_16 (h0 : ZC p s c code 7 D cI cZ cO A G) (hJ : va_K D vwCl [(cJ, .long)] s) (hts : ∀ w ∈ wsL_law, w.before args s = true) (hown : s.vm.findClass RL = some mi.cls) (hl : l.stackTraces = false) {b Ln : Nat} {xs : Nat → Int32} (hX : va_X b Ln xs s s.heap) (hbl : b < s.heap.size) (hbA : ¬ A b) {k x m : Nat} {Am : Nat → Nat} {M : MS} (hk : 4 * k + 4 ≤ Ln) (hL : Ln ≤ 2048) (hI : LI G S x m Am M k) (hcs : cs ≤ 100 + 1010 * k) (hsl : sl ≤ 20000 + 13000 * k) {z5 z6 : Option Value} (kk : ∀ (S' : PS) (f' : Nat → Int64) (M' : MS) (cs' sl' : Nat) (z5 z6 : Option Value), LI G S' x m Am M' (k + 1) → cs' ≤ 100 + 1010 * (k + 1) → sl' ≤ 20000 + 13000 * (k + 1) → ZW p l e room_1 s mi args below meth c D cI cZ cO A Q (oC cJ o f') 7 S' cs' sl' 962 [some (.ref b), some (.ref x), some (.ref m), some (.ref o), some (.int (nI (4 * k))), z5, z6] []) : ZW p l e room_1 s mi args below meth c D cI cZ cO A Q (oC cJ o f) 7 S cs sl 949 [some (.ref b), some (.ref x), some (.ref m), some (.ref o), some (.int (nI (4 * k))), z5, z6] [] := by
  obtain ⟨⟨n0, ar, L, C, hC⟩, hR, hMI⟩ := hI
  have hc : k < 512 := by omega
  refine z_aload_n h0 dL_law_949 rfl ?_
  refine z_hCi (n := 0) (As := []) h0 hts hown (c_X5_purses hC hMI hc) gL_law_X5_purses rfl (by decide +kernel) ⟨Nat.le_of_ble_eq_true rfl, Nat.le_of_ble_eq_true rfl⟩ kOk5 rfl hC.1.1 dL_law_950 rfl rfl (Nat.le_of_ble_eq_true rfl) ⟨by show cs + 0 ≤ 601024; omega, by show sl + 0 ≤ 7293034; omega⟩ (fun r1 S1 hp950 => ?_)
  obtain ⟨rfl, hr1⟩ := hp950
  refine z_aload_n h0 dL_law_953 rfl ?_
  refine z_hCi (n := 0) (As := []) h0 hts hown (c_X6_purses hR hMI hc) gL_law_X6_purses rfl (by decide +kernel) ⟨Nat.le_of_ble_eq_true rfl, Nat.le_of_ble_eq_true rfl⟩ kOk6 rfl (RF_m hR) dL_law_954 rfl rfl (Nat.le_of_ble_eq_true rfl) ⟨by show cs + 0 + 0 ≤ 601024; omega, by show sl + 0 + 0 ≤ 7293034; omega⟩ (fun r2 S2 hp954 => ?_)
  obtain ⟨hX2, hr2⟩ := hp954
  have hC2 := Rep_RX (RF_m hR) hX2 ⟨n0, ar, L, C, hC⟩
  have hR2 := RX_base hX2
  refine z_icmp_eq (tgt := 962) h0 dL_law_957 (by decide) (fun _ => ?_) (fun h => absurd (hr1.trans hr2.symm) h)
  exact kk S2 f M _ _ _ _ ⟨hC2, hR2, MI_up hMI⟩ (by show cs + 0 + 0 ≤ _; omega) (by show sl + 0 + 0 ≤ _; omega)

end LAW
